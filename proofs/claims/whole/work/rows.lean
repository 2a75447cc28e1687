section
-- ===== PART A: goes FIRST, ahead of the names: the tables' words, and 'selects' of the private methods out of them =====
/-- a private method of a class that the tables say can be made, by its rows of tables_1 -/
def lw_okq (q : MethodName × Nat) : Prop := (q.1.cls ≠ "java/lang/invoke/MethodHandle" ∧ q.1.cls ≠ "java/lang/invoke/VarHandle") ∧ Cond.instantiable q.1.cls q.2 ∈ tables_1 ∧ Cond.privateMethod q.1 ∈ tables_1 ∧ Cond.instanceMethod q.1 ∈ tables_1
theorem lw_p0 : lw_okq (⟨"SleepHarbour$Told", "hasRoomFor", "(I)Z"⟩, 10) := ⟨⟨by decide +kernel, by decide +kernel⟩, List.mem_of_getElem? (i := 37) (by decide +kernel), List.mem_of_getElem? (i := 271) (by decide +kernel), List.mem_of_getElem? (i := 272) (by decide +kernel)⟩
theorem lw_p1 : lw_okq (⟨"SleepHarbour$Told", "hearsFirst", "(I)Z"⟩, 10) := ⟨⟨by decide +kernel, by decide +kernel⟩, List.mem_of_getElem? (i := 37) (by decide +kernel), List.mem_of_getElem? (i := 275) (by decide +kernel), List.mem_of_getElem? (i := 276) (by decide +kernel)⟩
theorem lw_p2 : lw_okq (⟨"SleepHarbour$Told", "hearsKind", "(I)Z"⟩, 10) := ⟨⟨by decide +kernel, by decide +kernel⟩, List.mem_of_getElem? (i := 37) (by decide +kernel), List.mem_of_getElem? (i := 279) (by decide +kernel), List.mem_of_getElem? (i := 280) (by decide +kernel)⟩
theorem lw_p3 : lw_okq (⟨"SleepHarbour$Harbour", "spoilt", "(II)I"⟩, 7) := ⟨⟨by decide +kernel, by decide +kernel⟩, List.mem_of_getElem? (i := 87) (by decide +kernel), List.mem_of_getElem? (i := 391) (by decide +kernel), List.mem_of_getElem? (i := 392) (by decide +kernel)⟩
theorem lw_p4 : lw_okq (⟨"SleepHarbour$Harbour", "sleepIn", "(II)V"⟩, 7) := ⟨⟨by decide +kernel, by decide +kernel⟩, List.mem_of_getElem? (i := 87) (by decide +kernel), List.mem_of_getElem? (i := 404) (by decide +kernel), List.mem_of_getElem? (i := 405) (by decide +kernel)⟩
theorem lw_p5 : lw_okq (⟨"SleepHarbour$Harbour", "lieOffLonger", "()V"⟩, 7) := ⟨⟨by decide +kernel, by decide +kernel⟩, List.mem_of_getElem? (i := 87) (by decide +kernel), List.mem_of_getElem? (i := 408) (by decide +kernel), List.mem_of_getElem? (i := 409) (by decide +kernel)⟩
theorem lw_p6 : lw_okq (⟨"SleepHarbour$Harbour", "bringNightmares", "()V"⟩, 7) := ⟨⟨by decide +kernel, by decide +kernel⟩, List.mem_of_getElem? (i := 87) (by decide +kernel), List.mem_of_getElem? (i := 414) (by decide +kernel), List.mem_of_getElem? (i := 415) (by decide +kernel)⟩
theorem lw_p7 : lw_okq (⟨"SleepHarbour$Harbour", "moorInLeast", "(I)V"⟩, 7) := ⟨⟨by decide +kernel, by decide +kernel⟩, List.mem_of_getElem? (i := 87) (by decide +kernel), List.mem_of_getElem? (i := 418) (by decide +kernel), List.mem_of_getElem? (i := 419) (by decide +kernel)⟩
theorem lw_p8 : lw_okq (⟨"SleepHarbour$Harbour", "dredge", "()V"⟩, 7) := ⟨⟨by decide +kernel, by decide +kernel⟩, List.mem_of_getElem? (i := 87) (by decide +kernel), List.mem_of_getElem? (i := 422) (by decide +kernel), List.mem_of_getElem? (i := 423) (by decide +kernel)⟩
theorem lw_p9 : lw_okq (⟨"SleepHarbour", "lookAhead", "(I)V"⟩, 12) := ⟨⟨by decide +kernel, by decide +kernel⟩, List.mem_of_getElem? (i := 14) (by decide +kernel), List.mem_of_getElem? (i := 471) (by decide +kernel), List.mem_of_getElem? (i := 472) (by decide +kernel)⟩
theorem lw_p10 : lw_okq (⟨"SleepHarbour", "allBerths", "()I"⟩, 12) := ⟨⟨by decide +kernel, by decide +kernel⟩, List.mem_of_getElem? (i := 14) (by decide +kernel), List.mem_of_getElem? (i := 497) (by decide +kernel), List.mem_of_getElem? (i := 498) (by decide +kernel)⟩
theorem lw_p11 : lw_okq (⟨"SleepHarbour$Planner", "choose", "(III)V"⟩, 5) := ⟨⟨by decide +kernel, by decide +kernel⟩, List.mem_of_getElem? (i := 165) (by decide +kernel), List.mem_of_getElem? (i := 507) (by decide +kernel), List.mem_of_getElem? (i := 508) (by decide +kernel)⟩
theorem lw_p12 : lw_okq (⟨"SleepHarbour$Planner", "weigh", "(I)V"⟩, 5) := ⟨⟨by decide +kernel, by decide +kernel⟩, List.mem_of_getElem? (i := 165) (by decide +kernel), List.mem_of_getElem? (i := 511) (by decide +kernel), List.mem_of_getElem? (i := 512) (by decide +kernel)⟩
theorem lw_p13 : lw_okq (⟨"SleepHarbour$Planner", "isWorthwhile", "(II)Z"⟩, 5) := ⟨⟨by decide +kernel, by decide +kernel⟩, List.mem_of_getElem? (i := 165) (by decide +kernel), List.mem_of_getElem? (i := 519) (by decide +kernel), List.mem_of_getElem? (i := 520) (by decide +kernel)⟩
theorem lw_p14 : lw_okq (⟨"SleepHarbour$Harbour", "moors", "(II)Z"⟩, 7) := ⟨⟨by decide +kernel, by decide +kernel⟩, List.mem_of_getElem? (i := 87) (by decide +kernel), List.mem_of_getElem? (i := 538) (by decide +kernel), List.mem_of_getElem? (i := 539) (by decide +kernel)⟩
theorem lw_p15 : lw_okq (⟨"SleepHarbour$Harbour", "tows", "(I)Z"⟩, 7) := ⟨⟨by decide +kernel, by decide +kernel⟩, List.mem_of_getElem? (i := 87) (by decide +kernel), List.mem_of_getElem? (i := 543) (by decide +kernel), List.mem_of_getElem? (i := 544) (by decide +kernel)⟩
def lw_privs_1 : List (MethodName × Nat) := [(⟨"SleepHarbour$Told", "hasRoomFor", "(I)Z"⟩, 10), (⟨"SleepHarbour$Told", "hearsFirst", "(I)Z"⟩, 10), (⟨"SleepHarbour$Told", "hearsKind", "(I)Z"⟩, 10), (⟨"SleepHarbour$Harbour", "spoilt", "(II)I"⟩, 7), (⟨"SleepHarbour$Harbour", "sleepIn", "(II)V"⟩, 7), (⟨"SleepHarbour$Harbour", "lieOffLonger", "()V"⟩, 7), (⟨"SleepHarbour$Harbour", "bringNightmares", "()V"⟩, 7), (⟨"SleepHarbour$Harbour", "moorInLeast", "(I)V"⟩, 7), (⟨"SleepHarbour$Harbour", "dredge", "()V"⟩, 7), (⟨"SleepHarbour", "lookAhead", "(I)V"⟩, 12), (⟨"SleepHarbour", "allBerths", "()I"⟩, 12), (⟨"SleepHarbour$Planner", "choose", "(III)V"⟩, 5), (⟨"SleepHarbour$Planner", "weigh", "(I)V"⟩, 5), (⟨"SleepHarbour$Planner", "isWorthwhile", "(II)Z"⟩, 5), (⟨"SleepHarbour$Harbour", "moors", "(II)Z"⟩, 7), (⟨"SleepHarbour$Harbour", "tows", "(I)Z"⟩, 7)]
theorem lw_r1 : ∀ q ∈ lw_privs_1, lw_okq q := List.forall_mem_cons.mpr ⟨lw_p0, List.forall_mem_cons.mpr ⟨lw_p1, List.forall_mem_cons.mpr ⟨lw_p2, List.forall_mem_cons.mpr ⟨lw_p3, List.forall_mem_cons.mpr ⟨lw_p4, List.forall_mem_cons.mpr ⟨lw_p5, List.forall_mem_cons.mpr ⟨lw_p6, List.forall_mem_cons.mpr ⟨lw_p7, List.forall_mem_cons.mpr ⟨lw_p8, List.forall_mem_cons.mpr ⟨lw_p9, List.forall_mem_cons.mpr ⟨lw_p10, List.forall_mem_cons.mpr ⟨lw_p11, List.forall_mem_cons.mpr ⟨lw_p12, List.forall_mem_cons.mpr ⟨lw_p13, List.forall_mem_cons.mpr ⟨lw_p14, List.forall_mem_cons.mpr ⟨lw_p15, fun _ h => absurd h List.not_mem_nil⟩⟩⟩⟩⟩⟩⟩⟩⟩⟩⟩⟩⟩⟩⟩⟩
theorem lw_p16 : lw_okq (⟨"SleepHarbour$Choosers", "gain", "(IIII)I"⟩, 2) := ⟨⟨by decide +kernel, by decide +kernel⟩, List.mem_of_getElem? (i := 189) (by decide +kernel), List.mem_of_getElem? (i := 599) (by decide +kernel), List.mem_of_getElem? (i := 600) (by decide +kernel)⟩
theorem lw_p17 : lw_okq (⟨"SleepHarbour$Choosers", "berthChosen", "(II)I"⟩, 2) := ⟨⟨by decide +kernel, by decide +kernel⟩, List.mem_of_getElem? (i := 189) (by decide +kernel), List.mem_of_getElem? (i := 603) (by decide +kernel), List.mem_of_getElem? (i := 604) (by decide +kernel)⟩
theorem lw_p18 : lw_okq (⟨"SleepHarbour", "weightOf", "(II)I"⟩, 12) := ⟨⟨by decide +kernel, by decide +kernel⟩, List.mem_of_getElem? (i := 14) (by decide +kernel), List.mem_of_getElem? (i := 620) (by decide +kernel), List.mem_of_getElem? (i := 621) (by decide +kernel)⟩
theorem lw_p19 : lw_okq (⟨"SleepHarbourModel", "readPort", "()I"⟩, 37) := ⟨⟨by decide +kernel, by decide +kernel⟩, List.mem_of_getElem? (i := 647) (by decide +kernel), List.mem_of_getElem? (i := 781) (by decide +kernel), List.mem_of_getElem? (i := 782) (by decide +kernel)⟩
theorem lw_p20 : lw_okq (⟨"SleepHarbourModel", "readThing", "()Z"⟩, 37) := ⟨⟨by decide +kernel, by decide +kernel⟩, List.mem_of_getElem? (i := 647) (by decide +kernel), List.mem_of_getElem? (i := 785) (by decide +kernel), List.mem_of_getElem? (i := 786) (by decide +kernel)⟩
theorem lw_p21 : lw_okq (⟨"SleepHarbourModel", "readOneTide", "()Z"⟩, 37) := ⟨⟨by decide +kernel, by decide +kernel⟩, List.mem_of_getElem? (i := 647) (by decide +kernel), List.mem_of_getElem? (i := 789) (by decide +kernel), List.mem_of_getElem? (i := 790) (by decide +kernel)⟩
theorem lw_p22 : lw_okq (⟨"SleepHarbourModel", "figure", "(II)I"⟩, 37) := ⟨⟨by decide +kernel, by decide +kernel⟩, List.mem_of_getElem? (i := 647) (by decide +kernel), List.mem_of_getElem? (i := 793) (by decide +kernel), List.mem_of_getElem? (i := 794) (by decide +kernel)⟩
theorem lw_p23 : lw_okq (⟨"SleepHarbourModel", "readOneBerth", "()Z"⟩, 37) := ⟨⟨by decide +kernel, by decide +kernel⟩, List.mem_of_getElem? (i := 647) (by decide +kernel), List.mem_of_getElem? (i := 797) (by decide +kernel), List.mem_of_getElem? (i := 798) (by decide +kernel)⟩
theorem lw_p24 : lw_okq (⟨"SleepHarbourModel", "readOneDream", "()Z"⟩, 37) := ⟨⟨by decide +kernel, by decide +kernel⟩, List.mem_of_getElem? (i := 647) (by decide +kernel), List.mem_of_getElem? (i := 801) (by decide +kernel), List.mem_of_getElem? (i := 802) (by decide +kernel)⟩
theorem lw_p25 : lw_okq (⟨"SleepHarbourModel", "tideOf", "(I)I"⟩, 37) := ⟨⟨by decide +kernel, by decide +kernel⟩, List.mem_of_getElem? (i := 647) (by decide +kernel), List.mem_of_getElem? (i := 813) (by decide +kernel), List.mem_of_getElem? (i := 814) (by decide +kernel)⟩
theorem lw_p26 : lw_okq (⟨"SleepHarbourModel", "dreamsAt", "([II)I"⟩, 37) := ⟨⟨by decide +kernel, by decide +kernel⟩, List.mem_of_getElem? (i := 647) (by decide +kernel), List.mem_of_getElem? (i := 817) (by decide +kernel), List.mem_of_getElem? (i := 818) (by decide +kernel)⟩
theorem lw_p27 : lw_okq (⟨"SleepHarbourModel", "berthed", "([I)I"⟩, 37) := ⟨⟨by decide +kernel, by decide +kernel⟩, List.mem_of_getElem? (i := 647) (by decide +kernel), List.mem_of_getElem? (i := 821) (by decide +kernel), List.mem_of_getElem? (i := 822) (by decide +kernel)⟩
theorem lw_p28 : lw_okq (⟨"SleepHarbourModel", "woke", "()I"⟩, 37) := ⟨⟨by decide +kernel, by decide +kernel⟩, List.mem_of_getElem? (i := 647) (by decide +kernel), List.mem_of_getElem? (i := 825) (by decide +kernel), List.mem_of_getElem? (i := 826) (by decide +kernel)⟩
theorem lw_p29 : lw_okq (⟨"SleepHarbourModel", "plainly", "()V"⟩, 37) := ⟨⟨by decide +kernel, by decide +kernel⟩, List.mem_of_getElem? (i := 647) (by decide +kernel), List.mem_of_getElem? (i := 833) (by decide +kernel), List.mem_of_getElem? (i := 834) (by decide +kernel)⟩
theorem lw_p30 : lw_okq (⟨"SleepHarbourModel", "noBerth", "(I)Z"⟩, 37) := ⟨⟨by decide +kernel, by decide +kernel⟩, List.mem_of_getElem? (i := 647) (by decide +kernel), List.mem_of_getElem? (i := 837) (by decide +kernel), List.mem_of_getElem? (i := 838) (by decide +kernel)⟩
theorem lw_p31 : lw_okq (⟨"SleepHarbourModel", "waterOf", "([II)I"⟩, 37) := ⟨⟨by decide +kernel, by decide +kernel⟩, List.mem_of_getElem? (i := 647) (by decide +kernel), List.mem_of_getElem? (i := 841) (by decide +kernel), List.mem_of_getElem? (i := 842) (by decide +kernel)⟩
def lw_privs_2 : List (MethodName × Nat) := [(⟨"SleepHarbour$Choosers", "gain", "(IIII)I"⟩, 2), (⟨"SleepHarbour$Choosers", "berthChosen", "(II)I"⟩, 2), (⟨"SleepHarbour", "weightOf", "(II)I"⟩, 12), (⟨"SleepHarbourModel", "readPort", "()I"⟩, 37), (⟨"SleepHarbourModel", "readThing", "()Z"⟩, 37), (⟨"SleepHarbourModel", "readOneTide", "()Z"⟩, 37), (⟨"SleepHarbourModel", "figure", "(II)I"⟩, 37), (⟨"SleepHarbourModel", "readOneBerth", "()Z"⟩, 37), (⟨"SleepHarbourModel", "readOneDream", "()Z"⟩, 37), (⟨"SleepHarbourModel", "tideOf", "(I)I"⟩, 37), (⟨"SleepHarbourModel", "dreamsAt", "([II)I"⟩, 37), (⟨"SleepHarbourModel", "berthed", "([I)I"⟩, 37), (⟨"SleepHarbourModel", "woke", "()I"⟩, 37), (⟨"SleepHarbourModel", "plainly", "()V"⟩, 37), (⟨"SleepHarbourModel", "noBerth", "(I)Z"⟩, 37), (⟨"SleepHarbourModel", "waterOf", "([II)I"⟩, 37)]
theorem lw_r2 : ∀ q ∈ lw_privs_2, lw_okq q := List.forall_mem_cons.mpr ⟨lw_p16, List.forall_mem_cons.mpr ⟨lw_p17, List.forall_mem_cons.mpr ⟨lw_p18, List.forall_mem_cons.mpr ⟨lw_p19, List.forall_mem_cons.mpr ⟨lw_p20, List.forall_mem_cons.mpr ⟨lw_p21, List.forall_mem_cons.mpr ⟨lw_p22, List.forall_mem_cons.mpr ⟨lw_p23, List.forall_mem_cons.mpr ⟨lw_p24, List.forall_mem_cons.mpr ⟨lw_p25, List.forall_mem_cons.mpr ⟨lw_p26, List.forall_mem_cons.mpr ⟨lw_p27, List.forall_mem_cons.mpr ⟨lw_p28, List.forall_mem_cons.mpr ⟨lw_p29, List.forall_mem_cons.mpr ⟨lw_p30, List.forall_mem_cons.mpr ⟨lw_p31, fun _ h => absurd h List.not_mem_nil⟩⟩⟩⟩⟩⟩⟩⟩⟩⟩⟩⟩⟩⟩⟩⟩
theorem lw_p32 : lw_okq (⟨"SleepHarbourModel", "noDream", "(I)Z"⟩, 37) := ⟨⟨by decide +kernel, by decide +kernel⟩, List.mem_of_getElem? (i := 647) (by decide +kernel), List.mem_of_getElem? (i := 852) (by decide +kernel), List.mem_of_getElem? (i := 853) (by decide +kernel)⟩
theorem lw_p33 : lw_okq (⟨"SleepHarbourModel", "mayBe", "([II)I"⟩, 37) := ⟨⟨by decide +kernel, by decide +kernel⟩, List.mem_of_getElem? (i := 647) (by decide +kernel), List.mem_of_getElem? (i := 856) (by decide +kernel), List.mem_of_getElem? (i := 857) (by decide +kernel)⟩
theorem lw_p34 : lw_okq (⟨"SleepHarbourModel", "canBe", "([III)Z"⟩, 37) := ⟨⟨by decide +kernel, by decide +kernel⟩, List.mem_of_getElem? (i := 647) (by decide +kernel), List.mem_of_getElem? (i := 860) (by decide +kernel), List.mem_of_getElem? (i := 861) (by decide +kernel)⟩
theorem lw_p35 : lw_okq (⟨"SleepHarbourModel", "suits", "([III)Z"⟩, 37) := ⟨⟨by decide +kernel, by decide +kernel⟩, List.mem_of_getElem? (i := 647) (by decide +kernel), List.mem_of_getElem? (i := 864) (by decide +kernel), List.mem_of_getElem? (i := 865) (by decide +kernel)⟩
theorem lw_p36 : lw_okq (⟨"SleepHarbourModel", "note", "()V"⟩, 37) := ⟨⟨by decide +kernel, by decide +kernel⟩, List.mem_of_getElem? (i := 647) (by decide +kernel), List.mem_of_getElem? (i := 875) (by decide +kernel), List.mem_of_getElem? (i := 876) (by decide +kernel)⟩
theorem lw_p37 : lw_okq (⟨"SleepHarbourModel", "goNight", "([I)I"⟩, 37) := ⟨⟨by decide +kernel, by decide +kernel⟩, List.mem_of_getElem? (i := 647) (by decide +kernel), List.mem_of_getElem? (i := 879) (by decide +kernel), List.mem_of_getElem? (i := 880) (by decide +kernel)⟩
theorem lw_p38 : lw_okq (⟨"SleepHarbourModel", "goSleep", "([I)I"⟩, 37) := ⟨⟨by decide +kernel, by decide +kernel⟩, List.mem_of_getElem? (i := 647) (by decide +kernel), List.mem_of_getElem? (i := 883) (by decide +kernel), List.mem_of_getElem? (i := 884) (by decide +kernel)⟩
theorem lw_p39 : lw_okq (⟨"SleepHarbourModel", "goWait", "([I)V"⟩, 37) := ⟨⟨by decide +kernel, by decide +kernel⟩, List.mem_of_getElem? (i := 647) (by decide +kernel), List.mem_of_getElem? (i := 887) (by decide +kernel), List.mem_of_getElem? (i := 888) (by decide +kernel)⟩
theorem lw_p40 : lw_okq (⟨"SleepHarbourModel", "goNights", "(I)V"⟩, 37) := ⟨⟨by decide +kernel, by decide +kernel⟩, List.mem_of_getElem? (i := 647) (by decide +kernel), List.mem_of_getElem? (i := 911) (by decide +kernel), List.mem_of_getElem? (i := 912) (by decide +kernel)⟩
theorem lw_p41 : lw_okq (⟨"SleepHarbourModel", "begin", "()V"⟩, 37) := ⟨⟨by decide +kernel, by decide +kernel⟩, List.mem_of_getElem? (i := 647) (by decide +kernel), List.mem_of_getElem? (i := 915) (by decide +kernel), List.mem_of_getElem? (i := 916) (by decide +kernel)⟩
theorem lw_p42 : lw_okq (⟨"SleepHarbourModel", "fitsThen", "(I)I"⟩, 37) := ⟨⟨by decide +kernel, by decide +kernel⟩, List.mem_of_getElem? (i := 647) (by decide +kernel), List.mem_of_getElem? (i := 927) (by decide +kernel), List.mem_of_getElem? (i := 928) (by decide +kernel)⟩
theorem lw_p43 : lw_okq (⟨"SleepHarbourModel", "findPlan", "()I"⟩, 37) := ⟨⟨by decide +kernel, by decide +kernel⟩, List.mem_of_getElem? (i := 647) (by decide +kernel), List.mem_of_getElem? (i := 939) (by decide +kernel), List.mem_of_getElem? (i := 940) (by decide +kernel)⟩
theorem lw_p44 : lw_okq (⟨"SleepHarbourModel", "berthsBy", "(II)Z"⟩, 37) := ⟨⟨by decide +kernel, by decide +kernel⟩, List.mem_of_getElem? (i := 647) (by decide +kernel), List.mem_of_getElem? (i := 946) (by decide +kernel), List.mem_of_getElem? (i := 947) (by decide +kernel)⟩
theorem lw_p45 : lw_okq (⟨"SleepHarbourModel", "does", "(I)Z"⟩, 37) := ⟨⟨by decide +kernel, by decide +kernel⟩, List.mem_of_getElem? (i := 647) (by decide +kernel), List.mem_of_getElem? (i := 959) (by decide +kernel), List.mem_of_getElem? (i := 960) (by decide +kernel)⟩
theorem lw_p46 : lw_okq (⟨"SleepHarbourModel", "explains", "(IZ)Z"⟩, 37) := ⟨⟨by decide +kernel, by decide +kernel⟩, List.mem_of_getElem? (i := 647) (by decide +kernel), List.mem_of_getElem? (i := 989) (by decide +kernel), List.mem_of_getElem? (i := 990) (by decide +kernel)⟩
theorem lw_p47 : lw_okq (⟨"SleepHarbourModel", "layGains", "(III)V"⟩, 37) := ⟨⟨by decide +kernel, by decide +kernel⟩, List.mem_of_getElem? (i := 647) (by decide +kernel), List.mem_of_getElem? (i := 997) (by decide +kernel), List.mem_of_getElem? (i := 998) (by decide +kernel)⟩
def lw_privs_3 : List (MethodName × Nat) := [(⟨"SleepHarbourModel", "noDream", "(I)Z"⟩, 37), (⟨"SleepHarbourModel", "mayBe", "([II)I"⟩, 37), (⟨"SleepHarbourModel", "canBe", "([III)Z"⟩, 37), (⟨"SleepHarbourModel", "suits", "([III)Z"⟩, 37), (⟨"SleepHarbourModel", "note", "()V"⟩, 37), (⟨"SleepHarbourModel", "goNight", "([I)I"⟩, 37), (⟨"SleepHarbourModel", "goSleep", "([I)I"⟩, 37), (⟨"SleepHarbourModel", "goWait", "([I)V"⟩, 37), (⟨"SleepHarbourModel", "goNights", "(I)V"⟩, 37), (⟨"SleepHarbourModel", "begin", "()V"⟩, 37), (⟨"SleepHarbourModel", "fitsThen", "(I)I"⟩, 37), (⟨"SleepHarbourModel", "findPlan", "()I"⟩, 37), (⟨"SleepHarbourModel", "berthsBy", "(II)Z"⟩, 37), (⟨"SleepHarbourModel", "does", "(I)Z"⟩, 37), (⟨"SleepHarbourModel", "explains", "(IZ)Z"⟩, 37), (⟨"SleepHarbourModel", "layGains", "(III)V"⟩, 37)]
theorem lw_r3 : ∀ q ∈ lw_privs_3, lw_okq q := List.forall_mem_cons.mpr ⟨lw_p32, List.forall_mem_cons.mpr ⟨lw_p33, List.forall_mem_cons.mpr ⟨lw_p34, List.forall_mem_cons.mpr ⟨lw_p35, List.forall_mem_cons.mpr ⟨lw_p36, List.forall_mem_cons.mpr ⟨lw_p37, List.forall_mem_cons.mpr ⟨lw_p38, List.forall_mem_cons.mpr ⟨lw_p39, List.forall_mem_cons.mpr ⟨lw_p40, List.forall_mem_cons.mpr ⟨lw_p41, List.forall_mem_cons.mpr ⟨lw_p42, List.forall_mem_cons.mpr ⟨lw_p43, List.forall_mem_cons.mpr ⟨lw_p44, List.forall_mem_cons.mpr ⟨lw_p45, List.forall_mem_cons.mpr ⟨lw_p46, List.forall_mem_cons.mpr ⟨lw_p47, fun _ h => absurd h List.not_mem_nil⟩⟩⟩⟩⟩⟩⟩⟩⟩⟩⟩⟩⟩⟩⟩⟩
theorem lw_p48 : lw_okq (⟨"SleepHarbourModel", "chosen", "(II)I"⟩, 37) := ⟨⟨by decide +kernel, by decide +kernel⟩, List.mem_of_getElem? (i := 647) (by decide +kernel), List.mem_of_getElem? (i := 1001) (by decide +kernel), List.mem_of_getElem? (i := 1002) (by decide +kernel)⟩
def lw_privs_4 : List (MethodName × Nat) := [(⟨"SleepHarbourModel", "chosen", "(II)I"⟩, 37)]
theorem lw_r4 : ∀ q ∈ lw_privs_4, lw_okq q := List.forall_mem_cons.mpr ⟨lw_p48, fun _ h => absurd h List.not_mem_nil⟩
def lw_privs : List (MethodName × Nat) := lw_privs_1 ++ (lw_privs_2 ++ (lw_privs_3 ++ (lw_privs_4)))
def lw_tbl : List Cond := k2_sels lw_privs ++ tables_1
theorem lw_privs_ok : ∀ q ∈ lw_privs, lw_okq q := by
  show ∀ q ∈ lw_privs_1 ++ (lw_privs_2 ++ (lw_privs_3 ++ (lw_privs_4))), lw_okq q
  exact List.forall_mem_append.mpr ⟨lw_r1, List.forall_mem_append.mpr ⟨lw_r2, List.forall_mem_append.mpr ⟨lw_r3, lw_r4⟩⟩⟩
end
section
def RX0 : String := "SleepHarbour$Acts"
def TX0 : u_T := fun k => match k with
  | 0 => ("SleepHarbour$Acts", "before", "[LSleepHarbour$Harbour;", true)
  | 1 => ("SleepHarbour$Acts", "next", "I", false)
  | _ => ("SleepHarbour$Acts", "count", "I", false)
def tyX0 : Nat → FieldType := fun k => match k with
  | 0 => .array (.object "SleepHarbour$Harbour")
  | 1 => .int
  | _ => .int
theorem nmX0 : ∀ a, a < 3 → ∀ b, b < 3 → a ≠ b → (TX0 a).2.1 ≠ (TX0 b).2.1 := by decide +kernel
theorem tyX0_ok : ∀ k, k < 3 → parseFieldDescriptor (TX0 k).2.2.1 = some (tyX0 k) := by decide +kernel
abbrev cX0_init : ByteArray := prog_2_method_1_code
def yX0_init : MethodName := ⟨RX0, "<init>", "(LSleepHarbour$Told;)V"⟩
abbrev cX0_remember : ByteArray := prog_2_method_2_code
def yX0_remember : MethodName := ⟨RX0, "remember", "(LSleepHarbour$Harbour;)V"⟩
abbrev cX0_takeBack : ByteArray := prog_2_method_3_code
def yX0_takeBack : MethodName := ⟨RX0, "takeBack", "(LSleepHarbour$Harbour;)V"⟩
abbrev cX0_forget : ByteArray := prog_2_method_4_code
def yX0_forget : MethodName := ⟨RX0, "forget", "()V"⟩
def RX1 : String := "SleepHarbour$Choosers"
def TX1 : u_T := fun k => match k with
  | 0 => ("SleepHarbour$Choosers", "told", "LSleepHarbour$Told;", true)
  | _ => ("SleepHarbour$Choosers", "trial", "LSleepHarbour$Harbour;", true)
def tyX1 : Nat → FieldType := fun k => match k with
  | 0 => .object "SleepHarbour$Told"
  | _ => .object "SleepHarbour$Harbour"
theorem nmX1 : ∀ a, a < 2 → ∀ b, b < 2 → a ≠ b → (TX1 a).2.1 ≠ (TX1 b).2.1 := by decide +kernel
theorem tyX1_ok : ∀ k, k < 2 → parseFieldDescriptor (TX1 k).2.2.1 = some (tyX1 k) := by decide +kernel
abbrev cX1_init : ByteArray := prog_3_method_1_code
def yX1_init : MethodName := ⟨RX1, "<init>", "(LSleepHarbour$Told;LSleepHarbour$Harbour;)V"⟩
abbrev cX1_isContent : ByteArray := prog_3_method_2_code
def yX1_isContent : MethodName := ⟨RX1, "isContent", "(IIII)Z"⟩
abbrev cX1_gain : ByteArray := prog_3_method_3_code
def yX1_gain : MethodName := ⟨RX1, "gain", "(IIII)I"⟩
abbrev cX1_berthChosen : ByteArray := prog_3_method_4_code
def yX1_berthChosen : MethodName := ⟨RX1, "berthChosen", "(II)I"⟩
def RX2 : String := "SleepHarbour$Harbour"
def TX2 : u_T := fun k => match k with
  | 0 => ("SleepHarbour$Harbour", "told", "LSleepHarbour$Told;", true)
  | 1 => ("SleepHarbour$Harbour", "place", "[I", true)
  | 2 => ("SleepHarbour$Harbour", "lain", "[I", true)
  | 3 => ("SleepHarbour$Harbour", "draught", "[I", true)
  | 4 => ("SleepHarbour$Harbour", "depth", "[I", true)
  | 5 => ("SleepHarbour$Harbour", "woke", "[I", true)
  | _ => ("SleepHarbour$Harbour", "nights", "I", false)
def tyX2 : Nat → FieldType := fun k => match k with
  | 0 => .object "SleepHarbour$Told"
  | 1 => .array .int
  | 2 => .array .int
  | 3 => .array .int
  | 4 => .array .int
  | 5 => .array .int
  | _ => .int
theorem nmX2 : ∀ a, a < 7 → ∀ b, b < 7 → a ≠ b → (TX2 a).2.1 ≠ (TX2 b).2.1 := by decide +kernel
theorem tyX2_ok : ∀ k, k < 7 → parseFieldDescriptor (TX2 k).2.2.1 = some (tyX2 k) := by decide +kernel
abbrev cX2_init : ByteArray := prog_4_method_1_code
def yX2_init : MethodName := ⟨RX2, "<init>", "(LSleepHarbour$Told;)V"⟩
abbrev cX2_begin : ByteArray := prog_4_method_2_code
def yX2_begin : MethodName := ⟨RX2, "begin", "()V"⟩
abbrev cX2_becomes : ByteArray := prog_4_method_3_code
def yX2_becomes : MethodName := ⟨RX2, "becomes", "(LSleepHarbour$Harbour;)V"⟩
abbrev cX2_tide : ByteArray := prog_4_method_4_code
def yX2_tide : MethodName := ⟨RX2, "tide", "()I"⟩
abbrev cX2_water : ByteArray := prog_4_method_5_code
def yX2_water : MethodName := ⟨RX2, "water", "(I)I"⟩
abbrev cX2_liesOff : ByteArray := prog_4_method_6_code
def yX2_liesOff : MethodName := ⟨RX2, "liesOff", "(I)Z"⟩
abbrev cX2_isBerthed : ByteArray := prog_4_method_7_code
def yX2_isBerthed : MethodName := ⟨RX2, "isBerthed", "(I)Z"⟩
abbrev cX2_dreamsAt : ByteArray := prog_4_method_8_code
def yX2_dreamsAt : MethodName := ⟨RX2, "dreamsAt", "(I)I"⟩
abbrev cX2_countAt : ByteArray := prog_4_method_9_code
def yX2_countAt : MethodName := ⟨RX2, "countAt", "(I)I"⟩
abbrev cX2_dreamsBerthed : ByteArray := prog_4_method_10_code
def yX2_dreamsBerthed : MethodName := ⟨RX2, "dreamsBerthed", "()I"⟩
abbrev cX2_wokeInAll : ByteArray := prog_4_method_11_code
def yX2_wokeInAll : MethodName := ⟨RX2, "wokeInAll", "()I"⟩
abbrev cX2_roomIn : ByteArray := prog_4_method_12_code
def yX2_roomIn : MethodName := ⟨RX2, "roomIn", "(I)I"⟩
abbrev cX2_suits : ByteArray := prog_4_method_13_code
def yX2_suits : MethodName := ⟨RX2, "suits", "(II)Z"⟩
abbrev cX2_canBe : ByteArray := prog_4_method_14_code
def yX2_canBe : MethodName := ⟨RX2, "canBe", "(II)Z"⟩
abbrev cX2_berthsOpenTo : ByteArray := prog_4_method_15_code
def yX2_berthsOpenTo : MethodName := ⟨RX2, "berthsOpenTo", "(I)I"⟩
abbrev cX2_berthsFitFor : ByteArray := prog_4_method_16_code
def yX2_berthsFitFor : MethodName := ⟨RX2, "berthsFitFor", "(I)I"⟩
abbrev cX2_canMoor : ByteArray := prog_4_method_17_code
def yX2_canMoor : MethodName := ⟨RX2, "canMoor", "(II)Z"⟩
abbrev cX2_canTow : ByteArray := prog_4_method_18_code
def yX2_canTow : MethodName := ⟨RX2, "canTow", "(I)Z"⟩
abbrev cX2_towOut : ByteArray := prog_4_method_19_code
def yX2_towOut : MethodName := ⟨RX2, "towOut", "(I)V"⟩
abbrev cX2_dreamtIn : ByteArray := prog_4_method_20_code
def yX2_dreamtIn : MethodName := ⟨RX2, "dreamtIn", "(II)I"⟩
abbrev cX2_spoilt : ByteArray := prog_4_method_21_code
def yX2_spoilt : MethodName := ⟨RX2, "spoilt", "(II)I"⟩
abbrev cX2_dreamtIfFailed : ByteArray := prog_4_method_22_code
def yX2_dreamtIfFailed : MethodName := ⟨RX2, "dreamtIfFailed", "(I)I"⟩
abbrev cX2_passNight : ByteArray := prog_4_method_23_code
def yX2_passNight : MethodName := ⟨RX2, "passNight", "()I"⟩
abbrev cX2_sleepIn : ByteArray := prog_4_method_24_code
def yX2_sleepIn : MethodName := ⟨RX2, "sleepIn", "(II)V"⟩
abbrev cX2_lieOffLonger : ByteArray := prog_4_method_25_code
def yX2_lieOffLonger : MethodName := ⟨RX2, "lieOffLonger", "()V"⟩
abbrev cX2_bringNightmares : ByteArray := prog_4_method_26_code
def yX2_bringNightmares : MethodName := ⟨RX2, "bringNightmares", "()V"⟩
abbrev cX2_moorInLeast : ByteArray := prog_4_method_27_code
def yX2_moorInLeast : MethodName := ⟨RX2, "moorInLeast", "(I)V"⟩
abbrev cX2_dredge : ByteArray := prog_4_method_28_code
def yX2_dredge : MethodName := ⟨RX2, "dredge", "()V"⟩
abbrev cX2_does : ByteArray := prog_4_method_29_code
def yX2_does : MethodName := ⟨RX2, "does", "(I)Z"⟩
abbrev cX2_drift : ByteArray := prog_4_method_30_code
def yX2_drift : MethodName := ⟨RX2, "drift", "(I)V"⟩
abbrev cX2_moors : ByteArray := prog_4_method_31_code
def yX2_moors : MethodName := ⟨RX2, "moors", "(II)Z"⟩
abbrev cX2_tows : ByteArray := prog_4_method_32_code
def yX2_tows : MethodName := ⟨RX2, "tows", "(I)Z"⟩
def RX3 : String := "SleepHarbour$Planner"
def TX3 : u_T := fun k => match k with
  | 0 => ("SleepHarbour$Planner", "told", "LSleepHarbour$Told;", true)
  | 1 => ("SleepHarbour$Planner", "trial", "LSleepHarbour$Harbour;", true)
  | 2 => ("SleepHarbour$Planner", "come", "I", false)
  | 3 => ("SleepHarbour$Planner", "most", "I", false)
  | _ => ("SleepHarbour$Planner", "way", "I", false)
def tyX3 : Nat → FieldType := fun k => match k with
  | 0 => .object "SleepHarbour$Told"
  | 1 => .object "SleepHarbour$Harbour"
  | 2 => .int
  | 3 => .int
  | _ => .int
theorem nmX3 : ∀ a, a < 5 → ∀ b, b < 5 → a ≠ b → (TX3 a).2.1 ≠ (TX3 b).2.1 := by decide +kernel
theorem tyX3_ok : ∀ k, k < 5 → parseFieldDescriptor (TX3 k).2.2.1 = some (tyX3 k) := by decide +kernel
abbrev cX3_init : ByteArray := prog_5_method_1_code
def yX3_init : MethodName := ⟨RX3, "<init>", "(LSleepHarbour$Told;LSleepHarbour$Harbour;)V"⟩
abbrev cX3_search : ByteArray := prog_5_method_2_code
def yX3_search : MethodName := ⟨RX3, "search", "(LSleepHarbour$Harbour;I)I"⟩
abbrev cX3_choose : ByteArray := prog_5_method_3_code
def yX3_choose : MethodName := ⟨RX3, "choose", "(III)V"⟩
abbrev cX3_isWorthwhile : ByteArray := prog_5_method_4_code
def yX3_isWorthwhile : MethodName := ⟨RX3, "isWorthwhile", "(II)Z"⟩
abbrev cX3_weigh : ByteArray := prog_5_method_5_code
def yX3_weigh : MethodName := ⟨RX3, "weigh", "(I)V"⟩
def RX4 : String := "SleepHarbour$Sounded"
def TX4 : u_T := fun k => match k with
  | 0 => ("SleepHarbour$Sounded", "draught", "[I", true)
  | 1 => ("SleepHarbour$Sounded", "night", "[I", true)
  | 2 => ("SleepHarbour$Sounded", "grounded", "[Z", true)
  | _ => ("SleepHarbour$Sounded", "count", "I", false)
def tyX4 : Nat → FieldType := fun k => match k with
  | 0 => .array .int
  | 1 => .array .int
  | 2 => .array .boolean
  | _ => .int
theorem nmX4 : ∀ a, a < 4 → ∀ b, b < 4 → a ≠ b → (TX4 a).2.1 ≠ (TX4 b).2.1 := by decide +kernel
theorem tyX4_ok : ∀ k, k < 4 → parseFieldDescriptor (TX4 k).2.2.1 = some (tyX4 k) := by decide +kernel
abbrev cX4_init : ByteArray := prog_6_method_1_code
def yX4_init : MethodName := ⟨RX4, "<init>", "()V"⟩
abbrev cX4_add : ByteArray := prog_6_method_2_code
def yX4_add : MethodName := ⟨RX4, "add", "(IIZ)I"⟩
abbrev cX4_empty : ByteArray := prog_6_method_3_code
def yX4_empty : MethodName := ⟨RX4, "empty", "()I"⟩
abbrev cX4_agrees : ByteArray := prog_6_method_4_code
def yX4_agrees : MethodName := ⟨RX4, "agrees", "(IILSleepHarbour$Told;)Z"⟩
def RX5 : String := "SleepHarbour$Text"
def TX5 : u_T := fun k => match k with
  | 0 => ("SleepHarbour$Text", "bytes", "[I", true)
  | _ => ("SleepHarbour$Text", "length", "I", false)
def tyX5 : Nat → FieldType := fun k => match k with
  | 0 => .array .int
  | _ => .int
theorem nmX5 : ∀ a, a < 2 → ∀ b, b < 2 → a ≠ b → (TX5 a).2.1 ≠ (TX5 b).2.1 := by decide +kernel
theorem tyX5_ok : ∀ k, k < 2 → parseFieldDescriptor (TX5 k).2.2.1 = some (tyX5 k) := by decide +kernel
abbrev cX5_init : ByteArray := prog_7_method_1_code
def yX5_init : MethodName := ⟨RX5, "<init>", "()V"⟩
abbrev cX5_add : ByteArray := prog_7_method_2_code
def yX5_add : MethodName := ⟨RX5, "add", "(I)I"⟩
abbrev cX5_empty : ByteArray := prog_7_method_3_code
def yX5_empty : MethodName := ⟨RX5, "empty", "()I"⟩
abbrev cX5_tell : ByteArray := prog_7_method_4_code
def yX5_tell : MethodName := ⟨RX5, "tell", "(LSleepHarbour$Told;)I"⟩
def RX6 : String := "SleepHarbour$Told"
def TX6 : u_T := fun k => match k with
  | 0 => ("SleepHarbour$Told", "tideOf", "[I", true)
  | 1 => ("SleepHarbour$Told", "depth", "[I", true)
  | 2 => ("SleepHarbour$Told", "berthKind", "[I", true)
  | 3 => ("SleepHarbour$Told", "draught", "[I", true)
  | 4 => ("SleepHarbour$Told", "dreamKind", "[I", true)
  | 5 => ("SleepHarbour$Told", "tides", "I", false)
  | 6 => ("SleepHarbour$Told", "berths", "I", false)
  | 7 => ("SleepHarbour$Told", "dreams", "I", false)
  | 8 => ("SleepHarbour$Told", "open", "I", false)
  | _ => ("SleepHarbour$Told", "figure", "I", false)
def tyX6 : Nat → FieldType := fun k => match k with
  | 0 => .array .int
  | 1 => .array .int
  | 2 => .array .int
  | 3 => .array .int
  | 4 => .array .int
  | 5 => .int
  | 6 => .int
  | 7 => .int
  | 8 => .int
  | _ => .int
theorem nmX6 : ∀ a, a < 10 → ∀ b, b < 10 → a ≠ b → (TX6 a).2.1 ≠ (TX6 b).2.1 := by decide +kernel
theorem tyX6_ok : ∀ k, k < 10 → parseFieldDescriptor (TX6 k).2.2.1 = some (tyX6 k) := by decide +kernel
abbrev cX6_init : ByteArray := prog_8_method_1_code
def yX6_init : MethodName := ⟨RX6, "<init>", "()V"⟩
abbrev cX6_beginAnew : ByteArray := prog_8_method_2_code
def yX6_beginAnew : MethodName := ⟨RX6, "beginAnew", "()V"⟩
abbrev cX6_mayEnd : ByteArray := prog_8_method_3_code
def yX6_mayEnd : MethodName := ⟨RX6, "mayEnd", "()Z"⟩
abbrev cX6_hasBerth : ByteArray := prog_8_method_4_code
def yX6_hasBerth : MethodName := ⟨RX6, "hasBerth", "(I)Z"⟩
abbrev cX6_hasDream : ByteArray := prog_8_method_5_code
def yX6_hasDream : MethodName := ⟨RX6, "hasDream", "(I)Z"⟩
abbrev cX6_tideOn : ByteArray := prog_8_method_6_code
def yX6_tideOn : MethodName := ⟨RX6, "tideOn", "(I)I"⟩
abbrev cX6_hears : ByteArray := prog_8_method_7_code
def yX6_hears : MethodName := ⟨RX6, "hears", "(I)Z"⟩
abbrev cX6_hasRoomFor : ByteArray := prog_8_method_8_code
def yX6_hasRoomFor : MethodName := ⟨RX6, "hasRoomFor", "(I)Z"⟩
abbrev cX6_hearsFirst : ByteArray := prog_8_method_9_code
def yX6_hearsFirst : MethodName := ⟨RX6, "hearsFirst", "(I)Z"⟩
abbrev cX6_hearsKind : ByteArray := prog_8_method_10_code
def yX6_hearsKind : MethodName := ⟨RX6, "hearsKind", "(I)Z"⟩
def RX7 : String := "SleepHarbour"
def TX7 : u_T := fun k => match k with
  | 0 => ("SleepHarbour", "text", "LSleepHarbour$Text;", true)
  | 1 => ("SleepHarbour", "told", "LSleepHarbour$Told;", true)
  | 2 => ("SleepHarbour", "draft", "LSleepHarbour$Told;", true)
  | 3 => ("SleepHarbour", "now", "LSleepHarbour$Harbour;", true)
  | 4 => ("SleepHarbour", "then", "LSleepHarbour$Harbour;", true)
  | 5 => ("SleepHarbour", "acts", "LSleepHarbour$Acts;", true)
  | 6 => ("SleepHarbour", "sounded", "LSleepHarbour$Sounded;", true)
  | 7 => ("SleepHarbour", "planner", "LSleepHarbour$Planner;", true)
  | 8 => ("SleepHarbour", "choosers", "LSleepHarbour$Choosers;", true)
  | 9 => ("SleepHarbour", "kept", "[LSleepHarbour$Harbour;", true)
  | 10 => ("SleepHarbour", "isKept", "[Z", true)
  | _ => ("SleepHarbour", "seedNow", "J", false)
def tyX7 : Nat → FieldType := fun k => match k with
  | 0 => .object "SleepHarbour$Text"
  | 1 => .object "SleepHarbour$Told"
  | 2 => .object "SleepHarbour$Told"
  | 3 => .object "SleepHarbour$Harbour"
  | 4 => .object "SleepHarbour$Harbour"
  | 5 => .object "SleepHarbour$Acts"
  | 6 => .object "SleepHarbour$Sounded"
  | 7 => .object "SleepHarbour$Planner"
  | 8 => .object "SleepHarbour$Choosers"
  | 9 => .array (.object "SleepHarbour$Harbour")
  | 10 => .array .boolean
  | _ => .long
theorem nmX7 : ∀ a, a < 12 → ∀ b, b < 12 → a ≠ b → (TX7 a).2.1 ≠ (TX7 b).2.1 := by decide +kernel
theorem tyX7_ok : ∀ k, k < 12 → parseFieldDescriptor (TX7 k).2.2.1 = some (tyX7 k) := by decide +kernel
abbrev cX7_init : ByteArray := prog_1_method_1_code
def yX7_init : MethodName := ⟨RX7, "<init>", "()V"⟩
abbrev cX7_write : ByteArray := prog_1_method_2_code
def yX7_write : MethodName := ⟨RX7, "write", "(I)I"⟩
abbrev cX7_wipe : ByteArray := prog_1_method_3_code
def yX7_wipe : MethodName := ⟨RX7, "wipe", "()I"⟩
abbrev cX7_fault : ByteArray := prog_1_method_4_code
def yX7_fault : MethodName := ⟨RX7, "fault", "()I"⟩
abbrev cX7_port : ByteArray := prog_1_method_5_code
def yX7_port : MethodName := ⟨RX7, "port", "()I"⟩
abbrev cX7_about : ByteArray := prog_1_method_6_code
def yX7_about : MethodName := ⟨RX7, "about", "(I)I"⟩
abbrev cX7_berth : ByteArray := prog_1_method_7_code
def yX7_berth : MethodName := ⟨RX7, "berth", "(II)I"⟩
abbrev cX7_dream : ByteArray := prog_1_method_8_code
def yX7_dream : MethodName := ⟨RX7, "dream", "(II)I"⟩
abbrev cX7_night : ByteArray := prog_1_method_9_code
def yX7_night : MethodName := ⟨RX7, "night", "()I"⟩
abbrev cX7_moor : ByteArray := prog_1_method_10_code
def yX7_moor : MethodName := ⟨RX7, "moor", "(II)I"⟩
abbrev cX7_tow : ByteArray := prog_1_method_11_code
def yX7_tow : MethodName := ⟨RX7, "tow", "(I)I"⟩
abbrev cX7_undo : ByteArray := prog_1_method_12_code
def yX7_undo : MethodName := ⟨RX7, "undo", "()I"⟩
abbrev cX7_later : ByteArray := prog_1_method_13_code
def yX7_later : MethodName := ⟨RX7, "later", "(II)I"⟩
abbrev cX7_wakes : ByteArray := prog_1_method_14_code
def yX7_wakes : MethodName := ⟨RX7, "wakes", "(II)I"⟩
abbrev cX7_fits : ByteArray := prog_1_method_15_code
def yX7_fits : MethodName := ⟨RX7, "fits", "(II)I"⟩
abbrev cX7_soonest : ByteArray := prog_1_method_16_code
def yX7_soonest : MethodName := ⟨RX7, "soonest", "(I)I"⟩
abbrev cX7_plan : ByteArray := prog_1_method_17_code
def yX7_plan : MethodName := ⟨RX7, "plan", "(Z)I"⟩
abbrev cX7_judge : ByteArray := prog_1_method_18_code
def yX7_judge : MethodName := ⟨RX7, "judge", "(IJ)I"⟩
abbrev cX7_share : ByteArray := prog_1_method_19_code
def yX7_share : MethodName := ⟨RX7, "share", "(IZ)I"⟩
abbrev cX7_sound : ByteArray := prog_1_method_20_code
def yX7_sound : MethodName := ⟨RX7, "sound", "(III)I"⟩
abbrev cX7_unsound : ByteArray := prog_1_method_21_code
def yX7_unsound : MethodName := ⟨RX7, "unsound", "()I"⟩
abbrev cX7_depths : ByteArray := prog_1_method_22_code
def yX7_depths : MethodName := ⟨RX7, "depths", "(I)I"⟩
abbrev cX7_rests : ByteArray := prog_1_method_23_code
def yX7_rests : MethodName := ⟨RX7, "rests", "(III)I"⟩
abbrev cX7_ebb : ByteArray := prog_1_method_24_code
def yX7_ebb : MethodName := ⟨RX7, "ebb", "(IIZ)I"⟩
abbrev cX7_seed : ByteArray := prog_1_method_25_code
def yX7_seed : MethodName := ⟨RX7, "seed", "(J)J"⟩
abbrev cX7_years : ByteArray := prog_1_method_26_code
def yX7_years : MethodName := ⟨RX7, "years", "(I)I"⟩
abbrev cX7_keep : ByteArray := prog_1_method_27_code
def yX7_keep : MethodName := ⟨RX7, "keep", "(I)I"⟩
abbrev cX7_again : ByteArray := prog_1_method_28_code
def yX7_again : MethodName := ⟨RX7, "again", "(I)I"⟩
abbrev cX7_isNights : ByteArray := prog_1_method_29_code
def yX7_isNights : MethodName := ⟨RX7, "isNights", "(I)Z"⟩
abbrev cX7_lookAhead : ByteArray := prog_1_method_30_code
def yX7_lookAhead : MethodName := ⟨RX7, "lookAhead", "(I)V"⟩
abbrev cX7_withoutLast : ByteArray := prog_1_method_31_code
def yX7_withoutLast : MethodName := ⟨RX7, "withoutLast", "(JI)J"⟩
abbrev cX7_allBerths : ByteArray := prog_1_method_32_code
def yX7_allBerths : MethodName := ⟨RX7, "allBerths", "()I"⟩
abbrev cX7_weightOf : ByteArray := prog_1_method_33_code
def yX7_weightOf : MethodName := ⟨RX7, "weightOf", "(II)I"⟩
abbrev cX7_part : ByteArray := prog_1_method_34_code
def yX7_part : MethodName := ⟨RX7, "part", "(IIZ)I"⟩
abbrev cX7_commonDivisor : ByteArray := prog_1_method_35_code
def yX7_commonDivisor : MethodName := ⟨RX7, "commonDivisor", "(II)I"⟩
def RX8 : String := "SleepHarbourModel"
def TX8 : u_T := fun k => match k with
  | 0 => ("SleepHarbourModel", "thrown", "I", false)
  | 1 => ("SleepHarbourModel", "text", "[I", true)
  | 2 => ("SleepHarbourModel", "textSize", "I", false)
  | 3 => ("SleepHarbourModel", "place", "I", false)
  | 4 => ("SleepHarbourModel", "tides", "I", false)
  | 5 => ("SleepHarbourModel", "tide", "[I", true)
  | 6 => ("SleepHarbourModel", "berths", "I", false)
  | 7 => ("SleepHarbourModel", "sort", "[I", true)
  | 8 => ("SleepHarbourModel", "dreams", "I", false)
  | 9 => ("SleepHarbourModel", "kind", "[I", true)
  | 10 => ("SleepHarbourModel", "readTides", "I", false)
  | 11 => ("SleepHarbourModel", "readTide", "[I", true)
  | 12 => ("SleepHarbourModel", "readBerths", "I", false)
  | 13 => ("SleepHarbourModel", "readBerth", "[I", true)
  | 14 => ("SleepHarbourModel", "readDreams", "I", false)
  | 15 => ("SleepHarbourModel", "readDream", "[I", true)
  | 16 => ("SleepHarbourModel", "page", "[I", true)
  | 17 => ("SleepHarbourModel", "trial", "[I", true)
  | 18 => ("SleepHarbourModel", "book", "[I", true)
  | 19 => ("SleepHarbourModel", "acts", "I", false)
  | 20 => ("SleepHarbourModel", "kept", "[I", true)
  | 21 => ("SleepHarbourModel", "isKept", "[Z", true)
  | 22 => ("SleepHarbourModel", "sounded", "I", false)
  | 23 => ("SleepHarbourModel", "soundDraught", "[I", true)
  | 24 => ("SleepHarbourModel", "soundNight", "[I", true)
  | 25 => ("SleepHarbourModel", "soundIs", "[I", true)
  | 26 => ("SleepHarbourModel", "seed", "J", false)
  | 27 => ("SleepHarbourModel", "ebbs", "I", false)
  | 28 => ("SleepHarbourModel", "some", "I", false)
  | 29 => ("SleepHarbourModel", "planMany", "I", false)
  | 30 => ("SleepHarbourModel", "planWay", "I", false)
  | 31 => ("SleepHarbourModel", "depthMany", "I", false)
  | 32 => ("SleepHarbourModel", "depthFirst", "I", false)
  | 33 => ("SleepHarbourModel", "restMany", "I", false)
  | 34 => ("SleepHarbourModel", "restFirst", "I", false)
  | 35 => ("SleepHarbourModel", "gains", "[I", true)
  | _ => ("SleepHarbourModel", "value", "[I", true)
def tyX8 : Nat → FieldType := fun k => match k with
  | 0 => .int
  | 1 => .array .int
  | 2 => .int
  | 3 => .int
  | 4 => .int
  | 5 => .array .int
  | 6 => .int
  | 7 => .array .int
  | 8 => .int
  | 9 => .array .int
  | 10 => .int
  | 11 => .array .int
  | 12 => .int
  | 13 => .array .int
  | 14 => .int
  | 15 => .array .int
  | 16 => .array .int
  | 17 => .array .int
  | 18 => .array .int
  | 19 => .int
  | 20 => .array .int
  | 21 => .array .boolean
  | 22 => .int
  | 23 => .array .int
  | 24 => .array .int
  | 25 => .array .int
  | 26 => .long
  | 27 => .int
  | 28 => .int
  | 29 => .int
  | 30 => .int
  | 31 => .int
  | 32 => .int
  | 33 => .int
  | 34 => .int
  | 35 => .array .int
  | _ => .array .int
theorem nmX8 : ∀ a, a < 37 → ∀ b, b < 37 → a ≠ b → (TX8 a).2.1 ≠ (TX8 b).2.1 := by decide +kernel
theorem tyX8_ok : ∀ k, k < 37 → parseFieldDescriptor (TX8 k).2.2.1 = some (tyX8 k) := by decide +kernel
abbrev cX8_init : ByteArray := prog_10_method_1_code
def yX8_init : MethodName := ⟨RX8, "<init>", "()V"⟩
abbrev cX8_in : ByteArray := prog_10_method_3_code
def yX8_in : MethodName := ⟨RX8, "in", "(JJJ)Z"⟩
abbrev cX8_has : ByteArray := prog_10_method_4_code
def yX8_has : MethodName := ⟨RX8, "has", "(II)Z"⟩
abbrev cX8_many : ByteArray := prog_10_method_5_code
def yX8_many : MethodName := ⟨RX8, "many", "(I)I"⟩
abbrev cX8_power : ByteArray := prog_10_method_6_code
def yX8_power : MethodName := ⟨RX8, "power", "(II)I"⟩
abbrev cX8_noBerth : ByteArray := prog_10_method_7_code
def yX8_noBerth : MethodName := ⟨RX8, "noBerth", "(I)Z"⟩
abbrev cX8_noDream : ByteArray := prog_10_method_8_code
def yX8_noDream : MethodName := ⟨RX8, "noDream", "(I)Z"⟩
abbrev cX8_write : ByteArray := prog_10_method_9_code
def yX8_write : MethodName := ⟨RX8, "write", "(I)I"⟩
abbrev cX8_wipe : ByteArray := prog_10_method_10_code
def yX8_wipe : MethodName := ⟨RX8, "wipe", "()I"⟩
abbrev cX8_figure : ByteArray := prog_10_method_11_code
def yX8_figure : MethodName := ⟨RX8, "figure", "(II)I"⟩
abbrev cX8_readOneTide : ByteArray := prog_10_method_12_code
def yX8_readOneTide : MethodName := ⟨RX8, "readOneTide", "()Z"⟩
abbrev cX8_readOneBerth : ByteArray := prog_10_method_13_code
def yX8_readOneBerth : MethodName := ⟨RX8, "readOneBerth", "()Z"⟩
abbrev cX8_readOneDream : ByteArray := prog_10_method_14_code
def yX8_readOneDream : MethodName := ⟨RX8, "readOneDream", "()Z"⟩
abbrev cX8_readThing : ByteArray := prog_10_method_15_code
def yX8_readThing : MethodName := ⟨RX8, "readThing", "()Z"⟩
abbrev cX8_readPort : ByteArray := prog_10_method_16_code
def yX8_readPort : MethodName := ⟨RX8, "readPort", "()I"⟩
abbrev cX8_fault : ByteArray := prog_10_method_17_code
def yX8_fault : MethodName := ⟨RX8, "fault", "()I"⟩
abbrev cX8_port : ByteArray := prog_10_method_18_code
def yX8_port : MethodName := ⟨RX8, "port", "()I"⟩
abbrev cX8_tideOf : ByteArray := prog_10_method_19_code
def yX8_tideOf : MethodName := ⟨RX8, "tideOf", "(I)I"⟩
abbrev cX8_waterOf : ByteArray := prog_10_method_20_code
def yX8_waterOf : MethodName := ⟨RX8, "waterOf", "([II)I"⟩
abbrev cX8_dreamsAt : ByteArray := prog_10_method_21_code
def yX8_dreamsAt : MethodName := ⟨RX8, "dreamsAt", "([II)I"⟩
abbrev cX8_berthed : ByteArray := prog_10_method_22_code
def yX8_berthed : MethodName := ⟨RX8, "berthed", "([I)I"⟩
abbrev cX8_suits : ByteArray := prog_10_method_23_code
def yX8_suits : MethodName := ⟨RX8, "suits", "([III)Z"⟩
abbrev cX8_canBe : ByteArray := prog_10_method_24_code
def yX8_canBe : MethodName := ⟨RX8, "canBe", "([III)Z"⟩
abbrev cX8_mayBe : ByteArray := prog_10_method_25_code
def yX8_mayBe : MethodName := ⟨RX8, "mayBe", "([II)I"⟩
abbrev cX8_goSleep : ByteArray := prog_10_method_26_code
def yX8_goSleep : MethodName := ⟨RX8, "goSleep", "([I)I"⟩
abbrev cX8_goWait : ByteArray := prog_10_method_27_code
def yX8_goWait : MethodName := ⟨RX8, "goWait", "([I)V"⟩
abbrev cX8_goNight : ByteArray := prog_10_method_28_code
def yX8_goNight : MethodName := ⟨RX8, "goNight", "([I)I"⟩
abbrev cX8_woke : ByteArray := prog_10_method_29_code
def yX8_woke : MethodName := ⟨RX8, "woke", "()I"⟩
abbrev cX8_plainly : ByteArray := prog_10_method_30_code
def yX8_plainly : MethodName := ⟨RX8, "plainly", "()V"⟩
abbrev cX8_about : ByteArray := prog_10_method_31_code
def yX8_about : MethodName := ⟨RX8, "about", "(I)I"⟩
abbrev cX8_berth : ByteArray := prog_10_method_32_code
def yX8_berth : MethodName := ⟨RX8, "berth", "(II)I"⟩
abbrev cX8_dream : ByteArray := prog_10_method_33_code
def yX8_dream : MethodName := ⟨RX8, "dream", "(II)I"⟩
abbrev cX8_note : ByteArray := prog_10_method_34_code
def yX8_note : MethodName := ⟨RX8, "note", "()V"⟩
abbrev cX8_night : ByteArray := prog_10_method_35_code
def yX8_night : MethodName := ⟨RX8, "night", "()I"⟩
abbrev cX8_moor : ByteArray := prog_10_method_36_code
def yX8_moor : MethodName := ⟨RX8, "moor", "(II)I"⟩
abbrev cX8_goTow : ByteArray := prog_10_method_37_code
def yX8_goTow : MethodName := ⟨RX8, "goTow", "([II)V"⟩
abbrev cX8_tow : ByteArray := prog_10_method_38_code
def yX8_tow : MethodName := ⟨RX8, "tow", "(I)I"⟩
abbrev cX8_undo : ByteArray := prog_10_method_39_code
def yX8_undo : MethodName := ⟨RX8, "undo", "()I"⟩
abbrev cX8_begin : ByteArray := prog_10_method_40_code
def yX8_begin : MethodName := ⟨RX8, "begin", "()V"⟩
abbrev cX8_goNights : ByteArray := prog_10_method_41_code
def yX8_goNights : MethodName := ⟨RX8, "goNights", "(I)V"⟩
abbrev cX8_later : ByteArray := prog_10_method_42_code
def yX8_later : MethodName := ⟨RX8, "later", "(II)I"⟩
abbrev cX8_wakes : ByteArray := prog_10_method_43_code
def yX8_wakes : MethodName := ⟨RX8, "wakes", "(II)I"⟩
abbrev cX8_fitsThen : ByteArray := prog_10_method_44_code
def yX8_fitsThen : MethodName := ⟨RX8, "fitsThen", "(I)I"⟩
abbrev cX8_fits : ByteArray := prog_10_method_45_code
def yX8_fits : MethodName := ⟨RX8, "fits", "(II)I"⟩
abbrev cX8_soonest : ByteArray := prog_10_method_46_code
def yX8_soonest : MethodName := ⟨RX8, "soonest", "(I)I"⟩
abbrev cX8_berthsBy : ByteArray := prog_10_method_47_code
def yX8_berthsBy : MethodName := ⟨RX8, "berthsBy", "(II)Z"⟩
abbrev cX8_findPlan : ByteArray := prog_10_method_48_code
def yX8_findPlan : MethodName := ⟨RX8, "findPlan", "()I"⟩
abbrev cX8_plan : ByteArray := prog_10_method_49_code
def yX8_plan : MethodName := ⟨RX8, "plan", "(Z)I"⟩
abbrev cX8_longPower : ByteArray := prog_10_method_50_code
def yX8_longPower : MethodName := ⟨RX8, "longPower", "(JI)J"⟩
abbrev cX8_does : ByteArray := prog_10_method_51_code
def yX8_does : MethodName := ⟨RX8, "does", "(I)Z"⟩
abbrev cX8_judge : ByteArray := prog_10_method_52_code
def yX8_judge : MethodName := ⟨RX8, "judge", "(IJ)I"⟩
abbrev cX8_ways : ByteArray := prog_10_method_53_code
def yX8_ways : MethodName := ⟨RX8, "ways", "(I)I"⟩
abbrev cX8_divisor : ByteArray := prog_10_method_54_code
def yX8_divisor : MethodName := ⟨RX8, "divisor", "(II)I"⟩
abbrev cX8_fraction : ByteArray := prog_10_method_55_code
def yX8_fraction : MethodName := ⟨RX8, "fraction", "(IIZ)I"⟩
abbrev cX8_share : ByteArray := prog_10_method_56_code
def yX8_share : MethodName := ⟨RX8, "share", "(IZ)I"⟩
abbrev cX8_sound : ByteArray := prog_10_method_57_code
def yX8_sound : MethodName := ⟨RX8, "sound", "(III)I"⟩
abbrev cX8_unsound : ByteArray := prog_10_method_58_code
def yX8_unsound : MethodName := ⟨RX8, "unsound", "()I"⟩
abbrev cX8_explains : ByteArray := prog_10_method_59_code
def yX8_explains : MethodName := ⟨RX8, "explains", "(IZ)Z"⟩
abbrev cX8_depths : ByteArray := prog_10_method_60_code
def yX8_depths : MethodName := ⟨RX8, "depths", "(I)I"⟩
abbrev cX8_chosen : ByteArray := prog_10_method_61_code
def yX8_chosen : MethodName := ⟨RX8, "chosen", "(II)I"⟩
abbrev cX8_layGains : ByteArray := prog_10_method_62_code
def yX8_layGains : MethodName := ⟨RX8, "layGains", "(III)V"⟩
abbrev cX8_rests : ByteArray := prog_10_method_63_code
def yX8_rests : MethodName := ⟨RX8, "rests", "(III)I"⟩
abbrev cX8_ebb : ByteArray := prog_10_method_64_code
def yX8_ebb : MethodName := ⟨RX8, "ebb", "(IIZ)I"⟩
abbrev cX8_seed : ByteArray := prog_10_method_65_code
def yX8_seed : MethodName := ⟨RX8, "seed", "(J)J"⟩
abbrev cX8_years : ByteArray := prog_10_method_66_code
def yX8_years : MethodName := ⟨RX8, "years", "(I)I"⟩
abbrev cX8_keep : ByteArray := prog_10_method_67_code
def yX8_keep : MethodName := ⟨RX8, "keep", "(I)I"⟩
abbrev cX8_again : ByteArray := prog_10_method_68_code
def yX8_again : MethodName := ⟨RX8, "again", "(I)I"⟩
def RJ6 : String := "java/lang/Integer"
def TJ6 : u_T := fun k => match k with
  | _ => ("", "", "", false)
def tyJ6 : Nat → FieldType := fun k => match k with
  | _ => .int
theorem nmJ6 : ∀ a, a < 0 → ∀ b, b < 0 → a ≠ b → (TJ6 a).2.1 ≠ (TJ6 b).2.1 := by decide +kernel
theorem tyJ6_ok : ∀ k, k < 0 → parseFieldDescriptor (TJ6 k).2.2.1 = some (tyJ6 k) := by decide +kernel
abbrev cJ6_bitCount_0f7a4 : ByteArray := prog_11_method_49_code
def yJ6_bitCount_0f7a4 : MethodName := ⟨RJ6, "bitCount", "(I)I"⟩
def RJ9 : String := "java/lang/Math"
def TJ9 : u_T := fun k => match k with
  | _ => ("", "", "", false)
def tyJ9 : Nat → FieldType := fun k => match k with
  | _ => .int
theorem nmJ9 : ∀ a, a < 0 → ∀ b, b < 0 → a ≠ b → (TJ9 a).2.1 ≠ (TJ9 b).2.1 := by decide +kernel
theorem tyJ9_ok : ∀ k, k < 0 → parseFieldDescriptor (TJ9 k).2.2.1 = some (tyJ9 k) := by decide +kernel
abbrev cJ9_abs_0f7a4 : ByteArray := prog_12_method_59_code
def yJ9_abs_0f7a4 : MethodName := ⟨RJ9, "abs", "(I)I"⟩
abbrev cJ9_max_7cf53 : ByteArray := prog_12_method_65_code
def yJ9_max_7cf53 : MethodName := ⟨RJ9, "max", "(II)I"⟩
abbrev cJ9_min_7cf53 : ByteArray := prog_12_method_69_code
def yJ9_min_7cf53 : MethodName := ⟨RJ9, "min", "(II)I"⟩
def RJ10 : String := "java/lang/System"
def TJ10 : u_T := fun k => match k with
  | _ => ("", "", "", false)
def tyJ10 : Nat → FieldType := fun k => match k with
  | _ => .int
theorem nmJ10 : ∀ a, a < 0 → ∀ b, b < 0 → a ≠ b → (TJ10 a).2.1 ≠ (TJ10 b).2.1 := by decide +kernel
theorem tyJ10_ok : ∀ k, k < 0 → parseFieldDescriptor (TJ10 k).2.2.1 = some (tyJ10 k) := by decide +kernel
def RL : String := "SleepHarbourLaw"
abbrev cL_law : ByteArray := code
def yL_law : MethodName := ⟨RL, "law", "([I)Z"⟩
end
section
/-! THE MACHINE IN SMALL: an interpreter of the bytecode over a small picture of the heap; what it answers, the machine does (part 05) -/
/-- the world: how many cells, how many slots they took, kind and length of each (0 ints, 1 booleans, 2 Harbours, c + 3: object of class c), references, ints, longs -/
abbrev ai_W : Type := Nat × Nat × (Nat → Nat × Nat) × (Nat → Nat → Option Nat) × (Nat → Nat → Int32) × (Nat → Nat → Int64)
abbrev ai_cl : List vw_C := [(RX0, TX0, 3), (RX1, TX1, 2), (RX2, TX2, 7), (RX3, TX3, 5), (RX4, TX4, 4), (RX5, TX5, 2), (RX6, TX6, 10), (RX7, TX7, 12), (RX8, TX8, 37)]
def ai_ty (c k : Nat) : FieldType := match c with
  | 0 => tyX0 k
  | 1 => tyX1 k
  | 2 => tyX2 k
  | 3 => tyX3 k
  | 4 => tyX4 k
  | 5 => tyX5 k
  | 6 => tyX6 k
  | 7 => tyX7 k
  | _ => tyX8 k
/-- the words that hold in every state that the law comes to -/
def ai_tb : List Cond := lw_tbl.filter goodWord
/-- where arrays that were there before are named from -/
abbrev ai_O : Nat := 1000000000
def ai_cv (ad : Nat → Nat) (v : Value) : Value := match v with
  | .ref i => .ref (ad i)
  | v => v
-- words
def ai_fl (own : String) (idx : Nat) : Option (String × String × String) := ai_tb.findSome? fun w => match w with
  | .fieldLink o i r n d => if i = idx ∧ o = own then some (r, n, d) else none
  | _ => none
def ai_slot (r n d : String) : Option (Nat × Nat) := (List.range 9).findSome? fun ci => match ai_cl[ci]? with
  | some q => if q.1 = r then (List.range q.2.2).findSome? (fun k => if (q.2.1 k).2.1 = n ∧ (q.2.1 k).2.2.1 = d ∧ (q.2.1 k).1 = r then some (ci, k) else none) else none
  | none => none
/-- the field that an entry names: number of its class, its slot -/
def ai_fld (own : String) (idx : Nat) : Option (Nat × Nat) := match ai_fl own idx with
  | some q => ai_slot q.1 q.2.1 q.2.2
  | none => none
def ai_cst (own : String) (idx : Nat) : Option Int32 := ai_tb.findSome? fun w => match w with
  | .constant o i v => if i = idx ∧ o = own then some v else none
  | _ => none
def ai_cstL (own : String) (idx : Nat) : Option Int64 := ai_tb.findSome? fun w => match w with
  | .constantLong o i v => if i = idx ∧ o = own then some v else none
  | _ => none
def ai_clk (own : String) (idx : Nat) : Option String := ai_tb.findSome? fun w => match w with
  | .classLink o i v => if i = idx ∧ o = own then some v else none
  | _ => none
def ai_mlk (own : String) (idx : Nat) : Option MethodName := ai_tb.findSome? fun w => match w with
  | .methodLink o i v => if i = idx ∧ o = own then some v else none
  | _ => none
def ai_nlk (own : String) (idx : Nat) : Option (MethodName × String) := lw_tbl.findSome? fun w => match w with
  | .methodLinkNest o i v h => if i = idx ∧ o = own then some (v, h) else none
  | _ => none
def ai_code (y : MethodName) : Option (ByteArray × Nat × Option FieldType) := ai_tb.findSome? fun w => match w with
  | .code x b n r => if x = y then some (b, n, r) else none
  | _ => none
/-- the class that an entry names, by its number, if it can be made -/
def ai_cls (own : String) (idx : Nat) : Option Nat := match ai_clk own idx with
  | some C => (List.range 9).findSome? fun ci => match ai_cl[ci]? with
    | some q => if q.1 = C ∧ Cond.instantiable C q.2.2 ∈ ai_tb ∧ Cond.initialized C ∈ ai_tb then some ci else none
    | none => none
  | none => none
-- steps that touch neither locals nor heap
def ai_push (len n : Nat) (v : Value) (st : List Value) : Option (List Value) := if len = n then some (v :: st) else none
def ai_pushO (len n : Nat) (v : Option Value) (st : List Value) : Option (List Value) := match v with
  | some x => ai_push len n x st
  | none => none
def ai_ldi (len n : Nat) (L : List Value) (i : Nat) (st : List Value) : Option (List Value) := match L[i]? with
  | some (.int x) => ai_push len n (.int x) st
  | _ => none
def ai_ldl (len n : Nat) (L : List Value) (i : Nat) (st : List Value) : Option (List Value) := match L[i]? with
  | some (.long x) => ai_push len n (.long x) st
  | _ => none
def ai_lda (len n : Nat) (L : List Value) (i : Nat) (st : List Value) : Option (List Value) := match L[i]? with
  | some (.ref x) => ai_push len n (.ref x) st
  | _ => none
def ai_un (len : Nat) (f : Int32 → Value) (st : List Value) : Option (List Value) := match st with
  | .int x :: r => ai_push len 1 (f x) r
  | _ => none
def ai_unL (len : Nat) (f : Int64 → Value) (st : List Value) : Option (List Value) := match st with
  | .long x :: r => ai_push len 1 (f x) r
  | _ => none
def ai_bin (len : Nat) (f : Int32 → Int32 → Int32) (st : List Value) : Option (List Value) := match st with
  | .int y :: .int x :: r => ai_push len 1 (.int (f x y)) r
  | _ => none
def ai_binZ (len : Nat) (f : Int32 → Int32 → Int32) (st : List Value) : Option (List Value) := match st with
  | .int y :: .int x :: r => if y = 0 then none else ai_push len 1 (.int (f x y)) r
  | _ => none
def ai_binL (len : Nat) (f : Int64 → Int64 → Value) (st : List Value) : Option (List Value) := match st with
  | .long y :: .long x :: r => ai_push len 1 (f x y) r
  | _ => none
def ai_binLZ (len : Nat) (f : Int64 → Int64 → Int64) (st : List Value) : Option (List Value) := match st with
  | .long y :: .long x :: r => if y = 0 then none else ai_push len 1 (.long (f x y)) r
  | _ => none
def ai_shL (len : Nat) (f : Int64 → Int32 → Int64) (st : List Value) : Option (List Value) := match st with
  | .int y :: .long x :: r => ai_push len 1 (.long (f x y)) r
  | _ => none
def ai_A (own : String) (ins : Instr) (len : Nat) (L st : List Value) : Option (List Value) := match ins with
  | .iconst n => ai_push len 1 (.int (Int32.ofInt n)) st
  | .bipush n => ai_push len 2 (.int (Int8.ofInt n).toInt32) st
  | .sipush n => ai_push len 3 (.int (Int16.ofInt n).toInt32) st
  | .lconst n => ai_push len 1 (.long (Int64.ofNat n.val)) st
  | .ldc_w i => ai_pushO len 3 ((ai_cst own i).map Value.int) st
  | .ldc2_w i => ai_pushO len 3 ((ai_cstL own i).map Value.long) st
  | .iload i => ai_ldi len 2 L i st
  | .iload_n i => ai_ldi len 1 L i.val st
  | .lload i => ai_ldl len 2 L i st
  | .lload_n i => ai_ldl len 1 L i.val st
  | .aload i => ai_lda len 2 L i st
  | .aload_n i => ai_lda len 1 L i.val st
  | .iadd => ai_bin len (fun x y => x + y) st
  | .isub => ai_bin len (fun x y => x - y) st
  | .imul => ai_bin len (fun x y => x * y) st
  | .iand => ai_bin len (fun x y => x &&& y) st
  | .ior => ai_bin len (fun x y => x ||| y) st
  | .ishl => ai_bin len (fun x y => x <<< (y &&& 31)) st
  | .ishr => ai_bin len (fun x y => x >>> (y &&& 31)) st
  | .iushr => ai_bin len (fun x y => (x.toUInt32 >>> (y.toUInt32 &&& Int32.toUInt32 31)).toInt32) st
  | .idiv => ai_binZ len (fun x y => x / y) st
  | .irem => ai_binZ len (fun x y => x - x / y * y) st
  | .ineg => ai_un len (fun x => .int (-x)) st
  | .i2l => ai_un len (fun x => .long x.toInt64) st
  | .l2i => ai_unL len (fun x => .int x.toInt32) st
  | .ladd => ai_binL len (fun x y => .long (x + y)) st
  | .lsub => ai_binL len (fun x y => .long (x - y)) st
  | .lmul => ai_binL len (fun x y => .long (x * y)) st
  | .land => ai_binL len (fun x y => .long (x &&& y)) st
  | .lor => ai_binL len (fun x y => .long (x ||| y)) st
  | .lcmp => ai_binL len (fun x y => .int (lg_cmp x y)) st
  | .ldiv => ai_binLZ len (fun x y => x / y) st
  | .lrem => ai_binLZ len (fun x y => x - x / y * y) st
  | .lshl => ai_shL len (fun x y => x <<< (y.toInt64 &&& 63)) st
  | .lushr => ai_shL len (fun x y => (x.toUInt64 >>> (y.toInt64.toUInt64 &&& Int64.toUInt64 63)).toInt64) st
  | .dup => match st with
    | a :: r => if a.category = 1 then ai_push len 1 a (a :: r) else none
    | _ => none
  | .dup2 => match st with
    | a :: b :: r => if a.category = 1 ∧ b.category = 1 then ai_push len 1 a (b :: a :: b :: r) else none
    | _ => none
  | .pop => match st with
    | a :: r => if a.category = 1 ∧ len = 1 then some r else none
    | _ => none
  | _ => none
-- steps that set a local
def ai_is2 (v : Option Value) : Bool := match v with
  | some (.long _) => true
  | some (.double _) => true
  | _ => false
def ai_sti (len n : Nat) (L : List Value) (i : Nat) (st : List Value) : Option (List Value × List Value) := match st with
  | .int x :: r => if len = n ∧ i < L.length ∧ (i = 0 ∨ ai_is2 L[i - 1]? = false) then some (L.set i (.int x), r) else none
  | _ => none
def ai_sta (len n : Nat) (L : List Value) (i : Nat) (st : List Value) : Option (List Value × List Value) := match st with
  | .ref x :: r => if len = n ∧ i < L.length ∧ (i = 0 ∨ ai_is2 L[i - 1]? = false) then some (L.set i (.ref x), r) else none
  | _ => none
def ai_stl (len n : Nat) (L : List Value) (i : Nat) (st : List Value) : Option (List Value × List Value) := match st with
  | .long x :: r => if len = n ∧ i + 1 < L.length ∧ (i = 0 ∨ ai_is2 L[i - 1]? = false) then some ((L.set i (.long x)).set (i + 1) .null, r) else none
  | _ => none
def ai_B (ins : Instr) (len : Nat) (L st : List Value) : Option (List Value × List Value) := match ins with
  | .istore i => ai_sti len 2 L i st
  | .istore_n i => ai_sti len 1 L i.val st
  | .lstore i => ai_stl len 2 L i st
  | .lstore_n i => ai_stl len 1 L i.val st
  | .astore i => ai_sta len 2 L i st
  | .astore_n i => ai_sta len 1 L i.val st
  | .iinc i n => match L[i]? with
    | some (.int x) => ai_sti len 3 L i (.int (x + Int32.ofInt n) :: st)
    | _ => none
  | _ => none
-- jumps
def ai_tg (pc : Nat) (off : Int) (st : List Value) : Option (Nat × List Value) := if 0 ≤ (pc : Int) + off then some (((pc : Int) + off).toNat, st) else none
def ai_br (b : Prop) (i : Decidable b) (len pc : Nat) (off : Int) (st : List Value) : Option (Nat × List Value) := if len = 3 ∧ 0 ≤ (pc : Int) + off then (if b then some (((pc : Int) + off).toNat, st) else some (pc + 3, st)) else none
def ai_cmp (c : ClassFile.Cond) (len pc : Nat) (off : Int) (x y : Int32) (st : List Value) : Option (Nat × List Value) := match c with
  | .eq => ai_br (x = y) inferInstance len pc off st
  | .ne => ai_br (¬ x = y) inferInstance len pc off st
  | .lt => ai_br (x < y) inferInstance len pc off st
  | .ge => ai_br (y ≤ x) inferInstance len pc off st
  | .gt => ai_br (y < x) inferInstance len pc off st
  | .le => ai_br (x ≤ y) inferInstance len pc off st
def ai_J (ins : Instr) (len pc : Nat) (st : List Value) : Option (Nat × List Value) := match ins with
  | .goto off => if len = 3 then ai_tg pc off st else none
  | .ifCond c off => match st with
    | .int x :: r => ai_cmp c len pc off x 0 r
    | _ => none
  | .if_icmp c off => match st with
    | .int y :: .int x :: r => ai_cmp c len pc off x y r
    | _ => none
  | .tableswitch d lo hi offs => match st with
    | .int x :: r => if x.toInt < lo ∨ hi < x.toInt then ai_tg pc d r else match offs[(x.toInt - lo).toNat]? with
      | some off => ai_tg pc off r
      | none => none
    | _ => none
  | .lookupswitch d ps => match st with
    | .int x :: r => if (ps.toList.zip (ps.toList.drop 1)).all (fun (a, next) => a.1 < next.1) = true then ai_tg pc (Op.lookupswitch.offset ps.toList d x.toInt) r else none
    | _ => none
  | _ => none
-- steps on the heap
def ai_up (f : Nat → Nat → Int32) (i j : Nat) (v : Int32) : Nat → Nat → Int32 := fun a => if a = i then upd (f a) j v else f a
def ai_upL (f : Nat → Nat → Int64) (i j : Nat) (v : Int64) : Nat → Nat → Int64 := fun a => if a = i then vp_updL (f a) j v else f a
def ai_upR (f : Nat → Nat → Option Nat) (i j : Nat) (v : Option Nat) : Nat → Nat → Option Nat := fun a => if a = i then va_up (f a) j v else f a
/-- a new cell of a kind, with its slots -/
def ai_mk (w : ai_W) (k sl : Nat) : ai_W := (w.1 + 1, w.2.1 + sl, va_up w.2.2.1 w.1 (k, sl), va_up w.2.2.2.1 w.1 (fun _ => none), va_up w.2.2.2.2.1 w.1 (fun _ => 0), va_up w.2.2.2.2.2 w.1 (fun _ => 0))
def ai_isRef (t : FieldType) : Bool := match t with
  | .object _ => true
  | .array _ => true
  | _ => false
def ai_get (own : String) (idx : Nat) (st : List Value) (w : ai_W) : Option (List Value) := match st with
  | .ref i :: r => match ai_fld own idx with
    | some q => if i < w.1 ∧ (w.2.2.1 i).1 = q.1 + 3 then
        (if ai_ty q.1 q.2 = .int then some (.int (w.2.2.2.2.1 i q.2) :: r)
        else if ai_ty q.1 q.2 = .long then some (.long (w.2.2.2.2.2 i q.2) :: r)
        else if ai_isRef (ai_ty q.1 q.2) = true then (match w.2.2.2.1 i q.2 with
          | some k => some (.ref k :: r)
          | none => none)
        else none) else none
    | none => none
  | _ => none
/-- may a field be written here: it isn't final, or this is its class's constructor -/
def ai_may (y : MethodName) (ci k : Nat) : Bool := match ai_cl[ci]? with
  | some q => decide ((q.2.1 k).2.2.2 = false ∨ (y.name = "<init>" ∧ (q.2.1 k).1 = y.cls))
  | none => false
def ai_put (y : MethodName) (idx : Nat) (st : List Value) (w : ai_W) : Option (List Value × ai_W) := match st with
  | .int x :: .ref i :: r => match ai_fld y.cls idx with
    | some q => if i < w.1 ∧ (w.2.2.1 i).1 = q.1 + 3 ∧ ai_may y q.1 q.2 = true ∧ ai_ty q.1 q.2 = .int then some (r, w.1, w.2.1, w.2.2.1, w.2.2.2.1, ai_up w.2.2.2.2.1 i q.2 x, w.2.2.2.2.2) else none
    | none => none
  | .long x :: .ref i :: r => match ai_fld y.cls idx with
    | some q => if i < w.1 ∧ (w.2.2.1 i).1 = q.1 + 3 ∧ ai_may y q.1 q.2 = true ∧ ai_ty q.1 q.2 = .long then some (r, w.1, w.2.1, w.2.2.1, w.2.2.2.1, w.2.2.2.2.1, ai_upL w.2.2.2.2.2 i q.2 x) else none
    | none => none
  | .ref x :: .ref i :: r => match ai_fld y.cls idx with
    | some q => if i < w.1 ∧ x < w.1 ∧ (w.2.2.1 i).1 = q.1 + 3 ∧ ai_may y q.1 q.2 = true ∧ ai_isRef (ai_ty q.1 q.2) = true then some (r, w.1, w.2.1, w.2.2.1, ai_upR w.2.2.2.1 i q.2 (some x), w.2.2.2.2.1, w.2.2.2.2.2) else none
    | none => none
  | _ => none
def ai_ald (k : Nat) (oL : Nat → Nat) (ox : Nat → Nat → Int32) (st : List Value) (w : ai_W) : Option (List Value) := match st with
  | .int x :: .ref i :: r => if i < w.1 then (if (w.2.2.1 i).1 = k ∧ ¬ (x < 0 ∨ (w.2.2.1 i).2 ≤ x.toNatClampNeg) then some (.int (w.2.2.2.2.1 i x.toNatClampNeg) :: r) else none)
      else if k = 0 ∧ ai_O ≤ i ∧ i < ai_O + 2 ∧ ¬ (x < 0 ∨ oL (i - ai_O) ≤ x.toNatClampNeg) then some (.int (ox (i - ai_O) x.toNatClampNeg) :: r) else none
  | _ => none
def ai_aldR (st : List Value) (w : ai_W) : Option (List Value) := match st with
  | .int x :: .ref i :: r => if i < w.1 ∧ (w.2.2.1 i).1 = 2 ∧ ¬ (x < 0 ∨ (w.2.2.1 i).2 ≤ x.toNatClampNeg) then (match w.2.2.2.1 i x.toNatClampNeg with
      | some k => some (.ref k :: r)
      | none => none) else none
  | _ => none
def ai_ast (k : Nat) (f : Int32 → Int32) (st : List Value) (w : ai_W) : Option (List Value × ai_W) := match st with
  | .int v :: .int x :: .ref i :: r => if i < w.1 ∧ (w.2.2.1 i).1 = k ∧ ¬ (x < 0 ∨ (w.2.2.1 i).2 ≤ x.toNatClampNeg) then some (r, w.1, w.2.1, w.2.2.1, w.2.2.2.1, ai_up w.2.2.2.2.1 i x.toNatClampNeg (f v), w.2.2.2.2.2) else none
  | _ => none
def ai_astR (st : List Value) (w : ai_W) : Option (List Value × ai_W) := match st with
  | .ref v :: .int x :: .ref i :: r => if i < w.1 ∧ v < w.1 ∧ (w.2.2.1 v).1 = 5 ∧ (w.2.2.1 i).1 = 2 ∧ ¬ (x < 0 ∨ (w.2.2.1 i).2 ≤ x.toNatClampNeg) then some (r, w.1, w.2.1, w.2.2.1, ai_upR w.2.2.2.1 i x.toNatClampNeg (some v), w.2.2.2.2.1, w.2.2.2.2.2) else none
  | _ => none
def ai_news (own : String) (idx : Nat) (st : List Value) (w : ai_W) : Option (List Value × ai_W) := match ai_cls own idx with
  | some ci => match ai_cl[ci]? with
    | some q => if w.1 < 1000000 then some (.ref w.1 :: st, ai_mk w (ci + 3) q.2.2) else none
    | none => none
  | none => none
def ai_newa (k : Nat) (ty : FieldType) (st : List Value) (w : ai_W) : Option (List Value × ai_W) := match st with
  | .int x :: r => if ¬ x < 0 ∧ x.toNatClampNeg ≤ 1000 ∧ Cond.arrayClass ty ∈ ai_tb ∧ w.1 < 1000000 then some (.ref w.1 :: r, ai_mk w k x.toNatClampNeg) else none
  | _ => none
def ai_newR (own : String) (idx : Nat) (st : List Value) (w : ai_W) : Option (List Value × ai_W) := match st with
  | .int x :: r => if ¬ x < 0 ∧ x.toNatClampNeg ≤ 1000 ∧ ai_clk own idx = some RX2 ∧ w.1 < 1000000 then some (.ref w.1 :: r, ai_mk w 2 x.toNatClampNeg) else none
  | _ => none
def ai_cpy (st : List Value) (w : ai_W) : Option (List Value × ai_W) := match st with
  | .int n :: .int dp :: .ref b :: .int sp :: .ref a :: r =>
    if a < w.1 ∧ b < w.1 ∧ (w.2.2.1 a).1 = 0 ∧ (w.2.2.1 b).1 = 0 ∧ ¬ sp < 0 ∧ ¬ dp < 0 ∧ ¬ n < 0 ∧ sp.toNatClampNeg + n.toNatClampNeg ≤ (w.2.2.1 a).2 ∧ dp.toNatClampNeg + n.toNatClampNeg ≤ (w.2.2.1 b).2 ∧ (r.map fun v => v.category).sum ≤ 8 then
      some (r, w.1, w.2.1, w.2.2.1, w.2.2.2.1, va_up w.2.2.2.2.1 b (va_cpy (w.2.2.2.2.1 a) (w.2.2.2.2.1 b) sp.toNatClampNeg dp.toNatClampNeg n.toNatClampNeg), w.2.2.2.2.2) else none
  | _ => none
/-- Math's own three, which the machine runs by itself -/
def ai_isM (own : String) (idx : Nat) : Bool := match ai_mlk own idx with
  | some z => decide (z = Lib.Math.max.name ∨ z = Lib.Math.min.name ∨ z = Lib.Math.abs.name)
  | none => false
def ai_m2 (f : Int32 → Int32 → Int32) (st : List Value) (w : ai_W) : Option (List Value × ai_W) := match st with
  | .int y :: .int x :: r => if (r.map fun v => v.category).sum ≤ 8 then some (.int (f x y) :: r, w) else none
  | _ => none
def ai_m1 (f : Int32 → Int32) (st : List Value) (w : ai_W) : Option (List Value × ai_W) := match st with
  | .int x :: r => if (r.map fun v => v.category).sum ≤ 8 then some (.int (f x) :: r, w) else none
  | _ => none
def ai_mth (own : String) (idx len d : Nat) (st : List Value) (w : ai_W) : Option (List Value × ai_W) := if ai_isM own idx = false then none else
  if len = 3 ∧ 0 < d ∧ Cond.initialized "java/lang/Math" ∈ ai_tb then
    (if ai_mlk own idx = some Lib.Math.max.name ∧ Cond.static Lib.Math.max.name ∈ ai_tb ∧ Cond.code Lib.Math.max.name Lib.Math.max.code 2 (some .int) ∈ ai_tb then ai_m2 (fun x y => if x < y then y else x) st w
    else if ai_mlk own idx = some Lib.Math.min.name ∧ Cond.static Lib.Math.min.name ∈ ai_tb ∧ Cond.code Lib.Math.min.name Lib.Math.min.code 2 (some .int) ∈ ai_tb then ai_m2 (fun x y => if y < x then y else x) st w
    else if ai_mlk own idx = some Lib.Math.abs.name ∧ Cond.static Lib.Math.abs.name ∈ ai_tb ∧ Cond.code Lib.Math.abs.name Lib.Math.abs.code 1 (some .int) ∈ ai_tb then ai_m1 (fun x => if 0 ≤ x then x else 0 - x) st w
    else none) else none
def ai_keep (o : Option (List Value)) (w : ai_W) : Option (List Value × ai_W) := match o with
  | some st => some (st, w)
  | none => none
/-- d: frames that are left -/
def ai_M (oL : Nat → Nat) (ox : Nat → Nat → Int32) (y : MethodName) (ins : Instr) (len d : Nat) (st : List Value) (w : ai_W) : Option (List Value × ai_W) := match ins with
  | .getfield i => if len = 3 then ai_keep (ai_get y.cls i st w) w else none
  | .putfield i => if len = 3 then ai_put y i st w else none
  | .iaload => if len = 1 then ai_keep (ai_ald 0 oL ox st w) w else none
  | .baload => if len = 1 then ai_keep (ai_ald 1 oL ox st w) w else none
  | .aaload => if len = 1 then ai_keep (ai_aldR st w) w else none
  | .iastore => if len = 1 then ai_ast 0 (fun x => x) st w else none
  | .bastore => if len = 1 then ai_ast 1 (fun x => vp_nar .boolean x) st w else none
  | .aastore => if len = 1 then ai_astR st w else none
  | .new i => if len = 3 then ai_news y.cls i st w else none
  | .newarray t => if len = 2 then (match t with
    | .int => ai_newa 0 .int st w
    | .boolean => ai_newa 1 .boolean st w
    | _ => none) else none
  | .anewarray i => if len = 3 then ai_newR y.cls i st w else none
  | .arraylength => if len = 1 then (match st with
    | .ref i :: r => if i = ai_O then some (.int (Int32.ofNat (oL 0)) :: r, w) else none
    | _ => none) else none
  | .getstatic i => if len = 3 ∧ ai_fl y.cls i = some ("SleepHarbour", "FACTORIAL", "[I") then some (.ref (ai_O + 1) :: st, w) else none
  | .invokestatic i => if len = 3 ∧ 0 < d ∧ ai_mlk y.cls i = some arraycopyName ∧ Cond.native arraycopyName ∈ ai_tb ∧ Cond.static arraycopyName ∈ ai_tb ∧ Cond.initialized "java/lang/System" ∈ ai_tb then ai_cpy st w else ai_mth y.cls i len d st w
  | .invokespecial i => if len = 3 ∧ 0 < d ∧ ai_mlk y.cls i = some Lib.objectInit ∧ Cond.instanceMethod Lib.objectInit ∈ ai_tb ∧ Cond.code Lib.objectInit ⟨#[0xb1]⟩ 1 none ∈ ai_tb then (match st with
    | .ref _ :: r => if (r.map fun v => v.category).sum ≤ 8 then some (r, w) else none
    | _ => none) else none
  | _ => none
-- returns
def ai_R (ret : Option FieldType) (ins : Instr) (len : Nat) (st : List Value) : Option (Option Value) := match ins with
  | .ireturn => match st with
    | [.int v] => if len = 1 ∧ ((ret = some .int) ∨ (ret = some .boolean ∧ narrow .boolean (.int v) = .int v)) then some (some (.int v)) else none
    | _ => none
  | .lreturn => match st with
    | [.long v] => if len = 1 ∧ ret = some .long then some (some (.long v)) else none
    | _ => none
  | .return_ => match st with
    | [] => if len = 1 ∧ ret = none then some none else none
    | _ => none
  | _ => none
-- calls: what stands of a method: its code, and what the machine asks of it
abbrev ai_Mi : Type := MethodName × ByteArray × Nat × Option FieldType
def ai_fine (z : MethodName) (n : Nat) (mi : ByteArray × Nat × Option FieldType) : Bool :=
  decide (z.cls ≠ "java/lang/invoke/MethodHandle" ∧ z.cls ≠ "java/lang/invoke/VarHandle" ∧ (parseMethodDescriptor z.desc).map (fun d => d.parameters.length) = some n ∧ Cond.initialized z.cls ∈ ai_tb ∧ plainName z.cls = true ∧ mi.2.1 ≤ 20)
def ai_np (z : MethodName) : Nat := match parseMethodDescriptor z.desc with
  | some d => d.parameters.length
  | none => 0
/-- a virtual call, by its entry: the method, how many arguments it takes -/
def ai_cV (own : String) (idx : Nat) : Option (MethodName × Nat × ByteArray × Nat × Option FieldType) := match ai_mlk own idx with
  | some z => match ai_code z with
    | some mi => if ai_fine z (ai_np z) mi = true ∧ Cond.instanceMethod z ∈ ai_tb ∧ Cond.selects z.cls z z ∈ ai_tb then some (z, ai_np z, mi) else none
    | none => none
  | none => none
def ai_cS (own : String) (idx : Nat) : Option (MethodName × Nat × ByteArray × Nat × Option FieldType) := match ai_mlk own idx with
  | some z => match ai_code z with
    | some mi => if ai_fine z (ai_np z) mi = true ∧ Cond.static z ∈ ai_tb then some (z, ai_np z, mi) else none
    | none => none
  | none => none
def ai_cI (own : String) (idx : Nat) : Option (MethodName × Nat × ByteArray × Nat × Option FieldType) := match ai_mlk own idx with
  | some z => match ai_code z with
    | some mi => if ai_fine z (ai_np z) mi = true ∧ z.name = "<init>" ∧ Cond.instanceMethod z ∈ ai_tb ∧ mi.2.2 = none then some (z, ai_np z, mi) else none
    | none => none
  | none => none
def ai_cN (own : String) (idx : Nat) : Option (MethodName × Nat × ByteArray × Nat × Option FieldType) := match ai_nlk own idx with
  | some q => match ai_code q.1 with
    | some mi => if ai_fine q.1 (ai_np q.1) mi = true ∧ q.1.name = "<init>" ∧ Cond.instanceMethod q.1 ∈ ai_tb ∧ mi.2.2 = none then some (q.1, ai_np q.1, mi) else none
    | none => none
  | none => none
/-- the arguments (first one first) and what is below them -/
def ai_pop (n : Nat) (st : List Value) : Option (List Value × List Value) := if n ≤ st.length ∧ ((st.drop n).map fun v => v.category).sum ≤ 8 then some ((st.take n).reverse, st.drop n) else none
def ai_popV (n : Nat) (st : List Value) : Option (Nat × List Value × List Value) := match ai_pop n st with
  | some (As, .ref b :: rest) => some (b, As, rest)
  | _ => none
/-- a call: the method, its code, all its arguments, what is below -/
def ai_C (y : MethodName) (ins : Instr) (len : Nat) (st : List Value) (w : ai_W) : Option ((MethodName × ByteArray × Nat × Option FieldType) × List Value × List Value) := match ins with
  | .invokevirtual i => if len = 3 then (match ai_cV y.cls i with
    | some (z, n, mi) => (match ai_popV n st with
      | some (b, As, rest) => if b < w.1 ∧ ai_cl[(w.2.2.1 b).1 - 3]?.map (fun q => q.1) = some z.cls ∧ 3 ≤ (w.2.2.1 b).1 ∧ (lg_sl (Value.ref b :: As)).length ≤ mi.2.1 then some ((z, mi), .ref b :: As, rest) else none
      | none => none)
    | none => none) else none
  | .invokestatic i => if len = 3 then (match ai_cS y.cls i with
    | some (z, n, mi) => (match ai_pop n st with
      | some (As, rest) => if (lg_sl As).length ≤ mi.2.1 then some ((z, mi), As, rest) else none
      | none => none)
    | none => none) else none
  | .invokespecial i => if len = 3 then (match ai_cI y.cls i with
    | some (z, n, mi) => (match ai_popV n st with
      | some (b, As, rest) => if (lg_sl (Value.ref b :: As)).length ≤ mi.2.1 then some ((z, mi), .ref b :: As, rest) else none
      | none => none)
    | none => match ai_cN y.cls i with
      | some (z, n, mi) => (match ai_popV n st with
        | some (b, As, rest) => if (lg_sl (Value.ref b :: As)).length ≤ mi.2.1 then some ((z, mi), .ref b :: As, rest) else none
        | none => none)
      | none => none) else none
  | _ => none
/-- a method's locals at its entry -/
def ai_ent (n : Nat) (As : List Value) : List Value := (As.flatMap fun v => if v.category = 2 then [v, Value.null] else [v]) ++ List.replicate (n - (lg_sl As).length) Value.null
def ai_run (oL : Nat → Nat) (ox : Nat → Nat → Int32) : Nat → Nat → MethodName × ByteArray × Nat × Option FieldType → Nat → List Value → List Value → ai_W → Option (Option Value × ai_W)
  | 0, _, _, _, _, _, _ => none
  | n + 1, d, y, pc, L, st, w => match decode y.2.1 pc with
    | .error _ => none
    | .ok (ins, len) => match ai_A y.1.cls ins len L st with
      | some st' => ai_run oL ox n d y (pc + len) L st' w
      | none => match ai_B ins len L st with
        | some (L', st') => ai_run oL ox n d y (pc + len) L' st' w
        | none => match ai_J ins len pc st with
          | some (pc', st') => ai_run oL ox n d y pc' L st' w
          | none => match ai_M oL ox y.1 ins len d st w with
            | some (st', w') => ai_run oL ox n d y (pc + len) L st' w'
            | none => match ai_R y.2.2.2 ins len st with
              | some r => some (r, w)
              | none => match ai_C y.1 ins len st w with
                | some (z, As, rest) => match d with
                  | 0 => none
                  | d' + 1 => match ai_run oL ox n d' z 0 (ai_ent z.2.2.1 As) [] w with
                    | some (v, w') => ai_run oL ox n (d' + 1) y (pc + 3) L (v.toList ++ rest) w'
                    | none => none
                | none => none
end
section
theorem ai_tb_ok : ∀ w ∈ ai_tb, w ∈ lw_tbl ∧ goodWord w = true := fun w h => List.mem_filter.mp h
theorem ai_tb_in {ws : List Cond} {big : List Cond} (hs : ∀ w ∈ ws, w ∈ ai_tb) (hb : ∀ w ∈ ai_tb, w ∈ big) : GoodIn big ws := fun w h => ⟨hb w (hs w h), good_of_word (ai_tb_ok w (hs w h)).2⟩
-- what the searches find
theorem ai_fl_mem {own : String} {idx : Nat} {r n d : String} (h : ai_fl own idx = some (r, n, d)) : Cond.fieldLink own idx r n d ∈ ai_tb := by
  obtain ⟨w, hw, h1⟩ := List.exists_of_findSome?_eq_some h
  clear h
  split at h1
  · split at h1
    · rename_i hc
      obtain ⟨rfl, rfl⟩ := hc
      cases h1
      exact hw
    · cases h1
  · cases h1
theorem ai_cst_mem {own : String} {idx : Nat} {v : Int32} (h : ai_cst own idx = some v) : Cond.constant own idx v ∈ ai_tb := by
  obtain ⟨w, hw, h1⟩ := List.exists_of_findSome?_eq_some h
  clear h
  split at h1
  · split at h1
    · rename_i hc
      obtain ⟨rfl, rfl⟩ := hc
      cases h1
      exact hw
    · cases h1
  · cases h1
theorem ai_cstL_mem {own : String} {idx : Nat} {v : Int64} (h : ai_cstL own idx = some v) : Cond.constantLong own idx v ∈ ai_tb := by
  obtain ⟨w, hw, h1⟩ := List.exists_of_findSome?_eq_some h
  clear h
  split at h1
  · split at h1
    · rename_i hc
      obtain ⟨rfl, rfl⟩ := hc
      cases h1
      exact hw
    · cases h1
  · cases h1
theorem ai_clk_mem {own : String} {idx : Nat} {v : String} (h : ai_clk own idx = some v) : Cond.classLink own idx v ∈ ai_tb := by
  obtain ⟨w, hw, h1⟩ := List.exists_of_findSome?_eq_some h
  clear h
  split at h1
  · split at h1
    · rename_i hc
      obtain ⟨rfl, rfl⟩ := hc
      cases h1
      exact hw
    · cases h1
  · cases h1
theorem ai_mlk_mem {own : String} {idx : Nat} {v : MethodName} (h : ai_mlk own idx = some v) : Cond.methodLink own idx v ∈ ai_tb := by
  obtain ⟨w, hw, h1⟩ := List.exists_of_findSome?_eq_some h
  clear h
  split at h1
  · split at h1
    · rename_i hc
      obtain ⟨rfl, rfl⟩ := hc
      cases h1
      exact hw
    · cases h1
  · cases h1
theorem ai_nlk_mem {own : String} {idx : Nat} {v : MethodName × String} (h : ai_nlk own idx = some v) : Cond.methodLinkNest own idx v.1 v.2 ∈ lw_tbl := by
  obtain ⟨w, hw, h1⟩ := List.exists_of_findSome?_eq_some h
  clear h
  split at h1
  · split at h1
    · rename_i hc
      obtain ⟨rfl, rfl⟩ := hc
      cases h1
      exact hw
    · cases h1
  · cases h1
theorem ai_code_mem {y : MethodName} {mi : ByteArray × Nat × Option FieldType} (h : ai_code y = some mi) : Cond.code y mi.1 mi.2.1 mi.2.2 ∈ ai_tb := by
  obtain ⟨w, hw, h1⟩ := List.exists_of_findSome?_eq_some h
  clear h
  split at h1
  · split at h1
    · rename_i hc
      subst hc
      cases h1
      exact hw
    · cases h1
  · cases h1
theorem ai_slot_ok {r n d : String} {q : Nat × Nat} (h : ai_slot r n d = some q) : ∃ c : vw_C, ai_cl[q.1]? = some c ∧ q.2 < c.2.2 ∧ c.1 = r ∧ (c.2.1 q.2).1 = r ∧ (c.2.1 q.2).2.1 = n ∧ (c.2.1 q.2).2.2.1 = d := by
  obtain ⟨ci, -, h⟩ := List.exists_of_findSome?_eq_some h
  split at h
  · rename_i c hc
    split at h
    · rename_i hr
      obtain ⟨k, hk, h⟩ := List.exists_of_findSome?_eq_some h
      split at h
      · rename_i he
        cases h
        exact ⟨c, hc, List.mem_range.mp hk, hr, he.2.2, he.1, he.2.1⟩
      · cases h
    · cases h
  · cases h
theorem ai_fld_ok {own : String} {idx : Nat} {q : Nat × Nat} (h : ai_fld own idx = some q) : ∃ c : vw_C, ai_cl[q.1]? = some c ∧ q.2 < c.2.2 ∧ c.1 = (c.2.1 q.2).1 ∧ Cond.fieldLink own idx (c.2.1 q.2).1 (c.2.1 q.2).2.1 (c.2.1 q.2).2.2.1 ∈ ai_tb := by
  unfold ai_fld at h
  split at h
  · rename_i q0 hq
    obtain ⟨r, n, d⟩ := q0
    obtain ⟨c, h1, h2, h3, h4, h5, h6⟩ := ai_slot_ok h
    refine ⟨c, h1, h2, by rw [h3, h4], ?_⟩
    rw [h4, h5, h6]
    exact ai_fl_mem hq
  · cases h
theorem ai_cls_ok {own : String} {idx ci : Nat} (h : ai_cls own idx = some ci) : ∃ c : vw_C, ai_cl[ci]? = some c ∧ Cond.classLink own idx c.1 ∈ ai_tb ∧ Cond.instantiable c.1 c.2.2 ∈ ai_tb ∧ Cond.initialized c.1 ∈ ai_tb := by
  unfold ai_cls at h
  split at h
  · rename_i C hC
    obtain ⟨ci', -, h⟩ := List.exists_of_findSome?_eq_some h
    split at h
    · rename_i c hc
      split at h
      · rename_i he
        cases h
        obtain ⟨e, h2, h3⟩ := he
        subst e
        exact ⟨c, hc, ai_clk_mem hC, h2, h3⟩
      · cases h
    · cases h
  · cases h
-- what holds of every class of the table: its words, its types, its names
def ai_Cl (q : vw_C) (c : Nat) : Prop := (∀ w ∈ u_ws q.1 q.2.1 q.2.2, w ∈ ai_tb) ∧ (∀ k, k < q.2.2 → parseFieldDescriptor (q.2.1 k).2.2.1 = some (ai_ty c k)) ∧ (∀ a, a < q.2.2 → ∀ b, b < q.2.2 → a ≠ b → (q.2.1 a).2.1 ≠ (q.2.1 b).2.1) ∧ ∀ k, k < q.2.2 → (ai_ty c k = .int ∨ ai_ty c k = .long ∨ ai_isRef (ai_ty c k) = true)
theorem ai_Cl0 : ai_Cl (RX0, TX0, 3) 0 := ⟨by decide +kernel, tyX0_ok, nmX0, by decide +kernel⟩
theorem ai_Cl1 : ai_Cl (RX1, TX1, 2) 1 := ⟨by decide +kernel, tyX1_ok, nmX1, by decide +kernel⟩
theorem ai_Cl2 : ai_Cl (RX2, TX2, 7) 2 := ⟨by decide +kernel, tyX2_ok, nmX2, by decide +kernel⟩
theorem ai_Cl3 : ai_Cl (RX3, TX3, 5) 3 := ⟨by decide +kernel, tyX3_ok, nmX3, by decide +kernel⟩
theorem ai_Cl4 : ai_Cl (RX4, TX4, 4) 4 := ⟨by decide +kernel, tyX4_ok, nmX4, by decide +kernel⟩
theorem ai_Cl5 : ai_Cl (RX5, TX5, 2) 5 := ⟨by decide +kernel, tyX5_ok, nmX5, by decide +kernel⟩
theorem ai_Cl6 : ai_Cl (RX6, TX6, 10) 6 := ⟨by decide +kernel, tyX6_ok, nmX6, by decide +kernel⟩
theorem ai_Cl7 : ai_Cl (RX7, TX7, 12) 7 := ⟨by decide +kernel, tyX7_ok, nmX7, by decide +kernel⟩
theorem ai_Cl8 : ai_Cl (RX8, TX8, 37) 8 := ⟨by decide +kernel, tyX8_ok, nmX8, by decide +kernel⟩
theorem ai_ClA {c : Nat} {q : vw_C} (h : ai_cl[c]? = some q) : ai_Cl q c := by
  match c, h with
  | 0, h => cases h; exact ai_Cl0
  | 1, h => cases h; exact ai_Cl1
  | 2, h => cases h; exact ai_Cl2
  | 3, h => cases h; exact ai_Cl3
  | 4, h => cases h; exact ai_Cl4
  | 5, h => cases h; exact ai_Cl5
  | 6, h => cases h; exact ai_Cl6
  | 7, h => cases h; exact ai_Cl7
  | 8, h => cases h; exact ai_Cl8
  | c + 9, h => simp [ai_cl] at h
theorem ai_t1 : ai_fld RX2 31 = some (2, 0) := by decide +kernel
theorem ai_t2 : ai_code yX2_dreamsAt = some (cX2_dreamsAt, 4, some .int) := by decide +kernel
theorem ai_t3 : ai_cV RX2 56 = some (yX2_dreamsAt, 1, cX2_dreamsAt, 4, some .int) := by decide +kernel
end
section
theorem ml_RX5_3 : ai_mlk RX5 3 = some Lib.objectInit := by decide +kernel
theorem oi_1 : Cond.instanceMethod Lib.objectInit ∈ ai_tb := by decide +kernel
theorem oi_2 : Cond.code Lib.objectInit ⟨#[0xb1]⟩ 1 none ∈ ai_tb := by decide +kernel
theorem ac_0 : Cond.arrayClass .int ∈ ai_tb := by decide +kernel
theorem fl_RX5_9 : ai_fld RX5 9 = some (5, 0) := by decide +kernel
theorem fl_RX5_15 : ai_fld RX5 15 = some (5, 1) := by decide +kernel
theorem ml_RX6_3 : ai_mlk RX6 3 = some Lib.objectInit := by decide +kernel
theorem fl_RX6_9 : ai_fld RX6 9 = some (6, 0) := by decide +kernel
theorem fl_RX6_15 : ai_fld RX6 15 = some (6, 1) := by decide +kernel
theorem fl_RX6_18 : ai_fld RX6 18 = some (6, 2) := by decide +kernel
theorem fl_RX6_21 : ai_fld RX6 21 = some (6, 3) := by decide +kernel
theorem fl_RX6_24 : ai_fld RX6 24 = some (6, 4) := by decide +kernel
theorem fl_RX6_27 : ai_fld RX6 27 = some (6, 5) := by decide +kernel
theorem fl_RX6_31 : ai_fld RX6 31 = some (6, 6) := by decide +kernel
theorem fl_RX6_34 : ai_fld RX6 34 = some (6, 7) := by decide +kernel
theorem fl_RX6_37 : ai_fld RX6 37 = some (6, 8) := by decide +kernel
theorem fl_RX6_40 : ai_fld RX6 40 = some (6, 9) := by decide +kernel
theorem ml_RX2_3 : ai_mlk RX2 3 = some Lib.objectInit := by decide +kernel
theorem fl_RX2_9 : ai_fld RX2 9 = some (2, 1) := by decide +kernel
theorem fl_RX2_15 : ai_fld RX2 15 = some (2, 2) := by decide +kernel
theorem fl_RX2_18 : ai_fld RX2 18 = some (2, 3) := by decide +kernel
theorem fl_RX2_21 : ai_fld RX2 21 = some (2, 4) := by decide +kernel
theorem fl_RX2_24 : ai_fld RX2 24 = some (2, 5) := by decide +kernel
theorem fl_RX2_27 : ai_fld RX2 27 = some (2, 6) := by decide +kernel
theorem fl_RX2_31 : ai_fld RX2 31 = some (2, 0) := by decide +kernel
theorem ml_RX4_3 : ai_mlk RX4 3 = some Lib.objectInit := by decide +kernel
theorem fl_RX4_9 : ai_fld RX4 9 = some (4, 0) := by decide +kernel
theorem fl_RX4_15 : ai_fld RX4 15 = some (4, 1) := by decide +kernel
theorem ac_1 : Cond.arrayClass .boolean ∈ ai_tb := by decide +kernel
theorem fl_RX4_18 : ai_fld RX4 18 = some (4, 2) := by decide +kernel
theorem fl_RX4_22 : ai_fld RX4 22 = some (4, 3) := by decide +kernel
theorem ml_RX3_3 : ai_mlk RX3 3 = some Lib.objectInit := by decide +kernel
theorem fl_RX3_9 : ai_fld RX3 9 = some (3, 2) := by decide +kernel
theorem fl_RX3_15 : ai_fld RX3 15 = some (3, 3) := by decide +kernel
theorem fl_RX3_18 : ai_fld RX3 18 = some (3, 4) := by decide +kernel
theorem fl_RX3_21 : ai_fld RX3 21 = some (3, 0) := by decide +kernel
theorem fl_RX3_25 : ai_fld RX3 25 = some (3, 1) := by decide +kernel
theorem ml_RX1_3 : ai_mlk RX1 3 = some Lib.objectInit := by decide +kernel
theorem fl_RX1_9 : ai_fld RX1 9 = some (1, 0) := by decide +kernel
theorem fl_RX1_15 : ai_fld RX1 15 = some (1, 1) := by decide +kernel
theorem ml_RX0_3 : ai_mlk RX0 3 = some Lib.objectInit := by decide +kernel
theorem ck_RX0_9 : ai_clk RX0 9 = some RX2 := by decide +kernel
theorem fl_RX0_11 : ai_fld RX0 11 = some (0, 0) := by decide +kernel
theorem fl_RX0_17 : ai_fld RX0 17 = some (0, 1) := by decide +kernel
theorem fl_RX0_21 : ai_fld RX0 21 = some (0, 2) := by decide +kernel
theorem cs_RX0_9 : ai_cls RX0 9 = some 2 := by decide +kernel
theorem cI_RX0_24 : ai_cI RX0 24 = some (yX2_init, 1, cX2_init, 2, none) := by decide +kernel
theorem mn_RX0_24 : ai_mlk RX0 24 ≠ some Lib.objectInit := by decide +kernel
theorem ml_RX7_1 : ai_mlk RX7 1 = some Lib.objectInit := by decide +kernel
theorem cs_RX7_7 : ai_cls RX7 7 = some 5 := by decide +kernel
theorem cN_RX7_9 : ai_cN RX7 9 = some (yX5_init, 0, cX5_init, 1, none) := by decide +kernel
theorem mn_RX7_9 : ai_mlk RX7 9 ≠ some Lib.objectInit := by decide +kernel
theorem c0_RX7_9 : ai_cI RX7 9 = none := by decide +kernel
theorem fl_RX7_10 : ai_fld RX7 10 = some (7, 0) := by decide +kernel
theorem cs_RX7_16 : ai_cls RX7 16 = some 6 := by decide +kernel
theorem cN_RX7_18 : ai_cN RX7 18 = some (yX6_init, 0, cX6_init, 1, none) := by decide +kernel
theorem mn_RX7_18 : ai_mlk RX7 18 ≠ some Lib.objectInit := by decide +kernel
theorem c0_RX7_18 : ai_cI RX7 18 = none := by decide +kernel
theorem fl_RX7_19 : ai_fld RX7 19 = some (7, 1) := by decide +kernel
theorem fl_RX7_23 : ai_fld RX7 23 = some (7, 2) := by decide +kernel
theorem cs_RX7_26 : ai_cls RX7 26 = some 2 := by decide +kernel
theorem cI_RX7_28 : ai_cI RX7 28 = some (yX2_init, 1, cX2_init, 2, none) := by decide +kernel
theorem mn_RX7_28 : ai_mlk RX7 28 ≠ some Lib.objectInit := by decide +kernel
theorem fl_RX7_31 : ai_fld RX7 31 = some (7, 3) := by decide +kernel
theorem fl_RX7_35 : ai_fld RX7 35 = some (7, 4) := by decide +kernel
theorem cs_RX7_38 : ai_cls RX7 38 = some 0 := by decide +kernel
theorem cI_RX7_40 : ai_cI RX7 40 = some (yX0_init, 1, cX0_init, 3, none) := by decide +kernel
theorem mn_RX7_40 : ai_mlk RX7 40 ≠ some Lib.objectInit := by decide +kernel
theorem fl_RX7_41 : ai_fld RX7 41 = some (7, 5) := by decide +kernel
theorem cs_RX7_45 : ai_cls RX7 45 = some 4 := by decide +kernel
theorem cN_RX7_47 : ai_cN RX7 47 = some (yX4_init, 0, cX4_init, 1, none) := by decide +kernel
theorem mn_RX7_47 : ai_mlk RX7 47 ≠ some Lib.objectInit := by decide +kernel
theorem c0_RX7_47 : ai_cI RX7 47 = none := by decide +kernel
theorem fl_RX7_48 : ai_fld RX7 48 = some (7, 6) := by decide +kernel
theorem cs_RX7_52 : ai_cls RX7 52 = some 3 := by decide +kernel
theorem cI_RX7_54 : ai_cI RX7 54 = some (yX3_init, 2, cX3_init, 3, none) := by decide +kernel
theorem mn_RX7_54 : ai_mlk RX7 54 ≠ some Lib.objectInit := by decide +kernel
theorem fl_RX7_57 : ai_fld RX7 57 = some (7, 7) := by decide +kernel
theorem cs_RX7_61 : ai_cls RX7 61 = some 1 := by decide +kernel
theorem cI_RX7_63 : ai_cI RX7 63 = some (yX1_init, 2, cX1_init, 3, none) := by decide +kernel
theorem mn_RX7_63 : ai_mlk RX7 63 ≠ some Lib.objectInit := by decide +kernel
theorem fl_RX7_64 : ai_fld RX7 64 = some (7, 8) := by decide +kernel
theorem ck_RX7_26 : ai_clk RX7 26 = some RX2 := by decide +kernel
theorem fl_RX7_68 : ai_fld RX7 68 = some (7, 9) := by decide +kernel
theorem fl_RX7_72 : ai_fld RX7 72 = some (7, 10) := by decide +kernel
theorem fl_RX7_76 : ai_fld RX7 76 = some (7, 11) := by decide +kernel
theorem ml_RX8_1 : ai_mlk RX8 1 = some Lib.objectInit := by decide +kernel
theorem fl_RX8_7 : ai_fld RX8 7 = some (8, 1) := by decide +kernel
theorem fl_RX8_13 : ai_fld RX8 13 = some (8, 5) := by decide +kernel
theorem fl_RX8_16 : ai_fld RX8 16 = some (8, 7) := by decide +kernel
theorem fl_RX8_19 : ai_fld RX8 19 = some (8, 9) := by decide +kernel
theorem fl_RX8_22 : ai_fld RX8 22 = some (8, 11) := by decide +kernel
theorem fl_RX8_25 : ai_fld RX8 25 = some (8, 13) := by decide +kernel
theorem fl_RX8_28 : ai_fld RX8 28 = some (8, 15) := by decide +kernel
theorem fl_RX8_31 : ai_fld RX8 31 = some (8, 16) := by decide +kernel
theorem fl_RX8_34 : ai_fld RX8 34 = some (8, 17) := by decide +kernel
theorem fl_RX8_37 : ai_fld RX8 37 = some (8, 18) := by decide +kernel
theorem fl_RX8_40 : ai_fld RX8 40 = some (8, 20) := by decide +kernel
theorem fl_RX8_43 : ai_fld RX8 43 = some (8, 21) := by decide +kernel
theorem fl_RX8_47 : ai_fld RX8 47 = some (8, 23) := by decide +kernel
theorem fl_RX8_50 : ai_fld RX8 50 = some (8, 24) := by decide +kernel
theorem fl_RX8_53 : ai_fld RX8 53 = some (8, 25) := by decide +kernel
theorem fl_RX8_56 : ai_fld RX8 56 = some (8, 35) := by decide +kernel
theorem fl_RX8_59 : ai_fld RX8 59 = some (8, 36) := by decide +kernel
theorem ct_RJ6_265 : ai_cst RJ6 265 = some 1431655765 := by decide +kernel
theorem ct_RJ6_266 : ai_cst RJ6 266 = some 858993459 := by decide +kernel
theorem ct_RJ6_267 : ai_cst RJ6 267 = some 252645135 := by decide +kernel
theorem cv_RX6_43 : ai_cV RX6 43 = some (yX6_hasRoomFor, 1, cX6_hasRoomFor, 2, (some .boolean)) := by decide +kernel
theorem cv_RX6_47 : ai_cV RX6 47 = some (yX6_hearsFirst, 1, cX6_hearsFirst, 2, (some .boolean)) := by decide +kernel
theorem cv_RX6_50 : ai_cV RX6 50 = some (yX6_hearsKind, 1, cX6_hearsKind, 2, (some .boolean)) := by decide +kernel
theorem fl_RX2_35 : ai_fld RX2 35 = some (6, 3) := by decide +kernel
theorem fl_RX2_38 : ai_fld RX2 38 = some (6, 1) := by decide +kernel
theorem ml_RX2_39 : ai_mlk RX2 39 = some arraycopyName := by decide +kernel
theorem ay_1 : Cond.native arraycopyName ∈ ai_tb := by decide +kernel
theorem ay_2 : Cond.static arraycopyName ∈ ai_tb := by decide +kernel
theorem ay_3 : Cond.initialized "java/lang/System" ∈ ai_tb := by decide +kernel
theorem cv_RX2_45 : ai_cV RX2 45 = some (yX6_tideOn, 1, cX6_tideOn, 2, (some .int)) := by decide +kernel
theorem cv_RX2_49 : ai_cV RX2 49 = some (yX2_tide, 0, cX2_tide, 1, (some .int)) := by decide +kernel
theorem fl_RX2_53 : ai_fld RX2 53 = some (6, 7) := by decide +kernel
theorem cv_RX2_56 : ai_cV RX2 56 = some (yX2_dreamsAt, 1, cX2_dreamsAt, 4, (some .int)) := by decide +kernel
end
section
theorem cS_RX2_59 : ai_cS RX2 59 = some (yJ6_bitCount_0f7a4, 1, cJ6_bitCount_0f7a4, 1, (some .int)) := by decide +kernel
theorem mn_RX2_59 : ai_mlk RX2 59 ≠ some arraycopyName := by decide +kernel
theorem mi_RX2_59 : ai_isM RX2 59 = false := by decide +kernel
theorem fl_RX2_64 : ai_fld RX2 64 = some (6, 6) := by decide +kernel
theorem fl_RX2_67 : ai_fld RX2 67 = some (6, 2) := by decide +kernel
theorem fl_RX2_70 : ai_fld RX2 70 = some (6, 4) := by decide +kernel
theorem cv_RX2_73 : ai_cV RX2 73 = some (yX2_suits, 2, cX2_suits, 3, (some .boolean)) := by decide +kernel
theorem cv_RX2_77 : ai_cV RX2 77 = some (yX2_roomIn, 1, cX2_roomIn, 4, (some .int)) := by decide +kernel
theorem cv_RX2_80 : ai_cV RX2 80 = some (yX2_canBe, 2, cX2_canBe, 3, (some .boolean)) := by decide +kernel
theorem cv_RX2_83 : ai_cV RX2 83 = some (yX2_water, 1, cX2_water, 2, (some .int)) := by decide +kernel
theorem cv_RX2_86 : ai_cV RX2 86 = some (yX6_hasDream, 1, cX6_hasDream, 2, (some .boolean)) := by decide +kernel
theorem cv_RX2_90 : ai_cV RX2 90 = some (yX6_hasBerth, 1, cX6_hasBerth, 2, (some .boolean)) := by decide +kernel
theorem cv_RX2_93 : ai_cV RX2 93 = some (yX2_liesOff, 1, cX2_liesOff, 2, (some .boolean)) := by decide +kernel
theorem cv_RX2_96 : ai_cV RX2 96 = some (yX2_isBerthed, 1, cX2_isBerthed, 2, (some .boolean)) := by decide +kernel
theorem cv_RX2_99 : ai_cV RX2 99 = some (yX2_spoilt, 2, cX2_spoilt, 3, (some .int)) := by decide +kernel
theorem mn_RX2_103 : ai_mlk RX2 103 ≠ some arraycopyName := by decide +kernel
theorem mm_RX2_103 : ai_mlk RX2 103 = some Lib.Math.max.name := by decide +kernel
theorem mi_RX2_103 : ai_isM RX2 103 = true := by decide +kernel
theorem mw_max : Cond.initialized "java/lang/Math" ∈ ai_tb ∧ Cond.static Lib.Math.max.name ∈ ai_tb ∧ Cond.code Lib.Math.max.name Lib.Math.max.code 2 (some .int) ∈ ai_tb := by decide +kernel
theorem cv_RX2_108 : ai_cV RX2 108 = some (yX2_dreamtIn, 2, cX2_dreamtIn, 6, (some .int)) := by decide +kernel
theorem cv_RX2_111 : ai_cV RX2 111 = some (yX2_sleepIn, 2, cX2_sleepIn, 4, none) := by decide +kernel
theorem cv_RX2_115 : ai_cV RX2 115 = some (yX2_lieOffLonger, 0, cX2_lieOffLonger, 2, none) := by decide +kernel
theorem cv_RX2_118 : ai_cV RX2 118 = some (yX2_bringNightmares, 0, cX2_bringNightmares, 2, none) := by decide +kernel
theorem cv_RX2_121 : ai_cV RX2 121 = some (yX2_dredge, 0, cX2_dredge, 2, none) := by decide +kernel
theorem mn_RX2_124 : ai_mlk RX2 124 ≠ some arraycopyName := by decide +kernel
theorem mm_RX2_124 : ai_mlk RX2 124 = some Lib.Math.min.name := by decide +kernel
theorem mi_RX2_124 : ai_isM RX2 124 = true := by decide +kernel
theorem mw_min : Cond.initialized "java/lang/Math" ∈ ai_tb ∧ Cond.static Lib.Math.min.name ∈ ai_tb ∧ Cond.code Lib.Math.min.name Lib.Math.min.code 2 (some .int) ∈ ai_tb := by decide +kernel
theorem m0_RX2_124 : ai_mlk RX2 124 ≠ some Lib.Math.max.name := by decide +kernel
theorem cv_RX2_127 : ai_cV RX2 127 = some (yX2_moorInLeast, 1, cX2_moorInLeast, 3, none) := by decide +kernel
theorem cv_RX2_131 : ai_cV RX2 131 = some (yX2_passNight, 0, cX2_passNight, 5, (some .int)) := by decide +kernel
theorem cv_RX2_134 : ai_cV RX2 134 = some (yX2_moors, 2, cX2_moors, 3, (some .boolean)) := by decide +kernel
theorem cv_RX2_137 : ai_cV RX2 137 = some (yX2_tows, 1, cX2_tows, 2, (some .boolean)) := by decide +kernel
theorem cv_RX2_140 : ai_cV RX2 140 = some (yX2_canMoor, 2, cX2_canMoor, 3, (some .boolean)) := by decide +kernel
theorem cv_RX2_143 : ai_cV RX2 143 = some (yX2_canTow, 1, cX2_canTow, 2, (some .boolean)) := by decide +kernel
theorem cv_RX2_146 : ai_cV RX2 146 = some (yX2_towOut, 1, cX2_towOut, 2, none) := by decide +kernel
theorem cv_RX0_27 : ai_cV RX0 27 = some (yX2_becomes, 1, cX2_becomes, 2, none) := by decide +kernel
theorem mn_RX0_31 : ai_mlk RX0 31 ≠ some arraycopyName := by decide +kernel
theorem mm_RX0_31 : ai_mlk RX0 31 = some Lib.Math.min.name := by decide +kernel
theorem mi_RX0_31 : ai_isM RX0 31 = true := by decide +kernel
theorem m0_RX0_31 : ai_mlk RX0 31 ≠ some Lib.Math.max.name := by decide +kernel
theorem cv_RX1_19 : ai_cV RX1 19 = some (yX1_gain, 4, cX1_gain, 8, (some .int)) := by decide +kernel
theorem cv_RX1_23 : ai_cV RX1 23 = some (yX1_berthChosen, 2, cX1_berthChosen, 3, (some .int)) := by decide +kernel
theorem cv_RX1_27 : ai_cV RX1 27 = some (yX2_roomIn, 1, cX2_roomIn, 4, (some .int)) := by decide +kernel
theorem fl_RX1_33 : ai_fld RX1 33 = some (2, 1) := by decide +kernel
theorem cv_RX1_37 : ai_cV RX1 37 = some (yX2_tide, 0, cX2_tide, 1, (some .int)) := by decide +kernel
theorem cv_RX1_41 : ai_cV RX1 41 = some (yX2_dreamtIn, 2, cX2_dreamtIn, 6, (some .int)) := by decide +kernel
theorem cv_RX1_44 : ai_cV RX1 44 = some (yX6_hasBerth, 1, cX6_hasBerth, 2, (some .boolean)) := by decide +kernel
theorem cv_RX1_50 : ai_cV RX1 50 = some (yX2_canBe, 2, cX2_canBe, 3, (some .boolean)) := by decide +kernel
theorem cv_RX3_29 : ai_cV RX3 29 = some (yX2_becomes, 1, cX2_becomes, 2, none) := by decide +kernel
theorem fl_RX3_35 : ai_fld RX3 35 = some (6, 7) := by decide +kernel
theorem cv_RX3_40 : ai_cV RX3 40 = some (yX2_countAt, 1, cX2_countAt, 2, (some .int)) := by decide +kernel
theorem cv_RX3_44 : ai_cV RX3 44 = some (yX3_choose, 3, cX3_choose, 5, none) := by decide +kernel
theorem cv_RX3_48 : ai_cV RX3 48 = some (yX3_weigh, 1, cX3_weigh, 4, none) := by decide +kernel
theorem cv_RX3_52 : ai_cV RX3 52 = some (yX2_liesOff, 1, cX2_liesOff, 2, (some .boolean)) := by decide +kernel
theorem fl_RX3_56 : ai_fld RX3 56 = some (6, 6) := by decide +kernel
theorem cv_RX3_59 : ai_cV RX3 59 = some (yX3_isWorthwhile, 2, cX3_isWorthwhile, 3, (some .boolean)) := by decide +kernel
theorem fl_RX3_63 : ai_fld RX3 63 = some (2, 1) := by decide +kernel
theorem cv_RX3_67 : ai_cV RX3 67 = some (yX2_canBe, 2, cX2_canBe, 3, (some .boolean)) := by decide +kernel
theorem fl_RX3_70 : ai_fld RX3 70 = some (2, 3) := by decide +kernel
theorem cv_RX3_73 : ai_cV RX3 73 = some (yX2_water, 1, cX2_water, 2, (some .int)) := by decide +kernel
theorem cv_RX3_76 : ai_cV RX3 76 = some (yX2_tide, 0, cX2_tide, 1, (some .int)) := by decide +kernel
theorem cv_RX3_80 : ai_cV RX3 80 = some (yX2_dreamtIn, 2, cX2_dreamtIn, 6, (some .int)) := by decide +kernel
theorem cS_RX3_84 : ai_cS RX3 84 = some (yJ6_bitCount_0f7a4, 1, cJ6_bitCount_0f7a4, 1, (some .int)) := by decide +kernel
theorem mn_RX3_84 : ai_mlk RX3 84 ≠ some arraycopyName := by decide +kernel
theorem mi_RX3_84 : ai_isM RX3 84 = false := by decide +kernel
theorem mn_RX4_26 : ai_mlk RX4 26 ≠ some arraycopyName := by decide +kernel
theorem mm_RX4_26 : ai_mlk RX4 26 = some Lib.Math.min.name := by decide +kernel
theorem mi_RX4_26 : ai_isM RX4 26 = true := by decide +kernel
theorem m0_RX4_26 : ai_mlk RX4 26 ≠ some Lib.Math.max.name := by decide +kernel
theorem cv_RX4_32 : ai_cV RX4 32 = some (yX6_tideOn, 1, cX6_tideOn, 2, (some .int)) := by decide +kernel
theorem cv_RX5_19 : ai_cV RX5 19 = some (yX6_beginAnew, 0, cX6_beginAnew, 1, none) := by decide +kernel
theorem cv_RX5_24 : ai_cV RX5 24 = some (yX6_hears, 1, cX6_hears, 2, (some .boolean)) := by decide +kernel
theorem cv_RX5_28 : ai_cV RX5 28 = some (yX6_mayEnd, 0, cX6_mayEnd, 1, (some .boolean)) := by decide +kernel
theorem cv_RX7_80 : ai_cV RX7 80 = some (yX5_add, 1, cX5_add, 2, (some .int)) := by decide +kernel
theorem cv_RX7_84 : ai_cV RX7 84 = some (yX5_empty, 0, cX5_empty, 2, (some .int)) := by decide +kernel
theorem cv_RX7_88 : ai_cV RX7 88 = some (yX5_tell, 1, cX5_tell, 3, (some .int)) := by decide +kernel
theorem cv_RX7_92 : ai_cV RX7 92 = some (yX2_begin, 0, cX2_begin, 2, none) := by decide +kernel
theorem cv_RX7_95 : ai_cV RX7 95 = some (yX0_forget, 0, cX0_forget, 1, none) := by decide +kernel
theorem fl_RX7_98 : ai_fld RX7 98 = some (6, 5) := by decide +kernel
theorem fl_RX7_102 : ai_fld RX7 102 = some (6, 6) := by decide +kernel
theorem fl_RX7_105 : ai_fld RX7 105 = some (6, 7) := by decide +kernel
theorem fl_RX7_108 : ai_fld RX7 108 = some (2, 6) := by decide +kernel
theorem cv_RX7_111 : ai_cV RX7 111 = some (yX2_tide, 0, cX2_tide, 1, (some .int)) := by decide +kernel
theorem cv_RX7_114 : ai_cV RX7 114 = some (yX2_dreamsAt, 1, cX2_dreamsAt, 4, (some .int)) := by decide +kernel
theorem cv_RX7_117 : ai_cV RX7 117 = some (yX2_dreamsBerthed, 0, cX2_dreamsBerthed, 3, (some .int)) := by decide +kernel
theorem cv_RX7_120 : ai_cV RX7 120 = some (yX2_wokeInAll, 0, cX2_wokeInAll, 3, (some .int)) := by decide +kernel
theorem fl_RX7_123 : ai_fld RX7 123 = some (0, 2) := by decide +kernel
theorem fl_RX7_126 : ai_fld RX7 126 = some (4, 3) := by decide +kernel
theorem fl_RX7_127 : ai_fld RX7 127 = some (5, 1) := by decide +kernel
theorem cv_RX7_130 : ai_cV RX7 130 = some (yX6_hasBerth, 1, cX6_hasBerth, 2, (some .boolean)) := by decide +kernel
theorem fl_RX7_134 : ai_fld RX7 134 = some (2, 4) := by decide +kernel
theorem fl_RX7_138 : ai_fld RX7 138 = some (6, 2) := by decide +kernel
theorem cv_RX7_141 : ai_cV RX7 141 = some (yX2_water, 1, cX2_water, 2, (some .int)) := by decide +kernel
theorem fl_RX7_144 : ai_fld RX7 144 = some (2, 5) := by decide +kernel
theorem cv_RX7_147 : ai_cV RX7 147 = some (yX6_hasDream, 1, cX6_hasDream, 2, (some .boolean)) := by decide +kernel
theorem fl_RX7_150 : ai_fld RX7 150 = some (2, 3) := by decide +kernel
theorem fl_RX7_153 : ai_fld RX7 153 = some (6, 4) := by decide +kernel
theorem fl_RX7_156 : ai_fld RX7 156 = some (2, 1) := by decide +kernel
theorem cv_RX7_159 : ai_cV RX7 159 = some (yX2_liesOff, 1, cX2_liesOff, 2, (some .boolean)) := by decide +kernel
theorem fl_RX7_162 : ai_fld RX7 162 = some (2, 2) := by decide +kernel
theorem cv_RX7_165 : ai_cV RX7 165 = some (yX2_berthsOpenTo, 1, cX2_berthsOpenTo, 4, (some .int)) := by decide +kernel
theorem cv_RX7_168 : ai_cV RX7 168 = some (yX0_remember, 1, cX0_remember, 2, none) := by decide +kernel
theorem cv_RX7_172 : ai_cV RX7 172 = some (yX2_passNight, 0, cX2_passNight, 5, (some .int)) := by decide +kernel
theorem cv_RX7_175 : ai_cV RX7 175 = some (yX2_canMoor, 2, cX2_canMoor, 3, (some .boolean)) := by decide +kernel
theorem cv_RX7_179 : ai_cV RX7 179 = some (yX2_countAt, 1, cX2_countAt, 2, (some .int)) := by decide +kernel
theorem cv_RX7_182 : ai_cV RX7 182 = some (yX2_canTow, 1, cX2_canTow, 2, (some .boolean)) := by decide +kernel
theorem cv_RX7_185 : ai_cV RX7 185 = some (yX2_towOut, 1, cX2_towOut, 2, none) := by decide +kernel
theorem cv_RX7_189 : ai_cV RX7 189 = some (yX0_takeBack, 1, cX0_takeBack, 2, none) := by decide +kernel
theorem cS_RX7_192 : ai_cS RX7 192 = some (yX7_isNights, 1, cX7_isNights, 1, (some .boolean)) := by decide +kernel
theorem mn_RX7_192 : ai_mlk RX7 192 ≠ some arraycopyName := by decide +kernel
theorem mi_RX7_192 : ai_isM RX7 192 = false := by decide +kernel
theorem cv_RX7_195 : ai_cV RX7 195 = some (yX7_lookAhead, 1, cX7_lookAhead, 3, none) := by decide +kernel
theorem cv_RX7_198 : ai_cV RX7 198 = some (yX2_berthsFitFor, 1, cX2_berthsFitFor, 4, (some .int)) := by decide +kernel
theorem cv_RX7_201 : ai_cV RX7 201 = some (yX2_becomes, 1, cX2_becomes, 2, none) := by decide +kernel
theorem cv_RX7_204 : ai_cV RX7 204 = some (yX7_allBerths, 0, cX7_allBerths, 1, (some .int)) := by decide +kernel
theorem cv_RX7_207 : ai_cV RX7 207 = some (yX3_search, 2, cX3_search, 3, (some .int)) := by decide +kernel
theorem fl_RX7_211 : ai_fld RX7 211 = some (3, 4) := by decide +kernel
theorem fl_RX7_214 : ai_fld RX7 214 = some (3, 3) := by decide +kernel
theorem cS_RX7_217 : ai_cS RX7 217 = some (yX7_withoutLast, 2, cX7_withoutLast, 6, (some .long)) := by decide +kernel
end
section
theorem mn_RX7_217 : ai_mlk RX7 217 ≠ some arraycopyName := by decide +kernel
theorem mi_RX7_217 : ai_isM RX7 217 = false := by decide +kernel
theorem cl_RX7_221 : ai_cstL RX7 221 = some 1000 := by decide +kernel
theorem cv_RX7_223 : ai_cV RX7 223 = some (yX2_does, 1, cX2_does, 4, (some .boolean)) := by decide +kernel
theorem cS_RX7_226 : ai_cS RX7 226 = some (yJ6_bitCount_0f7a4, 1, cJ6_bitCount_0f7a4, 1, (some .int)) := by decide +kernel
theorem mn_RX7_226 : ai_mlk RX7 226 ≠ some arraycopyName := by decide +kernel
theorem mi_RX7_226 : ai_isM RX7 226 = false := by decide +kernel
theorem fs_RX7_231 : ai_fl RX7 231 = some ("SleepHarbour", "FACTORIAL", "[I") := by decide +kernel
theorem cS_RX7_234 : ai_cS RX7 234 = some (yX7_part, 3, cX7_part, 4, (some .int)) := by decide +kernel
theorem mn_RX7_234 : ai_mlk RX7 234 ≠ some arraycopyName := by decide +kernel
theorem mi_RX7_234 : ai_isM RX7 234 = false := by decide +kernel
theorem cv_RX7_238 : ai_cV RX7 238 = some (yX4_add, 3, cX4_add, 4, (some .int)) := by decide +kernel
theorem cv_RX7_240 : ai_cV RX7 240 = some (yX4_empty, 0, cX4_empty, 2, (some .int)) := by decide +kernel
theorem cv_RX7_241 : ai_cV RX7 241 = some (yX4_agrees, 3, cX4_agrees, 7, (some .boolean)) := by decide +kernel
theorem cv_RX7_245 : ai_cV RX7 245 = some (yX1_isContent, 4, cX1_isContent, 7, (some .boolean)) := by decide +kernel
theorem cv_RX7_249 : ai_cV RX7 249 = some (yX2_dreamtIfFailed, 1, cX2_dreamtIfFailed, 5, (some .int)) := by decide +kernel
theorem cv_RX7_252 : ai_cV RX7 252 = some (yX7_weightOf, 2, cX7_weightOf, 5, (some .int)) := by decide +kernel
theorem cl_RX7_256 : ai_cstL RX7 256 = some 6364136223846793005 := by decide +kernel
theorem cl_RX7_258 : ai_cstL RX7 258 = some 1442695040888963407 := by decide +kernel
theorem cl_RX7_260 : ai_cstL RX7 260 = some 32 := by decide +kernel
theorem cv_RX7_262 : ai_cV RX7 262 = some (yX2_drift, 1, cX2_drift, 2, none) := by decide +kernel
theorem mn_RX7_265 : ai_mlk RX7 265 ≠ some arraycopyName := by decide +kernel
theorem mm_RX7_265 : ai_mlk RX7 265 = some Lib.Math.abs.name := by decide +kernel
theorem mi_RX7_265 : ai_isM RX7 265 = true := by decide +kernel
theorem mw_abs : Cond.initialized "java/lang/Math" ∈ ai_tb ∧ Cond.static Lib.Math.abs.name ∈ ai_tb ∧ Cond.code Lib.Math.abs.name Lib.Math.abs.code 1 (some .int) ∈ ai_tb := by decide +kernel
theorem m0_RX7_265 : ai_mlk RX7 265 ≠ some Lib.Math.max.name := by decide +kernel
theorem m1_RX7_265 : ai_mlk RX7 265 ≠ some Lib.Math.min.name := by decide +kernel
theorem cS_RX7_270 : ai_cS RX7 270 = some (yX7_commonDivisor, 2, cX7_commonDivisor, 6, (some .int)) := by decide +kernel
theorem mn_RX7_270 : ai_mlk RX7 270 ≠ some arraycopyName := by decide +kernel
theorem mi_RX7_270 : ai_isM RX7 270 = false := by decide +kernel
theorem fl_RX8_66 : ai_fld RX8 66 = some (8, 6) := by decide +kernel
theorem cS_RX8_69 : ai_cS RX8 69 = some (yX8_in, 3, cX8_in, 6, (some .boolean)) := by decide +kernel
theorem mn_RX8_69 : ai_mlk RX8 69 ≠ some arraycopyName := by decide +kernel
theorem mi_RX8_69 : ai_isM RX8 69 = false := by decide +kernel
theorem fl_RX8_73 : ai_fld RX8 73 = some (8, 8) := by decide +kernel
theorem fl_RX8_62 : ai_fld RX8 62 = some (8, 0) := by decide +kernel
theorem cl_RX8_76 : ai_cstL RX8 76 = some 255 := by decide +kernel
theorem fl_RX8_78 : ai_fld RX8 78 = some (8, 2) := by decide +kernel
theorem fl_RX8_81 : ai_fld RX8 81 = some (8, 3) := by decide +kernel
theorem cv_RX8_84 : ai_cV RX8 84 = some (yX8_figure, 2, cX8_figure, 3, (some .int)) := by decide +kernel
theorem fl_RX8_88 : ai_fld RX8 88 = some (8, 10) := by decide +kernel
theorem fl_RX8_91 : ai_fld RX8 91 = some (8, 12) := by decide +kernel
theorem fl_RX8_94 : ai_fld RX8 94 = some (8, 14) := by decide +kernel
theorem cv_RX8_97 : ai_cV RX8 97 = some (yX8_readOneTide, 0, cX8_readOneTide, 2, (some .boolean)) := by decide +kernel
theorem cv_RX8_101 : ai_cV RX8 101 = some (yX8_readOneBerth, 0, cX8_readOneBerth, 3, (some .boolean)) := by decide +kernel
theorem cv_RX8_104 : ai_cV RX8 104 = some (yX8_readOneDream, 0, cX8_readOneDream, 3, (some .boolean)) := by decide +kernel
theorem cv_RX8_107 : ai_cV RX8 107 = some (yX8_readThing, 0, cX8_readThing, 2, (some .boolean)) := by decide +kernel
theorem cv_RX8_110 : ai_cV RX8 110 = some (yX8_readPort, 0, cX8_readPort, 1, (some .int)) := by decide +kernel
theorem fl_RX8_114 : ai_fld RX8 114 = some (8, 4) := by decide +kernel
theorem fl_RX8_117 : ai_fld RX8 117 = some (8, 19) := by decide +kernel
theorem fl_RX8_120 : ai_fld RX8 120 = some (8, 27) := by decide +kernel
theorem cS_RX8_123 : ai_cS RX8 123 = some (yX8_has, 2, cX8_has, 2, (some .boolean)) := by decide +kernel
theorem mn_RX8_123 : ai_mlk RX8 123 ≠ some arraycopyName := by decide +kernel
theorem mi_RX8_123 : ai_isM RX8 123 = false := by decide +kernel
theorem cv_RX8_127 : ai_cV RX8 127 = some (yX8_tideOf, 1, cX8_tideOf, 2, (some .int)) := by decide +kernel
theorem cv_RX8_131 : ai_cV RX8 131 = some (yX8_dreamsAt, 2, cX8_dreamsAt, 5, (some .int)) := by decide +kernel
theorem fl_RX8_135 : ai_fld RX8 135 = some (8, 28) := by decide +kernel
theorem cv_RX8_138 : ai_cV RX8 138 = some (yX8_suits, 3, cX8_suits, 4, (some .boolean)) := by decide +kernel
theorem cS_RX8_142 : ai_cS RX8 142 = some (yX8_many, 1, cX8_many, 3, (some .int)) := by decide +kernel
theorem mn_RX8_142 : ai_mlk RX8 142 ≠ some arraycopyName := by decide +kernel
theorem mi_RX8_142 : ai_isM RX8 142 = false := by decide +kernel
theorem cv_RX8_145 : ai_cV RX8 145 = some (yX8_canBe, 3, cX8_canBe, 4, (some .boolean)) := by decide +kernel
theorem cv_RX8_148 : ai_cV RX8 148 = some (yX8_waterOf, 2, cX8_waterOf, 3, (some .int)) := by decide +kernel
theorem cv_RX8_151 : ai_cV RX8 151 = some (yX8_mayBe, 2, cX8_mayBe, 5, (some .int)) := by decide +kernel
theorem cv_RX8_154 : ai_cV RX8 154 = some (yX8_goSleep, 1, cX8_goSleep, 6, (some .int)) := by decide +kernel
theorem cv_RX8_158 : ai_cV RX8 158 = some (yX8_goWait, 1, cX8_goWait, 6, none) := by decide +kernel
theorem cv_RX8_162 : ai_cV RX8 162 = some (yX8_berthed, 1, cX8_berthed, 4, (some .int)) := by decide +kernel
theorem cv_RX8_165 : ai_cV RX8 165 = some (yX8_woke, 0, cX8_woke, 3, (some .int)) := by decide +kernel
theorem fl_RX8_168 : ai_fld RX8 168 = some (8, 22) := by decide +kernel
theorem cv_RX8_171 : ai_cV RX8 171 = some (yX8_plainly, 0, cX8_plainly, 1, none) := by decide +kernel
theorem cv_RX8_174 : ai_cV RX8 174 = some (yX8_noBerth, 1, cX8_noBerth, 2, (some .boolean)) := by decide +kernel
theorem cv_RX8_178 : ai_cV RX8 178 = some (yX8_noDream, 1, cX8_noDream, 2, (some .boolean)) := by decide +kernel
theorem cv_RX8_181 : ai_cV RX8 181 = some (yX8_note, 0, cX8_note, 2, none) := by decide +kernel
theorem cv_RX8_184 : ai_cV RX8 184 = some (yX8_goNight, 1, cX8_goNight, 4, (some .int)) := by decide +kernel
theorem cS_RX8_187 : ai_cS RX8 187 = some (yX8_goTow, 2, cX8_goTow, 2, none) := by decide +kernel
theorem mn_RX8_187 : ai_mlk RX8 187 ≠ some arraycopyName := by decide +kernel
theorem mi_RX8_187 : ai_isM RX8 187 = false := by decide +kernel
theorem cv_RX8_191 : ai_cV RX8 191 = some (yX8_begin, 0, cX8_begin, 2, none) := by decide +kernel
theorem cl_RX8_194 : ai_cstL RX8 194 = some 20 := by decide +kernel
theorem cv_RX8_196 : ai_cV RX8 196 = some (yX8_goNights, 1, cX8_goNights, 3, none) := by decide +kernel
theorem cv_RX8_200 : ai_cV RX8 200 = some (yX8_fitsThen, 1, cX8_fitsThen, 4, (some .int)) := by decide +kernel
theorem fl_RX8_203 : ai_fld RX8 203 = some (8, 30) := by decide +kernel
theorem cS_RX8_206 : ai_cS RX8 206 = some (yX8_power, 2, cX8_power, 4, (some .int)) := by decide +kernel
theorem mn_RX8_206 : ai_mlk RX8 206 ≠ some arraycopyName := by decide +kernel
theorem mi_RX8_206 : ai_isM RX8 206 = false := by decide +kernel
theorem cv_RX8_209 : ai_cV RX8 209 = some (yX8_berthsBy, 2, cX8_berthsBy, 6, (some .boolean)) := by decide +kernel
theorem cv_RX8_212 : ai_cV RX8 212 = some (yX8_findPlan, 0, cX8_findPlan, 6, (some .int)) := by decide +kernel
theorem fl_RX8_215 : ai_fld RX8 215 = some (8, 29) := by decide +kernel
theorem cl_RX8_218 : ai_cstL RX8 218 = some 4 := by decide +kernel
theorem cl_RX8_220 : ai_cstL RX8 220 = some 1000 := by decide +kernel
theorem cS_RX8_222 : ai_cS RX8 222 = some (yX8_longPower, 2, cX8_longPower, 6, (some .long)) := by decide +kernel
theorem mn_RX8_222 : ai_mlk RX8 222 ≠ some arraycopyName := by decide +kernel
theorem mi_RX8_222 : ai_isM RX8 222 = false := by decide +kernel
theorem cv_RX8_226 : ai_cV RX8 226 = some (yX8_does, 1, cX8_does, 6, (some .boolean)) := by decide +kernel
theorem cS_RX8_229 : ai_cS RX8 229 = some (yX8_divisor, 2, cX8_divisor, 5, (some .int)) := by decide +kernel
theorem mn_RX8_229 : ai_mlk RX8 229 ≠ some arraycopyName := by decide +kernel
theorem mi_RX8_229 : ai_isM RX8 229 = false := by decide +kernel
theorem cS_RX8_232 : ai_cS RX8 232 = some (yX8_ways, 1, cX8_ways, 3, (some .int)) := by decide +kernel
theorem mn_RX8_232 : ai_mlk RX8 232 ≠ some arraycopyName := by decide +kernel
theorem mi_RX8_232 : ai_isM RX8 232 = false := by decide +kernel
theorem cS_RX8_235 : ai_cS RX8 235 = some (yX8_fraction, 3, cX8_fraction, 4, (some .int)) := by decide +kernel
theorem mn_RX8_235 : ai_mlk RX8 235 ≠ some arraycopyName := by decide +kernel
theorem mi_RX8_235 : ai_isM RX8 235 = false := by decide +kernel
theorem cl_RX8_239 : ai_cstL RX8 239 = some 9 := by decide +kernel
theorem fl_RX8_241 : ai_fld RX8 241 = some (8, 31) := by decide +kernel
theorem fl_RX8_244 : ai_fld RX8 244 = some (8, 32) := by decide +kernel
theorem cv_RX8_247 : ai_cV RX8 247 = some (yX8_explains, 2, cX8_explains, 6, (some .boolean)) := by decide +kernel
theorem cv_RX8_251 : ai_cV RX8 251 = some (yX8_chosen, 2, cX8_chosen, 3, (some .int)) := by decide +kernel
theorem cv_RX8_254 : ai_cV RX8 254 = some (yX8_layGains, 3, cX8_layGains, 9, none) := by decide +kernel
theorem fl_RX8_258 : ai_fld RX8 258 = some (8, 33) := by decide +kernel
theorem fl_RX8_261 : ai_fld RX8 261 = some (8, 34) := by decide +kernel
theorem cl_RX8_264 : ai_cstL RX8 264 = some 5 := by decide +kernel
theorem cl_RX8_266 : ai_cstL RX8 266 = some 10 := by decide +kernel
theorem fl_RX8_268 : ai_fld RX8 268 = some (8, 26) := by decide +kernel
theorem cl_RX8_272 : ai_cstL RX8 272 = some 30 := by decide +kernel
theorem cl_RX8_274 : ai_cstL RX8 274 = some 6364136223846793005 := by decide +kernel
theorem cl_RX8_276 : ai_cstL RX8 276 = some 1442695040888963407 := by decide +kernel
theorem cl_RX8_278 : ai_cstL RX8 278 = some 32 := by decide +kernel
theorem cs_RL_7 : ai_cls RL 7 = some 7 := by decide +kernel
theorem cI_RL_9 : ai_cI RL 9 = some (yX7_init, 0, cX7_init, 2, none) := by decide +kernel
end
section
theorem mn_RL_9 : ai_mlk RL 9 ≠ some Lib.objectInit := by decide +kernel
theorem cs_RL_10 : ai_cls RL 10 = some 8 := by decide +kernel
theorem cI_RL_12 : ai_cI RL 12 = some (yX8_init, 0, cX8_init, 1, none) := by decide +kernel
theorem mn_RL_12 : ai_mlk RL 12 ≠ some Lib.objectInit := by decide +kernel
theorem cv_RL_13 : ai_cV RL 13 = some (yX7_write, 1, cX7_write, 2, (some .int)) := by decide +kernel
theorem cv_RL_17 : ai_cV RL 17 = some (yX8_write, 1, cX8_write, 2, (some .int)) := by decide +kernel
theorem cv_RL_18 : ai_cV RL 18 = some (yX7_wipe, 0, cX7_wipe, 1, (some .int)) := by decide +kernel
theorem cv_RL_22 : ai_cV RL 22 = some (yX8_wipe, 0, cX8_wipe, 2, (some .int)) := by decide +kernel
theorem cv_RL_23 : ai_cV RL 23 = some (yX7_fault, 0, cX7_fault, 1, (some .int)) := by decide +kernel
theorem cv_RL_26 : ai_cV RL 26 = some (yX8_fault, 0, cX8_fault, 1, (some .int)) := by decide +kernel
theorem cv_RL_27 : ai_cV RL 27 = some (yX7_port, 0, cX7_port, 2, (some .int)) := by decide +kernel
theorem cv_RL_30 : ai_cV RL 30 = some (yX8_port, 0, cX8_port, 2, (some .int)) := by decide +kernel
theorem cv_RL_31 : ai_cV RL 31 = some (yX7_about, 1, cX7_about, 2, (some .int)) := by decide +kernel
theorem cv_RL_34 : ai_cV RL 34 = some (yX8_about, 1, cX8_about, 2, (some .int)) := by decide +kernel
theorem cv_RL_35 : ai_cV RL 35 = some (yX7_berth, 2, cX7_berth, 3, (some .int)) := by decide +kernel
theorem cv_RL_39 : ai_cV RL 39 = some (yX8_berth, 2, cX8_berth, 3, (some .int)) := by decide +kernel
theorem cv_RL_40 : ai_cV RL 40 = some (yX7_dream, 2, cX7_dream, 3, (some .int)) := by decide +kernel
theorem cv_RL_43 : ai_cV RL 43 = some (yX8_dream, 2, cX8_dream, 3, (some .int)) := by decide +kernel
theorem cv_RL_44 : ai_cV RL 44 = some (yX7_night, 0, cX7_night, 1, (some .int)) := by decide +kernel
theorem cv_RL_47 : ai_cV RL 47 = some (yX8_night, 0, cX8_night, 1, (some .int)) := by decide +kernel
theorem cv_RL_48 : ai_cV RL 48 = some (yX7_moor, 2, cX7_moor, 3, (some .int)) := by decide +kernel
theorem cv_RL_51 : ai_cV RL 51 = some (yX8_moor, 2, cX8_moor, 3, (some .int)) := by decide +kernel
theorem cv_RL_52 : ai_cV RL 52 = some (yX7_tow, 1, cX7_tow, 3, (some .int)) := by decide +kernel
theorem cv_RL_55 : ai_cV RL 55 = some (yX8_tow, 1, cX8_tow, 3, (some .int)) := by decide +kernel
theorem cv_RL_56 : ai_cV RL 56 = some (yX7_undo, 0, cX7_undo, 1, (some .int)) := by decide +kernel
theorem cv_RL_59 : ai_cV RL 59 = some (yX8_undo, 0, cX8_undo, 2, (some .int)) := by decide +kernel
theorem cv_RL_60 : ai_cV RL 60 = some (yX7_later, 2, cX7_later, 3, (some .int)) := by decide +kernel
theorem cv_RL_63 : ai_cV RL 63 = some (yX8_later, 2, cX8_later, 3, (some .int)) := by decide +kernel
theorem cv_RL_64 : ai_cV RL 64 = some (yX7_wakes, 2, cX7_wakes, 3, (some .int)) := by decide +kernel
theorem cv_RL_67 : ai_cV RL 67 = some (yX8_wakes, 2, cX8_wakes, 3, (some .int)) := by decide +kernel
theorem cv_RL_68 : ai_cV RL 68 = some (yX7_fits, 2, cX7_fits, 3, (some .int)) := by decide +kernel
theorem cv_RL_71 : ai_cV RL 71 = some (yX8_fits, 2, cX8_fits, 3, (some .int)) := by decide +kernel
theorem cv_RL_72 : ai_cV RL 72 = some (yX7_soonest, 1, cX7_soonest, 3, (some .int)) := by decide +kernel
theorem cv_RL_75 : ai_cV RL 75 = some (yX8_soonest, 1, cX8_soonest, 3, (some .int)) := by decide +kernel
theorem cv_RL_76 : ai_cV RL 76 = some (yX7_plan, 1, cX7_plan, 2, (some .int)) := by decide +kernel
theorem cv_RL_80 : ai_cV RL 80 = some (yX8_plan, 1, cX8_plan, 2, (some .int)) := by decide +kernel
theorem cl_RL_81 : ai_cstL RL 81 = some 4294967295 := by decide +kernel
theorem cv_RL_83 : ai_cV RL 83 = some (yX7_judge, 2, cX7_judge, 5, (some .int)) := by decide +kernel
theorem cv_RL_87 : ai_cV RL 87 = some (yX8_judge, 2, cX8_judge, 5, (some .int)) := by decide +kernel
theorem cv_RL_88 : ai_cV RL 88 = some (yX7_share, 2, cX7_share, 7, (some .int)) := by decide +kernel
theorem cv_RL_92 : ai_cV RL 92 = some (yX8_share, 2, cX8_share, 6, (some .int)) := by decide +kernel
theorem cv_RL_93 : ai_cV RL 93 = some (yX7_sound, 3, cX7_sound, 4, (some .int)) := by decide +kernel
theorem cv_RL_97 : ai_cV RL 97 = some (yX8_sound, 3, cX8_sound, 4, (some .int)) := by decide +kernel
theorem cv_RL_98 : ai_cV RL 98 = some (yX7_unsound, 0, cX7_unsound, 1, (some .int)) := by decide +kernel
theorem cv_RL_101 : ai_cV RL 101 = some (yX8_unsound, 0, cX8_unsound, 2, (some .int)) := by decide +kernel
theorem cv_RL_102 : ai_cV RL 102 = some (yX7_depths, 1, cX7_depths, 6, (some .int)) := by decide +kernel
theorem cv_RL_105 : ai_cV RL 105 = some (yX8_depths, 1, cX8_depths, 4, (some .int)) := by decide +kernel
theorem cv_RL_106 : ai_cV RL 106 = some (yX7_rests, 3, cX7_rests, 8, (some .int)) := by decide +kernel
theorem cv_RL_109 : ai_cV RL 109 = some (yX8_rests, 3, cX8_rests, 7, (some .int)) := by decide +kernel
theorem cv_RL_110 : ai_cV RL 110 = some (yX7_ebb, 3, cX7_ebb, 7, (some .int)) := by decide +kernel
theorem cv_RL_114 : ai_cV RL 114 = some (yX8_ebb, 3, cX8_ebb, 7, (some .int)) := by decide +kernel
theorem cv_RL_115 : ai_cV RL 115 = some (yX7_seed, 1, cX7_seed, 5, (some .long)) := by decide +kernel
theorem cv_RL_119 : ai_cV RL 119 = some (yX8_seed, 1, cX8_seed, 5, (some .long)) := by decide +kernel
theorem cv_RL_120 : ai_cV RL 120 = some (yX7_years, 1, cX7_years, 4, (some .int)) := by decide +kernel
theorem cv_RL_123 : ai_cV RL 123 = some (yX8_years, 1, cX8_years, 5, (some .int)) := by decide +kernel
theorem cv_RL_124 : ai_cV RL 124 = some (yX7_keep, 1, cX7_keep, 2, (some .int)) := by decide +kernel
theorem cv_RL_127 : ai_cV RL 127 = some (yX8_keep, 1, cX8_keep, 3, (some .int)) := by decide +kernel
theorem cv_RL_128 : ai_cV RL 128 = some (yX7_again, 1, cX7_again, 2, (some .int)) := by decide +kernel
theorem cv_RL_131 : ai_cV RL 131 = some (yX8_again, 1, cX8_again, 3, (some .int)) := by decide +kernel
end
section
theorem dX5_init_0 : decode cX5_init 0 = .ok (.aload_n 0, 1) := by decide +kernel
theorem dX5_init_1 : decode cX5_init 1 = .ok (.invokespecial 3, 3) := by decide +kernel
theorem dX5_init_4 : decode cX5_init 4 = .ok (.aload_n 0, 1) := by decide +kernel
theorem dX5_init_5 : decode cX5_init 5 = .ok (.bipush 48, 2) := by decide +kernel
theorem dX5_init_7 : decode cX5_init 7 = .ok (.newarray .int, 2) := by decide +kernel
theorem dX5_init_9 : decode cX5_init 9 = .ok (.putfield 9, 3) := by decide +kernel
theorem dX5_init_12 : decode cX5_init 12 = .ok (.aload_n 0, 1) := by decide +kernel
theorem dX5_init_13 : decode cX5_init 13 = .ok (.iconst 0, 1) := by decide +kernel
theorem dX5_init_14 : decode cX5_init 14 = .ok (.putfield 15, 3) := by decide +kernel
theorem dX5_init_17 : decode cX5_init 17 = .ok (.return_, 1) := by decide +kernel
theorem dX6_init_0 : decode cX6_init 0 = .ok (.aload_n 0, 1) := by decide +kernel
theorem dX6_init_1 : decode cX6_init 1 = .ok (.invokespecial 3, 3) := by decide +kernel
theorem dX6_init_4 : decode cX6_init 4 = .ok (.aload_n 0, 1) := by decide +kernel
theorem dX6_init_5 : decode cX6_init 5 = .ok (.iconst 4, 1) := by decide +kernel
theorem dX6_init_6 : decode cX6_init 6 = .ok (.newarray .int, 2) := by decide +kernel
theorem dX6_init_8 : decode cX6_init 8 = .ok (.putfield 9, 3) := by decide +kernel
theorem dX6_init_11 : decode cX6_init 11 = .ok (.aload_n 0, 1) := by decide +kernel
theorem dX6_init_12 : decode cX6_init 12 = .ok (.iconst 4, 1) := by decide +kernel
theorem dX6_init_13 : decode cX6_init 13 = .ok (.newarray .int, 2) := by decide +kernel
theorem dX6_init_15 : decode cX6_init 15 = .ok (.putfield 15, 3) := by decide +kernel
theorem dX6_init_18 : decode cX6_init 18 = .ok (.aload_n 0, 1) := by decide +kernel
theorem dX6_init_19 : decode cX6_init 19 = .ok (.iconst 4, 1) := by decide +kernel
theorem dX6_init_20 : decode cX6_init 20 = .ok (.newarray .int, 2) := by decide +kernel
theorem dX6_init_22 : decode cX6_init 22 = .ok (.putfield 18, 3) := by decide +kernel
theorem dX6_init_25 : decode cX6_init 25 = .ok (.aload_n 0, 1) := by decide +kernel
theorem dX6_init_26 : decode cX6_init 26 = .ok (.iconst 5, 1) := by decide +kernel
theorem dX6_init_27 : decode cX6_init 27 = .ok (.newarray .int, 2) := by decide +kernel
theorem dX6_init_29 : decode cX6_init 29 = .ok (.putfield 21, 3) := by decide +kernel
theorem dX6_init_32 : decode cX6_init 32 = .ok (.aload_n 0, 1) := by decide +kernel
theorem dX6_init_33 : decode cX6_init 33 = .ok (.iconst 5, 1) := by decide +kernel
theorem dX6_init_34 : decode cX6_init 34 = .ok (.newarray .int, 2) := by decide +kernel
theorem dX6_init_36 : decode cX6_init 36 = .ok (.putfield 24, 3) := by decide +kernel
theorem dX6_init_39 : decode cX6_init 39 = .ok (.aload_n 0, 1) := by decide +kernel
theorem dX6_init_40 : decode cX6_init 40 = .ok (.iconst 0, 1) := by decide +kernel
theorem dX6_init_41 : decode cX6_init 41 = .ok (.putfield 27, 3) := by decide +kernel
theorem dX6_init_44 : decode cX6_init 44 = .ok (.aload_n 0, 1) := by decide +kernel
theorem dX6_init_45 : decode cX6_init 45 = .ok (.iconst 0, 1) := by decide +kernel
theorem dX6_init_46 : decode cX6_init 46 = .ok (.putfield 31, 3) := by decide +kernel
theorem dX6_init_49 : decode cX6_init 49 = .ok (.aload_n 0, 1) := by decide +kernel
theorem dX6_init_50 : decode cX6_init 50 = .ok (.iconst 0, 1) := by decide +kernel
theorem dX6_init_51 : decode cX6_init 51 = .ok (.putfield 34, 3) := by decide +kernel
theorem dX6_init_54 : decode cX6_init 54 = .ok (.aload_n 0, 1) := by decide +kernel
theorem dX6_init_55 : decode cX6_init 55 = .ok (.iconst 0, 1) := by decide +kernel
theorem dX6_init_56 : decode cX6_init 56 = .ok (.putfield 37, 3) := by decide +kernel
theorem dX6_init_59 : decode cX6_init 59 = .ok (.aload_n 0, 1) := by decide +kernel
theorem dX6_init_60 : decode cX6_init 60 = .ok (.bipush (-9), 2) := by decide +kernel
theorem dX6_init_62 : decode cX6_init 62 = .ok (.putfield 40, 3) := by decide +kernel
theorem dX6_init_65 : decode cX6_init 65 = .ok (.return_, 1) := by decide +kernel
theorem dX2_init_0 : decode cX2_init 0 = .ok (.aload_n 0, 1) := by decide +kernel
theorem dX2_init_1 : decode cX2_init 1 = .ok (.invokespecial 3, 3) := by decide +kernel
theorem dX2_init_4 : decode cX2_init 4 = .ok (.aload_n 0, 1) := by decide +kernel
theorem dX2_init_5 : decode cX2_init 5 = .ok (.iconst 5, 1) := by decide +kernel
theorem dX2_init_6 : decode cX2_init 6 = .ok (.newarray .int, 2) := by decide +kernel
theorem dX2_init_8 : decode cX2_init 8 = .ok (.putfield 9, 3) := by decide +kernel
theorem dX2_init_11 : decode cX2_init 11 = .ok (.aload_n 0, 1) := by decide +kernel
theorem dX2_init_12 : decode cX2_init 12 = .ok (.iconst 5, 1) := by decide +kernel
theorem dX2_init_13 : decode cX2_init 13 = .ok (.newarray .int, 2) := by decide +kernel
theorem dX2_init_15 : decode cX2_init 15 = .ok (.putfield 15, 3) := by decide +kernel
theorem dX2_init_18 : decode cX2_init 18 = .ok (.aload_n 0, 1) := by decide +kernel
theorem dX2_init_19 : decode cX2_init 19 = .ok (.iconst 5, 1) := by decide +kernel
theorem dX2_init_20 : decode cX2_init 20 = .ok (.newarray .int, 2) := by decide +kernel
theorem dX2_init_22 : decode cX2_init 22 = .ok (.putfield 18, 3) := by decide +kernel
theorem dX2_init_25 : decode cX2_init 25 = .ok (.aload_n 0, 1) := by decide +kernel
theorem dX2_init_26 : decode cX2_init 26 = .ok (.iconst 4, 1) := by decide +kernel
theorem dX2_init_27 : decode cX2_init 27 = .ok (.newarray .int, 2) := by decide +kernel
theorem dX2_init_29 : decode cX2_init 29 = .ok (.putfield 21, 3) := by decide +kernel
theorem dX2_init_32 : decode cX2_init 32 = .ok (.aload_n 0, 1) := by decide +kernel
theorem dX2_init_33 : decode cX2_init 33 = .ok (.iconst 4, 1) := by decide +kernel
theorem dX2_init_34 : decode cX2_init 34 = .ok (.newarray .int, 2) := by decide +kernel
theorem dX2_init_36 : decode cX2_init 36 = .ok (.putfield 24, 3) := by decide +kernel
theorem dX2_init_39 : decode cX2_init 39 = .ok (.aload_n 0, 1) := by decide +kernel
theorem dX2_init_40 : decode cX2_init 40 = .ok (.iconst 0, 1) := by decide +kernel
theorem dX2_init_41 : decode cX2_init 41 = .ok (.putfield 27, 3) := by decide +kernel
theorem dX2_init_44 : decode cX2_init 44 = .ok (.aload_n 0, 1) := by decide +kernel
theorem dX2_init_45 : decode cX2_init 45 = .ok (.aload_n 1, 1) := by decide +kernel
theorem dX2_init_46 : decode cX2_init 46 = .ok (.putfield 31, 3) := by decide +kernel
theorem dX2_init_49 : decode cX2_init 49 = .ok (.return_, 1) := by decide +kernel
theorem dX4_init_0 : decode cX4_init 0 = .ok (.aload_n 0, 1) := by decide +kernel
theorem dX4_init_1 : decode cX4_init 1 = .ok (.invokespecial 3, 3) := by decide +kernel
theorem dX4_init_4 : decode cX4_init 4 = .ok (.aload_n 0, 1) := by decide +kernel
theorem dX4_init_5 : decode cX4_init 5 = .ok (.bipush 6, 2) := by decide +kernel
theorem dX4_init_7 : decode cX4_init 7 = .ok (.newarray .int, 2) := by decide +kernel
theorem dX4_init_9 : decode cX4_init 9 = .ok (.putfield 9, 3) := by decide +kernel
theorem dX4_init_12 : decode cX4_init 12 = .ok (.aload_n 0, 1) := by decide +kernel
theorem dX4_init_13 : decode cX4_init 13 = .ok (.bipush 6, 2) := by decide +kernel
theorem dX4_init_15 : decode cX4_init 15 = .ok (.newarray .int, 2) := by decide +kernel
theorem dX4_init_17 : decode cX4_init 17 = .ok (.putfield 15, 3) := by decide +kernel
theorem dX4_init_20 : decode cX4_init 20 = .ok (.aload_n 0, 1) := by decide +kernel
theorem dX4_init_21 : decode cX4_init 21 = .ok (.bipush 6, 2) := by decide +kernel
theorem dX4_init_23 : decode cX4_init 23 = .ok (.newarray .boolean, 2) := by decide +kernel
theorem dX4_init_25 : decode cX4_init 25 = .ok (.putfield 18, 3) := by decide +kernel
theorem dX4_init_28 : decode cX4_init 28 = .ok (.aload_n 0, 1) := by decide +kernel
theorem dX4_init_29 : decode cX4_init 29 = .ok (.iconst 0, 1) := by decide +kernel
theorem dX4_init_30 : decode cX4_init 30 = .ok (.putfield 22, 3) := by decide +kernel
theorem dX4_init_33 : decode cX4_init 33 = .ok (.return_, 1) := by decide +kernel
theorem dX3_init_0 : decode cX3_init 0 = .ok (.aload_n 0, 1) := by decide +kernel
theorem dX3_init_1 : decode cX3_init 1 = .ok (.invokespecial 3, 3) := by decide +kernel
theorem dX3_init_4 : decode cX3_init 4 = .ok (.aload_n 0, 1) := by decide +kernel
theorem dX3_init_5 : decode cX3_init 5 = .ok (.iconst 0, 1) := by decide +kernel
theorem dX3_init_6 : decode cX3_init 6 = .ok (.putfield 9, 3) := by decide +kernel
theorem dX3_init_9 : decode cX3_init 9 = .ok (.aload_n 0, 1) := by decide +kernel
theorem dX3_init_10 : decode cX3_init 10 = .ok (.iconst 0, 1) := by decide +kernel
theorem dX3_init_11 : decode cX3_init 11 = .ok (.putfield 15, 3) := by decide +kernel
theorem dX3_init_14 : decode cX3_init 14 = .ok (.aload_n 0, 1) := by decide +kernel
theorem dX3_init_15 : decode cX3_init 15 = .ok (.iconst 0, 1) := by decide +kernel
theorem dX3_init_16 : decode cX3_init 16 = .ok (.putfield 18, 3) := by decide +kernel
theorem dX3_init_19 : decode cX3_init 19 = .ok (.aload_n 0, 1) := by decide +kernel
theorem dX3_init_20 : decode cX3_init 20 = .ok (.aload_n 1, 1) := by decide +kernel
theorem dX3_init_21 : decode cX3_init 21 = .ok (.putfield 21, 3) := by decide +kernel
theorem dX3_init_24 : decode cX3_init 24 = .ok (.aload_n 0, 1) := by decide +kernel
theorem dX3_init_25 : decode cX3_init 25 = .ok (.aload_n 2, 1) := by decide +kernel
theorem dX3_init_26 : decode cX3_init 26 = .ok (.putfield 25, 3) := by decide +kernel
theorem dX3_init_29 : decode cX3_init 29 = .ok (.return_, 1) := by decide +kernel
theorem dX1_init_0 : decode cX1_init 0 = .ok (.aload_n 0, 1) := by decide +kernel
theorem dX1_init_1 : decode cX1_init 1 = .ok (.invokespecial 3, 3) := by decide +kernel
theorem dX1_init_4 : decode cX1_init 4 = .ok (.aload_n 0, 1) := by decide +kernel
theorem dX1_init_5 : decode cX1_init 5 = .ok (.aload_n 1, 1) := by decide +kernel
theorem dX1_init_6 : decode cX1_init 6 = .ok (.putfield 9, 3) := by decide +kernel
theorem dX1_init_9 : decode cX1_init 9 = .ok (.aload_n 0, 1) := by decide +kernel
theorem dX1_init_10 : decode cX1_init 10 = .ok (.aload_n 2, 1) := by decide +kernel
theorem dX1_init_11 : decode cX1_init 11 = .ok (.putfield 15, 3) := by decide +kernel
theorem dX1_init_14 : decode cX1_init 14 = .ok (.return_, 1) := by decide +kernel
theorem dX0_init_0 : decode cX0_init 0 = .ok (.aload_n 0, 1) := by decide +kernel
theorem dX0_init_1 : decode cX0_init 1 = .ok (.invokespecial 3, 3) := by decide +kernel
theorem dX0_init_4 : decode cX0_init 4 = .ok (.aload_n 0, 1) := by decide +kernel
theorem dX0_init_5 : decode cX0_init 5 = .ok (.bipush 14, 2) := by decide +kernel
theorem dX0_init_7 : decode cX0_init 7 = .ok (.anewarray 9, 3) := by decide +kernel
theorem dX0_init_10 : decode cX0_init 10 = .ok (.putfield 11, 3) := by decide +kernel
theorem dX0_init_13 : decode cX0_init 13 = .ok (.aload_n 0, 1) := by decide +kernel
theorem dX0_init_14 : decode cX0_init 14 = .ok (.iconst 0, 1) := by decide +kernel
theorem dX0_init_15 : decode cX0_init 15 = .ok (.putfield 17, 3) := by decide +kernel
theorem dX0_init_18 : decode cX0_init 18 = .ok (.aload_n 0, 1) := by decide +kernel
theorem dX0_init_19 : decode cX0_init 19 = .ok (.iconst 0, 1) := by decide +kernel
theorem dX0_init_20 : decode cX0_init 20 = .ok (.putfield 21, 3) := by decide +kernel
theorem dX0_init_23 : decode cX0_init 23 = .ok (.iconst 0, 1) := by decide +kernel
theorem dX0_init_24 : decode cX0_init 24 = .ok (.istore_n 2, 1) := by decide +kernel
theorem dX0_init_25 : decode cX0_init 25 = .ok (.iload_n 2, 1) := by decide +kernel
theorem dX0_init_26 : decode cX0_init 26 = .ok (.bipush 14, 2) := by decide +kernel
theorem dX0_init_28 : decode cX0_init 28 = .ok (.if_icmp .ge 23, 3) := by decide +kernel
theorem dX0_init_31 : decode cX0_init 31 = .ok (.aload_n 0, 1) := by decide +kernel
theorem dX0_init_32 : decode cX0_init 32 = .ok (.getfield 11, 3) := by decide +kernel
theorem dX0_init_35 : decode cX0_init 35 = .ok (.iload_n 2, 1) := by decide +kernel
theorem dX0_init_36 : decode cX0_init 36 = .ok (.new 9, 3) := by decide +kernel
theorem dX0_init_39 : decode cX0_init 39 = .ok (.dup, 1) := by decide +kernel
theorem dX0_init_40 : decode cX0_init 40 = .ok (.aload_n 1, 1) := by decide +kernel
theorem dX0_init_41 : decode cX0_init 41 = .ok (.invokespecial 24, 3) := by decide +kernel
theorem dX0_init_44 : decode cX0_init 44 = .ok (.aastore, 1) := by decide +kernel
theorem dX0_init_45 : decode cX0_init 45 = .ok (.iinc 2 1, 3) := by decide +kernel
theorem dX0_init_48 : decode cX0_init 48 = .ok (.goto (-23), 3) := by decide +kernel
theorem dX0_init_51 : decode cX0_init 51 = .ok (.return_, 1) := by decide +kernel
theorem dX7_init_0 : decode cX7_init 0 = .ok (.aload_n 0, 1) := by decide +kernel
theorem dX7_init_1 : decode cX7_init 1 = .ok (.invokespecial 1, 3) := by decide +kernel
theorem dX7_init_4 : decode cX7_init 4 = .ok (.aload_n 0, 1) := by decide +kernel
theorem dX7_init_5 : decode cX7_init 5 = .ok (.new 7, 3) := by decide +kernel
theorem dX7_init_8 : decode cX7_init 8 = .ok (.dup, 1) := by decide +kernel
theorem dX7_init_9 : decode cX7_init 9 = .ok (.invokespecial 9, 3) := by decide +kernel
theorem dX7_init_12 : decode cX7_init 12 = .ok (.putfield 10, 3) := by decide +kernel
theorem dX7_init_15 : decode cX7_init 15 = .ok (.aload_n 0, 1) := by decide +kernel
theorem dX7_init_16 : decode cX7_init 16 = .ok (.new 16, 3) := by decide +kernel
theorem dX7_init_19 : decode cX7_init 19 = .ok (.dup, 1) := by decide +kernel
theorem dX7_init_20 : decode cX7_init 20 = .ok (.invokespecial 18, 3) := by decide +kernel
theorem dX7_init_23 : decode cX7_init 23 = .ok (.putfield 19, 3) := by decide +kernel
theorem dX7_init_26 : decode cX7_init 26 = .ok (.aload_n 0, 1) := by decide +kernel
theorem dX7_init_27 : decode cX7_init 27 = .ok (.new 16, 3) := by decide +kernel
theorem dX7_init_30 : decode cX7_init 30 = .ok (.dup, 1) := by decide +kernel
theorem dX7_init_31 : decode cX7_init 31 = .ok (.invokespecial 18, 3) := by decide +kernel
theorem dX7_init_34 : decode cX7_init 34 = .ok (.putfield 23, 3) := by decide +kernel
theorem dX7_init_37 : decode cX7_init 37 = .ok (.aload_n 0, 1) := by decide +kernel
theorem dX7_init_38 : decode cX7_init 38 = .ok (.new 26, 3) := by decide +kernel
theorem dX7_init_41 : decode cX7_init 41 = .ok (.dup, 1) := by decide +kernel
theorem dX7_init_42 : decode cX7_init 42 = .ok (.aload_n 0, 1) := by decide +kernel
theorem dX7_init_43 : decode cX7_init 43 = .ok (.getfield 19, 3) := by decide +kernel
theorem dX7_init_46 : decode cX7_init 46 = .ok (.invokespecial 28, 3) := by decide +kernel
theorem dX7_init_49 : decode cX7_init 49 = .ok (.putfield 31, 3) := by decide +kernel
theorem dX7_init_52 : decode cX7_init 52 = .ok (.aload_n 0, 1) := by decide +kernel
theorem dX7_init_53 : decode cX7_init 53 = .ok (.new 26, 3) := by decide +kernel
theorem dX7_init_56 : decode cX7_init 56 = .ok (.dup, 1) := by decide +kernel
theorem dX7_init_57 : decode cX7_init 57 = .ok (.aload_n 0, 1) := by decide +kernel
theorem dX7_init_58 : decode cX7_init 58 = .ok (.getfield 19, 3) := by decide +kernel
theorem dX7_init_61 : decode cX7_init 61 = .ok (.invokespecial 28, 3) := by decide +kernel
theorem dX7_init_64 : decode cX7_init 64 = .ok (.putfield 35, 3) := by decide +kernel
theorem dX7_init_67 : decode cX7_init 67 = .ok (.aload_n 0, 1) := by decide +kernel
theorem dX7_init_68 : decode cX7_init 68 = .ok (.new 38, 3) := by decide +kernel
theorem dX7_init_71 : decode cX7_init 71 = .ok (.dup, 1) := by decide +kernel
theorem dX7_init_72 : decode cX7_init 72 = .ok (.aload_n 0, 1) := by decide +kernel
theorem dX7_init_73 : decode cX7_init 73 = .ok (.getfield 19, 3) := by decide +kernel
theorem dX7_init_76 : decode cX7_init 76 = .ok (.invokespecial 40, 3) := by decide +kernel
theorem dX7_init_79 : decode cX7_init 79 = .ok (.putfield 41, 3) := by decide +kernel
theorem dX7_init_82 : decode cX7_init 82 = .ok (.aload_n 0, 1) := by decide +kernel
theorem dX7_init_83 : decode cX7_init 83 = .ok (.new 45, 3) := by decide +kernel
theorem dX7_init_86 : decode cX7_init 86 = .ok (.dup, 1) := by decide +kernel
theorem dX7_init_87 : decode cX7_init 87 = .ok (.invokespecial 47, 3) := by decide +kernel
theorem dX7_init_90 : decode cX7_init 90 = .ok (.putfield 48, 3) := by decide +kernel
theorem dX7_init_93 : decode cX7_init 93 = .ok (.aload_n 0, 1) := by decide +kernel
theorem dX7_init_94 : decode cX7_init 94 = .ok (.new 52, 3) := by decide +kernel
theorem dX7_init_97 : decode cX7_init 97 = .ok (.dup, 1) := by decide +kernel
theorem dX7_init_98 : decode cX7_init 98 = .ok (.aload_n 0, 1) := by decide +kernel
theorem dX7_init_99 : decode cX7_init 99 = .ok (.getfield 19, 3) := by decide +kernel
theorem dX7_init_102 : decode cX7_init 102 = .ok (.aload_n 0, 1) := by decide +kernel
theorem dX7_init_103 : decode cX7_init 103 = .ok (.getfield 35, 3) := by decide +kernel
theorem dX7_init_106 : decode cX7_init 106 = .ok (.invokespecial 54, 3) := by decide +kernel
theorem dX7_init_109 : decode cX7_init 109 = .ok (.putfield 57, 3) := by decide +kernel
theorem dX7_init_112 : decode cX7_init 112 = .ok (.aload_n 0, 1) := by decide +kernel
theorem dX7_init_113 : decode cX7_init 113 = .ok (.new 61, 3) := by decide +kernel
theorem dX7_init_116 : decode cX7_init 116 = .ok (.dup, 1) := by decide +kernel
theorem dX7_init_117 : decode cX7_init 117 = .ok (.aload_n 0, 1) := by decide +kernel
theorem dX7_init_118 : decode cX7_init 118 = .ok (.getfield 19, 3) := by decide +kernel
theorem dX7_init_121 : decode cX7_init 121 = .ok (.aload_n 0, 1) := by decide +kernel
theorem dX7_init_122 : decode cX7_init 122 = .ok (.getfield 35, 3) := by decide +kernel
theorem dX7_init_125 : decode cX7_init 125 = .ok (.invokespecial 63, 3) := by decide +kernel
theorem dX7_init_128 : decode cX7_init 128 = .ok (.putfield 64, 3) := by decide +kernel
theorem dX7_init_131 : decode cX7_init 131 = .ok (.aload_n 0, 1) := by decide +kernel
theorem dX7_init_132 : decode cX7_init 132 = .ok (.iconst 2, 1) := by decide +kernel
theorem dX7_init_133 : decode cX7_init 133 = .ok (.anewarray 26, 3) := by decide +kernel
theorem dX7_init_136 : decode cX7_init 136 = .ok (.putfield 68, 3) := by decide +kernel
theorem dX7_init_139 : decode cX7_init 139 = .ok (.aload_n 0, 1) := by decide +kernel
theorem dX7_init_140 : decode cX7_init 140 = .ok (.iconst 2, 1) := by decide +kernel
theorem dX7_init_141 : decode cX7_init 141 = .ok (.newarray .boolean, 2) := by decide +kernel
theorem dX7_init_143 : decode cX7_init 143 = .ok (.putfield 72, 3) := by decide +kernel
theorem dX7_init_146 : decode cX7_init 146 = .ok (.aload_n 0, 1) := by decide +kernel
theorem dX7_init_147 : decode cX7_init 147 = .ok (.lconst 0, 1) := by decide +kernel
theorem dX7_init_148 : decode cX7_init 148 = .ok (.putfield 76, 3) := by decide +kernel
theorem dX7_init_151 : decode cX7_init 151 = .ok (.iconst 0, 1) := by decide +kernel
theorem dX7_init_152 : decode cX7_init 152 = .ok (.istore_n 1, 1) := by decide +kernel
theorem dX7_init_153 : decode cX7_init 153 = .ok (.iload_n 1, 1) := by decide +kernel
theorem dX7_init_154 : decode cX7_init 154 = .ok (.iconst 2, 1) := by decide +kernel
theorem dX7_init_155 : decode cX7_init 155 = .ok (.if_icmp .ge 26, 3) := by decide +kernel
theorem dX7_init_158 : decode cX7_init 158 = .ok (.aload_n 0, 1) := by decide +kernel
theorem dX7_init_159 : decode cX7_init 159 = .ok (.getfield 68, 3) := by decide +kernel
theorem dX7_init_162 : decode cX7_init 162 = .ok (.iload_n 1, 1) := by decide +kernel
theorem dX7_init_163 : decode cX7_init 163 = .ok (.new 26, 3) := by decide +kernel
theorem dX7_init_166 : decode cX7_init 166 = .ok (.dup, 1) := by decide +kernel
theorem dX7_init_167 : decode cX7_init 167 = .ok (.aload_n 0, 1) := by decide +kernel
theorem dX7_init_168 : decode cX7_init 168 = .ok (.getfield 19, 3) := by decide +kernel
theorem dX7_init_171 : decode cX7_init 171 = .ok (.invokespecial 28, 3) := by decide +kernel
theorem dX7_init_174 : decode cX7_init 174 = .ok (.aastore, 1) := by decide +kernel
theorem dX7_init_175 : decode cX7_init 175 = .ok (.iinc 1 1, 3) := by decide +kernel
theorem dX7_init_178 : decode cX7_init 178 = .ok (.goto (-25), 3) := by decide +kernel
theorem dX7_init_181 : decode cX7_init 181 = .ok (.return_, 1) := by decide +kernel
theorem dX8_init_0 : decode cX8_init 0 = .ok (.aload_n 0, 1) := by decide +kernel
theorem dX8_init_1 : decode cX8_init 1 = .ok (.invokespecial 1, 3) := by decide +kernel
theorem dX8_init_4 : decode cX8_init 4 = .ok (.aload_n 0, 1) := by decide +kernel
theorem dX8_init_5 : decode cX8_init 5 = .ok (.bipush 48, 2) := by decide +kernel
theorem dX8_init_7 : decode cX8_init 7 = .ok (.newarray .int, 2) := by decide +kernel
theorem dX8_init_9 : decode cX8_init 9 = .ok (.putfield 7, 3) := by decide +kernel
theorem dX8_init_12 : decode cX8_init 12 = .ok (.aload_n 0, 1) := by decide +kernel
theorem dX8_init_13 : decode cX8_init 13 = .ok (.iconst 4, 1) := by decide +kernel
theorem dX8_init_14 : decode cX8_init 14 = .ok (.newarray .int, 2) := by decide +kernel
theorem dX8_init_16 : decode cX8_init 16 = .ok (.putfield 13, 3) := by decide +kernel
theorem dX8_init_19 : decode cX8_init 19 = .ok (.aload_n 0, 1) := by decide +kernel
theorem dX8_init_20 : decode cX8_init 20 = .ok (.iconst 4, 1) := by decide +kernel
theorem dX8_init_21 : decode cX8_init 21 = .ok (.newarray .int, 2) := by decide +kernel
theorem dX8_init_23 : decode cX8_init 23 = .ok (.putfield 16, 3) := by decide +kernel
theorem dX8_init_26 : decode cX8_init 26 = .ok (.aload_n 0, 1) := by decide +kernel
theorem dX8_init_27 : decode cX8_init 27 = .ok (.iconst 5, 1) := by decide +kernel
theorem dX8_init_28 : decode cX8_init 28 = .ok (.newarray .int, 2) := by decide +kernel
theorem dX8_init_30 : decode cX8_init 30 = .ok (.putfield 19, 3) := by decide +kernel
theorem dX8_init_33 : decode cX8_init 33 = .ok (.aload_n 0, 1) := by decide +kernel
theorem dX8_init_34 : decode cX8_init 34 = .ok (.iconst 4, 1) := by decide +kernel
theorem dX8_init_35 : decode cX8_init 35 = .ok (.newarray .int, 2) := by decide +kernel
theorem dX8_init_37 : decode cX8_init 37 = .ok (.putfield 22, 3) := by decide +kernel
theorem dX8_init_40 : decode cX8_init 40 = .ok (.aload_n 0, 1) := by decide +kernel
theorem dX8_init_41 : decode cX8_init 41 = .ok (.bipush 8, 2) := by decide +kernel
theorem dX8_init_43 : decode cX8_init 43 = .ok (.newarray .int, 2) := by decide +kernel
theorem dX8_init_45 : decode cX8_init 45 = .ok (.putfield 25, 3) := by decide +kernel
theorem dX8_init_48 : decode cX8_init 48 = .ok (.aload_n 0, 1) := by decide +kernel
theorem dX8_init_49 : decode cX8_init 49 = .ok (.bipush 10, 2) := by decide +kernel
theorem dX8_init_51 : decode cX8_init 51 = .ok (.newarray .int, 2) := by decide +kernel
theorem dX8_init_53 : decode cX8_init 53 = .ok (.putfield 28, 3) := by decide +kernel
theorem dX8_init_56 : decode cX8_init 56 = .ok (.aload_n 0, 1) := by decide +kernel
theorem dX8_init_57 : decode cX8_init 57 = .ok (.bipush 24, 2) := by decide +kernel
theorem dX8_init_59 : decode cX8_init 59 = .ok (.newarray .int, 2) := by decide +kernel
theorem dX8_init_61 : decode cX8_init 61 = .ok (.putfield 31, 3) := by decide +kernel
theorem dX8_init_64 : decode cX8_init 64 = .ok (.aload_n 0, 1) := by decide +kernel
theorem dX8_init_65 : decode cX8_init 65 = .ok (.bipush 24, 2) := by decide +kernel
theorem dX8_init_67 : decode cX8_init 67 = .ok (.newarray .int, 2) := by decide +kernel
theorem dX8_init_69 : decode cX8_init 69 = .ok (.putfield 34, 3) := by decide +kernel
theorem dX8_init_72 : decode cX8_init 72 = .ok (.aload_n 0, 1) := by decide +kernel
theorem dX8_init_73 : decode cX8_init 73 = .ok (.sipush 336, 3) := by decide +kernel
theorem dX8_init_76 : decode cX8_init 76 = .ok (.newarray .int, 2) := by decide +kernel
theorem dX8_init_78 : decode cX8_init 78 = .ok (.putfield 37, 3) := by decide +kernel
theorem dX8_init_81 : decode cX8_init 81 = .ok (.aload_n 0, 1) := by decide +kernel
theorem dX8_init_82 : decode cX8_init 82 = .ok (.bipush 48, 2) := by decide +kernel
theorem dX8_init_84 : decode cX8_init 84 = .ok (.newarray .int, 2) := by decide +kernel
theorem dX8_init_86 : decode cX8_init 86 = .ok (.putfield 40, 3) := by decide +kernel
theorem dX8_init_89 : decode cX8_init 89 = .ok (.aload_n 0, 1) := by decide +kernel
theorem dX8_init_90 : decode cX8_init 90 = .ok (.iconst 2, 1) := by decide +kernel
theorem dX8_init_91 : decode cX8_init 91 = .ok (.newarray .boolean, 2) := by decide +kernel
theorem dX8_init_93 : decode cX8_init 93 = .ok (.putfield 43, 3) := by decide +kernel
theorem dX8_init_96 : decode cX8_init 96 = .ok (.aload_n 0, 1) := by decide +kernel
theorem dX8_init_97 : decode cX8_init 97 = .ok (.bipush 6, 2) := by decide +kernel
theorem dX8_init_99 : decode cX8_init 99 = .ok (.newarray .int, 2) := by decide +kernel
theorem dX8_init_101 : decode cX8_init 101 = .ok (.putfield 47, 3) := by decide +kernel
theorem dX8_init_104 : decode cX8_init 104 = .ok (.aload_n 0, 1) := by decide +kernel
theorem dX8_init_105 : decode cX8_init 105 = .ok (.bipush 6, 2) := by decide +kernel
theorem dX8_init_107 : decode cX8_init 107 = .ok (.newarray .int, 2) := by decide +kernel
theorem dX8_init_109 : decode cX8_init 109 = .ok (.putfield 50, 3) := by decide +kernel
theorem dX8_init_112 : decode cX8_init 112 = .ok (.aload_n 0, 1) := by decide +kernel
theorem dX8_init_113 : decode cX8_init 113 = .ok (.bipush 6, 2) := by decide +kernel
theorem dX8_init_115 : decode cX8_init 115 = .ok (.newarray .int, 2) := by decide +kernel
theorem dX8_init_117 : decode cX8_init 117 = .ok (.putfield 53, 3) := by decide +kernel
theorem dX8_init_120 : decode cX8_init 120 = .ok (.aload_n 0, 1) := by decide +kernel
theorem dX8_init_121 : decode cX8_init 121 = .ok (.bipush 50, 2) := by decide +kernel
theorem dX8_init_123 : decode cX8_init 123 = .ok (.newarray .int, 2) := by decide +kernel
theorem dX8_init_125 : decode cX8_init 125 = .ok (.putfield 56, 3) := by decide +kernel
theorem dX8_init_128 : decode cX8_init 128 = .ok (.aload_n 0, 1) := by decide +kernel
theorem dX8_init_129 : decode cX8_init 129 = .ok (.bipush 16, 2) := by decide +kernel
theorem dX8_init_131 : decode cX8_init 131 = .ok (.newarray .int, 2) := by decide +kernel
theorem dX8_init_133 : decode cX8_init 133 = .ok (.putfield 59, 3) := by decide +kernel
theorem dX8_init_136 : decode cX8_init 136 = .ok (.return_, 1) := by decide +kernel
end
section
theorem dX2_begin_0 : decode cX2_begin 0 = .ok (.iconst 0, 1) := by decide +kernel
theorem dX2_begin_1 : decode cX2_begin 1 = .ok (.istore_n 1, 1) := by decide +kernel
theorem dX2_begin_2 : decode cX2_begin 2 = .ok (.iload_n 1, 1) := by decide +kernel
theorem dX2_begin_3 : decode cX2_begin 3 = .ok (.iconst 5, 1) := by decide +kernel
theorem dX2_begin_4 : decode cX2_begin 4 = .ok (.if_icmp .ge 39, 3) := by decide +kernel
theorem dX2_begin_7 : decode cX2_begin 7 = .ok (.aload_n 0, 1) := by decide +kernel
theorem dX2_begin_8 : decode cX2_begin 8 = .ok (.getfield 9, 3) := by decide +kernel
theorem dX2_begin_11 : decode cX2_begin 11 = .ok (.iload_n 1, 1) := by decide +kernel
theorem dX2_begin_12 : decode cX2_begin 12 = .ok (.bipush 8, 2) := by decide +kernel
theorem dX2_begin_14 : decode cX2_begin 14 = .ok (.iastore, 1) := by decide +kernel
theorem dX2_begin_15 : decode cX2_begin 15 = .ok (.aload_n 0, 1) := by decide +kernel
theorem dX2_begin_16 : decode cX2_begin 16 = .ok (.getfield 15, 3) := by decide +kernel
theorem dX2_begin_19 : decode cX2_begin 19 = .ok (.iload_n 1, 1) := by decide +kernel
theorem dX2_begin_20 : decode cX2_begin 20 = .ok (.iconst 0, 1) := by decide +kernel
theorem dX2_begin_21 : decode cX2_begin 21 = .ok (.iastore, 1) := by decide +kernel
theorem dX2_begin_22 : decode cX2_begin 22 = .ok (.aload_n 0, 1) := by decide +kernel
theorem dX2_begin_23 : decode cX2_begin 23 = .ok (.getfield 18, 3) := by decide +kernel
theorem dX2_begin_26 : decode cX2_begin 26 = .ok (.iload_n 1, 1) := by decide +kernel
theorem dX2_begin_27 : decode cX2_begin 27 = .ok (.aload_n 0, 1) := by decide +kernel
theorem dX2_begin_28 : decode cX2_begin 28 = .ok (.getfield 31, 3) := by decide +kernel
theorem dX2_begin_31 : decode cX2_begin 31 = .ok (.getfield 35, 3) := by decide +kernel
theorem dX2_begin_34 : decode cX2_begin 34 = .ok (.iload_n 1, 1) := by decide +kernel
theorem dX2_begin_35 : decode cX2_begin 35 = .ok (.iaload, 1) := by decide +kernel
theorem dX2_begin_36 : decode cX2_begin 36 = .ok (.iastore, 1) := by decide +kernel
theorem dX2_begin_37 : decode cX2_begin 37 = .ok (.iinc 1 1, 3) := by decide +kernel
theorem dX2_begin_40 : decode cX2_begin 40 = .ok (.goto (-38), 3) := by decide +kernel
theorem dX2_begin_43 : decode cX2_begin 43 = .ok (.iconst 0, 1) := by decide +kernel
theorem dX2_begin_44 : decode cX2_begin 44 = .ok (.istore_n 1, 1) := by decide +kernel
theorem dX2_begin_45 : decode cX2_begin 45 = .ok (.iload_n 1, 1) := by decide +kernel
theorem dX2_begin_46 : decode cX2_begin 46 = .ok (.iconst 4, 1) := by decide +kernel
theorem dX2_begin_47 : decode cX2_begin 47 = .ok (.if_icmp .ge 31, 3) := by decide +kernel
theorem dX2_begin_50 : decode cX2_begin 50 = .ok (.aload_n 0, 1) := by decide +kernel
theorem dX2_begin_51 : decode cX2_begin 51 = .ok (.getfield 21, 3) := by decide +kernel
theorem dX2_begin_54 : decode cX2_begin 54 = .ok (.iload_n 1, 1) := by decide +kernel
theorem dX2_begin_55 : decode cX2_begin 55 = .ok (.aload_n 0, 1) := by decide +kernel
theorem dX2_begin_56 : decode cX2_begin 56 = .ok (.getfield 31, 3) := by decide +kernel
theorem dX2_begin_59 : decode cX2_begin 59 = .ok (.getfield 38, 3) := by decide +kernel
theorem dX2_begin_62 : decode cX2_begin 62 = .ok (.iload_n 1, 1) := by decide +kernel
theorem dX2_begin_63 : decode cX2_begin 63 = .ok (.iaload, 1) := by decide +kernel
theorem dX2_begin_64 : decode cX2_begin 64 = .ok (.iastore, 1) := by decide +kernel
theorem dX2_begin_65 : decode cX2_begin 65 = .ok (.aload_n 0, 1) := by decide +kernel
theorem dX2_begin_66 : decode cX2_begin 66 = .ok (.getfield 24, 3) := by decide +kernel
theorem dX2_begin_69 : decode cX2_begin 69 = .ok (.iload_n 1, 1) := by decide +kernel
theorem dX2_begin_70 : decode cX2_begin 70 = .ok (.iconst 0, 1) := by decide +kernel
theorem dX2_begin_71 : decode cX2_begin 71 = .ok (.iastore, 1) := by decide +kernel
theorem dX2_begin_72 : decode cX2_begin 72 = .ok (.iinc 1 1, 3) := by decide +kernel
theorem dX2_begin_75 : decode cX2_begin 75 = .ok (.goto (-30), 3) := by decide +kernel
theorem dX2_begin_78 : decode cX2_begin 78 = .ok (.aload_n 0, 1) := by decide +kernel
theorem dX2_begin_79 : decode cX2_begin 79 = .ok (.iconst 0, 1) := by decide +kernel
theorem dX2_begin_80 : decode cX2_begin 80 = .ok (.putfield 27, 3) := by decide +kernel
theorem dX2_begin_83 : decode cX2_begin 83 = .ok (.return_, 1) := by decide +kernel
theorem dX2_becomes_0 : decode cX2_becomes 0 = .ok (.aload_n 1, 1) := by decide +kernel
theorem dX2_becomes_1 : decode cX2_becomes 1 = .ok (.getfield 9, 3) := by decide +kernel
theorem dX2_becomes_4 : decode cX2_becomes 4 = .ok (.iconst 0, 1) := by decide +kernel
theorem dX2_becomes_5 : decode cX2_becomes 5 = .ok (.aload_n 0, 1) := by decide +kernel
theorem dX2_becomes_6 : decode cX2_becomes 6 = .ok (.getfield 9, 3) := by decide +kernel
theorem dX2_becomes_9 : decode cX2_becomes 9 = .ok (.iconst 0, 1) := by decide +kernel
theorem dX2_becomes_10 : decode cX2_becomes 10 = .ok (.iconst 5, 1) := by decide +kernel
theorem dX2_becomes_11 : decode cX2_becomes 11 = .ok (.invokestatic 39, 3) := by decide +kernel
theorem dX2_becomes_14 : decode cX2_becomes 14 = .ok (.aload_n 1, 1) := by decide +kernel
theorem dX2_becomes_15 : decode cX2_becomes 15 = .ok (.getfield 15, 3) := by decide +kernel
theorem dX2_becomes_18 : decode cX2_becomes 18 = .ok (.iconst 0, 1) := by decide +kernel
theorem dX2_becomes_19 : decode cX2_becomes 19 = .ok (.aload_n 0, 1) := by decide +kernel
theorem dX2_becomes_20 : decode cX2_becomes 20 = .ok (.getfield 15, 3) := by decide +kernel
theorem dX2_becomes_23 : decode cX2_becomes 23 = .ok (.iconst 0, 1) := by decide +kernel
theorem dX2_becomes_24 : decode cX2_becomes 24 = .ok (.iconst 5, 1) := by decide +kernel
theorem dX2_becomes_25 : decode cX2_becomes 25 = .ok (.invokestatic 39, 3) := by decide +kernel
theorem dX2_becomes_28 : decode cX2_becomes 28 = .ok (.aload_n 1, 1) := by decide +kernel
theorem dX2_becomes_29 : decode cX2_becomes 29 = .ok (.getfield 18, 3) := by decide +kernel
theorem dX2_becomes_32 : decode cX2_becomes 32 = .ok (.iconst 0, 1) := by decide +kernel
theorem dX2_becomes_33 : decode cX2_becomes 33 = .ok (.aload_n 0, 1) := by decide +kernel
theorem dX2_becomes_34 : decode cX2_becomes 34 = .ok (.getfield 18, 3) := by decide +kernel
theorem dX2_becomes_37 : decode cX2_becomes 37 = .ok (.iconst 0, 1) := by decide +kernel
theorem dX2_becomes_38 : decode cX2_becomes 38 = .ok (.iconst 5, 1) := by decide +kernel
theorem dX2_becomes_39 : decode cX2_becomes 39 = .ok (.invokestatic 39, 3) := by decide +kernel
theorem dX2_becomes_42 : decode cX2_becomes 42 = .ok (.aload_n 1, 1) := by decide +kernel
theorem dX2_becomes_43 : decode cX2_becomes 43 = .ok (.getfield 21, 3) := by decide +kernel
theorem dX2_becomes_46 : decode cX2_becomes 46 = .ok (.iconst 0, 1) := by decide +kernel
theorem dX2_becomes_47 : decode cX2_becomes 47 = .ok (.aload_n 0, 1) := by decide +kernel
theorem dX2_becomes_48 : decode cX2_becomes 48 = .ok (.getfield 21, 3) := by decide +kernel
theorem dX2_becomes_51 : decode cX2_becomes 51 = .ok (.iconst 0, 1) := by decide +kernel
theorem dX2_becomes_52 : decode cX2_becomes 52 = .ok (.iconst 4, 1) := by decide +kernel
theorem dX2_becomes_53 : decode cX2_becomes 53 = .ok (.invokestatic 39, 3) := by decide +kernel
theorem dX2_becomes_56 : decode cX2_becomes 56 = .ok (.aload_n 1, 1) := by decide +kernel
theorem dX2_becomes_57 : decode cX2_becomes 57 = .ok (.getfield 24, 3) := by decide +kernel
theorem dX2_becomes_60 : decode cX2_becomes 60 = .ok (.iconst 0, 1) := by decide +kernel
theorem dX2_becomes_61 : decode cX2_becomes 61 = .ok (.aload_n 0, 1) := by decide +kernel
theorem dX2_becomes_62 : decode cX2_becomes 62 = .ok (.getfield 24, 3) := by decide +kernel
theorem dX2_becomes_65 : decode cX2_becomes 65 = .ok (.iconst 0, 1) := by decide +kernel
theorem dX2_becomes_66 : decode cX2_becomes 66 = .ok (.iconst 4, 1) := by decide +kernel
theorem dX2_becomes_67 : decode cX2_becomes 67 = .ok (.invokestatic 39, 3) := by decide +kernel
theorem dX2_becomes_70 : decode cX2_becomes 70 = .ok (.aload_n 0, 1) := by decide +kernel
theorem dX2_becomes_71 : decode cX2_becomes 71 = .ok (.aload_n 1, 1) := by decide +kernel
theorem dX2_becomes_72 : decode cX2_becomes 72 = .ok (.getfield 27, 3) := by decide +kernel
theorem dX2_becomes_75 : decode cX2_becomes 75 = .ok (.putfield 27, 3) := by decide +kernel
theorem dX2_becomes_78 : decode cX2_becomes 78 = .ok (.return_, 1) := by decide +kernel
theorem dX2_tide_0 : decode cX2_tide 0 = .ok (.aload_n 0, 1) := by decide +kernel
theorem dX2_tide_1 : decode cX2_tide 1 = .ok (.getfield 31, 3) := by decide +kernel
theorem dX2_tide_4 : decode cX2_tide 4 = .ok (.aload_n 0, 1) := by decide +kernel
theorem dX2_tide_5 : decode cX2_tide 5 = .ok (.getfield 27, 3) := by decide +kernel
theorem dX2_tide_8 : decode cX2_tide 8 = .ok (.invokevirtual 45, 3) := by decide +kernel
theorem dX2_tide_11 : decode cX2_tide 11 = .ok (.ireturn, 1) := by decide +kernel
theorem dX2_water_0 : decode cX2_water 0 = .ok (.aload_n 0, 1) := by decide +kernel
theorem dX2_water_1 : decode cX2_water 1 = .ok (.getfield 21, 3) := by decide +kernel
theorem dX2_water_4 : decode cX2_water 4 = .ok (.iload_n 1, 1) := by decide +kernel
theorem dX2_water_5 : decode cX2_water 5 = .ok (.iaload, 1) := by decide +kernel
theorem dX2_water_6 : decode cX2_water 6 = .ok (.aload_n 0, 1) := by decide +kernel
theorem dX2_water_7 : decode cX2_water 7 = .ok (.invokevirtual 49, 3) := by decide +kernel
theorem dX2_water_10 : decode cX2_water 10 = .ok (.iadd, 1) := by decide +kernel
theorem dX2_water_11 : decode cX2_water 11 = .ok (.ireturn, 1) := by decide +kernel
theorem dX2_liesOff_0 : decode cX2_liesOff 0 = .ok (.aload_n 0, 1) := by decide +kernel
theorem dX2_liesOff_1 : decode cX2_liesOff 1 = .ok (.getfield 9, 3) := by decide +kernel
theorem dX2_liesOff_4 : decode cX2_liesOff 4 = .ok (.iload_n 1, 1) := by decide +kernel
theorem dX2_liesOff_5 : decode cX2_liesOff 5 = .ok (.iaload, 1) := by decide +kernel
theorem dX2_liesOff_6 : decode cX2_liesOff 6 = .ok (.bipush 8, 2) := by decide +kernel
theorem dX2_liesOff_8 : decode cX2_liesOff 8 = .ok (.if_icmp .ne 7, 3) := by decide +kernel
theorem dX2_liesOff_11 : decode cX2_liesOff 11 = .ok (.iconst 1, 1) := by decide +kernel
theorem dX2_liesOff_12 : decode cX2_liesOff 12 = .ok (.goto 4, 3) := by decide +kernel
theorem dX2_liesOff_15 : decode cX2_liesOff 15 = .ok (.iconst 0, 1) := by decide +kernel
theorem dX2_liesOff_16 : decode cX2_liesOff 16 = .ok (.ireturn, 1) := by decide +kernel
theorem dX2_isBerthed_0 : decode cX2_isBerthed 0 = .ok (.aload_n 0, 1) := by decide +kernel
theorem dX2_isBerthed_1 : decode cX2_isBerthed 1 = .ok (.getfield 9, 3) := by decide +kernel
theorem dX2_isBerthed_4 : decode cX2_isBerthed 4 = .ok (.iload_n 1, 1) := by decide +kernel
theorem dX2_isBerthed_5 : decode cX2_isBerthed 5 = .ok (.iaload, 1) := by decide +kernel
theorem dX2_isBerthed_6 : decode cX2_isBerthed 6 = .ok (.iconst 4, 1) := by decide +kernel
theorem dX2_isBerthed_7 : decode cX2_isBerthed 7 = .ok (.if_icmp .ge 7, 3) := by decide +kernel
theorem dX2_isBerthed_10 : decode cX2_isBerthed 10 = .ok (.iconst 1, 1) := by decide +kernel
theorem dX2_isBerthed_11 : decode cX2_isBerthed 11 = .ok (.goto 4, 3) := by decide +kernel
theorem dX2_isBerthed_14 : decode cX2_isBerthed 14 = .ok (.iconst 0, 1) := by decide +kernel
theorem dX2_isBerthed_15 : decode cX2_isBerthed 15 = .ok (.ireturn, 1) := by decide +kernel
theorem dX2_dreamsAt_0 : decode cX2_dreamsAt 0 = .ok (.iconst 0, 1) := by decide +kernel
theorem dX2_dreamsAt_1 : decode cX2_dreamsAt 1 = .ok (.istore_n 2, 1) := by decide +kernel
theorem dX2_dreamsAt_2 : decode cX2_dreamsAt 2 = .ok (.iconst 0, 1) := by decide +kernel
theorem dX2_dreamsAt_3 : decode cX2_dreamsAt 3 = .ok (.istore_n 3, 1) := by decide +kernel
theorem dX2_dreamsAt_4 : decode cX2_dreamsAt 4 = .ok (.iload_n 3, 1) := by decide +kernel
theorem dX2_dreamsAt_5 : decode cX2_dreamsAt 5 = .ok (.aload_n 0, 1) := by decide +kernel
theorem dX2_dreamsAt_6 : decode cX2_dreamsAt 6 = .ok (.getfield 31, 3) := by decide +kernel
theorem dX2_dreamsAt_9 : decode cX2_dreamsAt 9 = .ok (.getfield 53, 3) := by decide +kernel
theorem dX2_dreamsAt_12 : decode cX2_dreamsAt 12 = .ok (.if_icmp .ge 25, 3) := by decide +kernel
theorem dX2_dreamsAt_15 : decode cX2_dreamsAt 15 = .ok (.aload_n 0, 1) := by decide +kernel
theorem dX2_dreamsAt_16 : decode cX2_dreamsAt 16 = .ok (.getfield 9, 3) := by decide +kernel
theorem dX2_dreamsAt_19 : decode cX2_dreamsAt 19 = .ok (.iload_n 3, 1) := by decide +kernel
theorem dX2_dreamsAt_20 : decode cX2_dreamsAt 20 = .ok (.iaload, 1) := by decide +kernel
theorem dX2_dreamsAt_21 : decode cX2_dreamsAt 21 = .ok (.iload_n 1, 1) := by decide +kernel
theorem dX2_dreamsAt_22 : decode cX2_dreamsAt 22 = .ok (.if_icmp .ne 9, 3) := by decide +kernel
theorem dX2_dreamsAt_25 : decode cX2_dreamsAt 25 = .ok (.iload_n 2, 1) := by decide +kernel
theorem dX2_dreamsAt_26 : decode cX2_dreamsAt 26 = .ok (.iconst 1, 1) := by decide +kernel
theorem dX2_dreamsAt_27 : decode cX2_dreamsAt 27 = .ok (.iload_n 3, 1) := by decide +kernel
theorem dX2_dreamsAt_28 : decode cX2_dreamsAt 28 = .ok (.ishl, 1) := by decide +kernel
theorem dX2_dreamsAt_29 : decode cX2_dreamsAt 29 = .ok (.ior, 1) := by decide +kernel
theorem dX2_dreamsAt_30 : decode cX2_dreamsAt 30 = .ok (.istore_n 2, 1) := by decide +kernel
theorem dX2_dreamsAt_31 : decode cX2_dreamsAt 31 = .ok (.iinc 3 1, 3) := by decide +kernel
theorem dX2_dreamsAt_34 : decode cX2_dreamsAt 34 = .ok (.goto (-30), 3) := by decide +kernel
theorem dX2_dreamsAt_37 : decode cX2_dreamsAt 37 = .ok (.iload_n 2, 1) := by decide +kernel
theorem dX2_dreamsAt_38 : decode cX2_dreamsAt 38 = .ok (.ireturn, 1) := by decide +kernel
theorem dX2_countAt_0 : decode cX2_countAt 0 = .ok (.aload_n 0, 1) := by decide +kernel
theorem dX2_countAt_1 : decode cX2_countAt 1 = .ok (.iload_n 1, 1) := by decide +kernel
theorem dX2_countAt_2 : decode cX2_countAt 2 = .ok (.invokevirtual 56, 3) := by decide +kernel
theorem dX2_countAt_5 : decode cX2_countAt 5 = .ok (.invokestatic 59, 3) := by decide +kernel
theorem dX2_countAt_8 : decode cX2_countAt 8 = .ok (.ireturn, 1) := by decide +kernel
theorem dX2_dreamsBerthed_0 : decode cX2_dreamsBerthed 0 = .ok (.iconst 0, 1) := by decide +kernel
theorem dX2_dreamsBerthed_1 : decode cX2_dreamsBerthed 1 = .ok (.istore_n 1, 1) := by decide +kernel
theorem dX2_dreamsBerthed_2 : decode cX2_dreamsBerthed 2 = .ok (.iconst 0, 1) := by decide +kernel
theorem dX2_dreamsBerthed_3 : decode cX2_dreamsBerthed 3 = .ok (.istore_n 2, 1) := by decide +kernel
theorem dX2_dreamsBerthed_4 : decode cX2_dreamsBerthed 4 = .ok (.iload_n 2, 1) := by decide +kernel
theorem dX2_dreamsBerthed_5 : decode cX2_dreamsBerthed 5 = .ok (.aload_n 0, 1) := by decide +kernel
theorem dX2_dreamsBerthed_6 : decode cX2_dreamsBerthed 6 = .ok (.getfield 31, 3) := by decide +kernel
theorem dX2_dreamsBerthed_9 : decode cX2_dreamsBerthed 9 = .ok (.getfield 64, 3) := by decide +kernel
theorem dX2_dreamsBerthed_12 : decode cX2_dreamsBerthed 12 = .ok (.if_icmp .ge 17, 3) := by decide +kernel
theorem dX2_dreamsBerthed_15 : decode cX2_dreamsBerthed 15 = .ok (.iload_n 1, 1) := by decide +kernel
theorem dX2_dreamsBerthed_16 : decode cX2_dreamsBerthed 16 = .ok (.aload_n 0, 1) := by decide +kernel
theorem dX2_dreamsBerthed_17 : decode cX2_dreamsBerthed 17 = .ok (.iload_n 2, 1) := by decide +kernel
theorem dX2_dreamsBerthed_18 : decode cX2_dreamsBerthed 18 = .ok (.invokevirtual 56, 3) := by decide +kernel
theorem dX2_dreamsBerthed_21 : decode cX2_dreamsBerthed 21 = .ok (.ior, 1) := by decide +kernel
theorem dX2_dreamsBerthed_22 : decode cX2_dreamsBerthed 22 = .ok (.istore_n 1, 1) := by decide +kernel
theorem dX2_dreamsBerthed_23 : decode cX2_dreamsBerthed 23 = .ok (.iinc 2 1, 3) := by decide +kernel
theorem dX2_dreamsBerthed_26 : decode cX2_dreamsBerthed 26 = .ok (.goto (-22), 3) := by decide +kernel
theorem dX2_dreamsBerthed_29 : decode cX2_dreamsBerthed 29 = .ok (.iload_n 1, 1) := by decide +kernel
theorem dX2_dreamsBerthed_30 : decode cX2_dreamsBerthed 30 = .ok (.ireturn, 1) := by decide +kernel
theorem dX2_wokeInAll_0 : decode cX2_wokeInAll 0 = .ok (.iconst 0, 1) := by decide +kernel
theorem dX2_wokeInAll_1 : decode cX2_wokeInAll 1 = .ok (.istore_n 1, 1) := by decide +kernel
theorem dX2_wokeInAll_2 : decode cX2_wokeInAll 2 = .ok (.iconst 0, 1) := by decide +kernel
theorem dX2_wokeInAll_3 : decode cX2_wokeInAll 3 = .ok (.istore_n 2, 1) := by decide +kernel
theorem dX2_wokeInAll_4 : decode cX2_wokeInAll 4 = .ok (.iload_n 2, 1) := by decide +kernel
theorem dX2_wokeInAll_5 : decode cX2_wokeInAll 5 = .ok (.aload_n 0, 1) := by decide +kernel
theorem dX2_wokeInAll_6 : decode cX2_wokeInAll 6 = .ok (.getfield 31, 3) := by decide +kernel
theorem dX2_wokeInAll_9 : decode cX2_wokeInAll 9 = .ok (.getfield 64, 3) := by decide +kernel
theorem dX2_wokeInAll_12 : decode cX2_wokeInAll 12 = .ok (.if_icmp .ge 18, 3) := by decide +kernel
theorem dX2_wokeInAll_15 : decode cX2_wokeInAll 15 = .ok (.iload_n 1, 1) := by decide +kernel
theorem dX2_wokeInAll_16 : decode cX2_wokeInAll 16 = .ok (.aload_n 0, 1) := by decide +kernel
theorem dX2_wokeInAll_17 : decode cX2_wokeInAll 17 = .ok (.getfield 24, 3) := by decide +kernel
theorem dX2_wokeInAll_20 : decode cX2_wokeInAll 20 = .ok (.iload_n 2, 1) := by decide +kernel
theorem dX2_wokeInAll_21 : decode cX2_wokeInAll 21 = .ok (.iaload, 1) := by decide +kernel
theorem dX2_wokeInAll_22 : decode cX2_wokeInAll 22 = .ok (.iadd, 1) := by decide +kernel
theorem dX2_wokeInAll_23 : decode cX2_wokeInAll 23 = .ok (.istore_n 1, 1) := by decide +kernel
theorem dX2_wokeInAll_24 : decode cX2_wokeInAll 24 = .ok (.iinc 2 1, 3) := by decide +kernel
theorem dX2_wokeInAll_27 : decode cX2_wokeInAll 27 = .ok (.goto (-23), 3) := by decide +kernel
theorem dX2_wokeInAll_30 : decode cX2_wokeInAll 30 = .ok (.iload_n 1, 1) := by decide +kernel
theorem dX2_wokeInAll_31 : decode cX2_wokeInAll 31 = .ok (.ireturn, 1) := by decide +kernel
theorem dX2_roomIn_0 : decode cX2_roomIn 0 = .ok (.aload_n 0, 1) := by decide +kernel
theorem dX2_roomIn_1 : decode cX2_roomIn 1 = .ok (.getfield 31, 3) := by decide +kernel
theorem dX2_roomIn_4 : decode cX2_roomIn 4 = .ok (.getfield 67, 3) := by decide +kernel
theorem dX2_roomIn_7 : decode cX2_roomIn 7 = .ok (.iload_n 1, 1) := by decide +kernel
theorem dX2_roomIn_8 : decode cX2_roomIn 8 = .ok (.iaload, 1) := by decide +kernel
theorem dX2_roomIn_9 : decode cX2_roomIn 9 = .ok (.iconst 2, 1) := by decide +kernel
theorem dX2_roomIn_10 : decode cX2_roomIn 10 = .ok (.if_icmp .ne 7, 3) := by decide +kernel
theorem dX2_roomIn_13 : decode cX2_roomIn 13 = .ok (.iconst 2, 1) := by decide +kernel
theorem dX2_roomIn_14 : decode cX2_roomIn 14 = .ok (.goto 4, 3) := by decide +kernel
theorem dX2_roomIn_17 : decode cX2_roomIn 17 = .ok (.iconst 1, 1) := by decide +kernel
theorem dX2_roomIn_18 : decode cX2_roomIn 18 = .ok (.istore_n 2, 1) := by decide +kernel
theorem dX2_roomIn_19 : decode cX2_roomIn 19 = .ok (.iconst 0, 1) := by decide +kernel
theorem dX2_roomIn_20 : decode cX2_roomIn 20 = .ok (.istore_n 3, 1) := by decide +kernel
theorem dX2_roomIn_21 : decode cX2_roomIn 21 = .ok (.iload_n 3, 1) := by decide +kernel
theorem dX2_roomIn_22 : decode cX2_roomIn 22 = .ok (.aload_n 0, 1) := by decide +kernel
theorem dX2_roomIn_23 : decode cX2_roomIn 23 = .ok (.getfield 31, 3) := by decide +kernel
theorem dX2_roomIn_26 : decode cX2_roomIn 26 = .ok (.getfield 53, 3) := by decide +kernel
theorem dX2_roomIn_29 : decode cX2_roomIn 29 = .ok (.if_icmp .ge 22, 3) := by decide +kernel
theorem dX2_roomIn_32 : decode cX2_roomIn 32 = .ok (.aload_n 0, 1) := by decide +kernel
theorem dX2_roomIn_33 : decode cX2_roomIn 33 = .ok (.getfield 9, 3) := by decide +kernel
theorem dX2_roomIn_36 : decode cX2_roomIn 36 = .ok (.iload_n 3, 1) := by decide +kernel
theorem dX2_roomIn_37 : decode cX2_roomIn 37 = .ok (.iaload, 1) := by decide +kernel
theorem dX2_roomIn_38 : decode cX2_roomIn 38 = .ok (.iload_n 1, 1) := by decide +kernel
theorem dX2_roomIn_39 : decode cX2_roomIn 39 = .ok (.if_icmp .ne 6, 3) := by decide +kernel
theorem dX2_roomIn_42 : decode cX2_roomIn 42 = .ok (.iinc 2 (-1), 3) := by decide +kernel
theorem dX2_roomIn_45 : decode cX2_roomIn 45 = .ok (.iinc 3 1, 3) := by decide +kernel
theorem dX2_roomIn_48 : decode cX2_roomIn 48 = .ok (.goto (-27), 3) := by decide +kernel
theorem dX2_roomIn_51 : decode cX2_roomIn 51 = .ok (.iload_n 2, 1) := by decide +kernel
theorem dX2_roomIn_52 : decode cX2_roomIn 52 = .ok (.ireturn, 1) := by decide +kernel
theorem dX2_suits_0 : decode cX2_suits 0 = .ok (.aload_n 0, 1) := by decide +kernel
theorem dX2_suits_1 : decode cX2_suits 1 = .ok (.getfield 31, 3) := by decide +kernel
theorem dX2_suits_4 : decode cX2_suits 4 = .ok (.getfield 67, 3) := by decide +kernel
theorem dX2_suits_7 : decode cX2_suits 7 = .ok (.iload_n 2, 1) := by decide +kernel
theorem dX2_suits_8 : decode cX2_suits 8 = .ok (.iaload, 1) := by decide +kernel
theorem dX2_suits_9 : decode cX2_suits 9 = .ok (.iconst 1, 1) := by decide +kernel
theorem dX2_suits_10 : decode cX2_suits 10 = .ok (.if_icmp .eq 5, 3) := by decide +kernel
theorem dX2_suits_13 : decode cX2_suits 13 = .ok (.iconst 1, 1) := by decide +kernel
theorem dX2_suits_14 : decode cX2_suits 14 = .ok (.ireturn, 1) := by decide +kernel
theorem dX2_suits_15 : decode cX2_suits 15 = .ok (.aload_n 0, 1) := by decide +kernel
theorem dX2_suits_16 : decode cX2_suits 16 = .ok (.getfield 18, 3) := by decide +kernel
theorem dX2_suits_19 : decode cX2_suits 19 = .ok (.iload_n 1, 1) := by decide +kernel
theorem dX2_suits_20 : decode cX2_suits 20 = .ok (.iaload, 1) := by decide +kernel
theorem dX2_suits_21 : decode cX2_suits 21 = .ok (.iconst 3, 1) := by decide +kernel
theorem dX2_suits_22 : decode cX2_suits 22 = .ok (.if_icmp .gt 20, 3) := by decide +kernel
theorem dX2_suits_25 : decode cX2_suits 25 = .ok (.aload_n 0, 1) := by decide +kernel
theorem dX2_suits_26 : decode cX2_suits 26 = .ok (.getfield 31, 3) := by decide +kernel
theorem dX2_suits_29 : decode cX2_suits 29 = .ok (.getfield 70, 3) := by decide +kernel
theorem dX2_suits_32 : decode cX2_suits 32 = .ok (.iload_n 1, 1) := by decide +kernel
theorem dX2_suits_33 : decode cX2_suits 33 = .ok (.iaload, 1) := by decide +kernel
theorem dX2_suits_34 : decode cX2_suits 34 = .ok (.iconst 1, 1) := by decide +kernel
theorem dX2_suits_35 : decode cX2_suits 35 = .ok (.if_icmp .eq 7, 3) := by decide +kernel
theorem dX2_suits_38 : decode cX2_suits 38 = .ok (.iconst 1, 1) := by decide +kernel
theorem dX2_suits_39 : decode cX2_suits 39 = .ok (.goto 4, 3) := by decide +kernel
theorem dX2_suits_42 : decode cX2_suits 42 = .ok (.iconst 0, 1) := by decide +kernel
theorem dX2_suits_43 : decode cX2_suits 43 = .ok (.ireturn, 1) := by decide +kernel
theorem dX2_canBe_0 : decode cX2_canBe 0 = .ok (.aload_n 0, 1) := by decide +kernel
theorem dX2_canBe_1 : decode cX2_canBe 1 = .ok (.iload_n 1, 1) := by decide +kernel
theorem dX2_canBe_2 : decode cX2_canBe 2 = .ok (.iload_n 2, 1) := by decide +kernel
theorem dX2_canBe_3 : decode cX2_canBe 3 = .ok (.invokevirtual 73, 3) := by decide +kernel
theorem dX2_canBe_6 : decode cX2_canBe 6 = .ok (.ifCond .eq 15, 3) := by decide +kernel
theorem dX2_canBe_9 : decode cX2_canBe 9 = .ok (.aload_n 0, 1) := by decide +kernel
theorem dX2_canBe_10 : decode cX2_canBe 10 = .ok (.iload_n 2, 1) := by decide +kernel
theorem dX2_canBe_11 : decode cX2_canBe 11 = .ok (.invokevirtual 77, 3) := by decide +kernel
theorem dX2_canBe_14 : decode cX2_canBe 14 = .ok (.ifCond .le 7, 3) := by decide +kernel
theorem dX2_canBe_17 : decode cX2_canBe 17 = .ok (.iconst 1, 1) := by decide +kernel
theorem dX2_canBe_18 : decode cX2_canBe 18 = .ok (.goto 4, 3) := by decide +kernel
theorem dX2_canBe_21 : decode cX2_canBe 21 = .ok (.iconst 0, 1) := by decide +kernel
theorem dX2_canBe_22 : decode cX2_canBe 22 = .ok (.ireturn, 1) := by decide +kernel
theorem dX2_berthsOpenTo_0 : decode cX2_berthsOpenTo 0 = .ok (.iconst 0, 1) := by decide +kernel
theorem dX2_berthsOpenTo_1 : decode cX2_berthsOpenTo 1 = .ok (.istore_n 2, 1) := by decide +kernel
theorem dX2_berthsOpenTo_2 : decode cX2_berthsOpenTo 2 = .ok (.iconst 0, 1) := by decide +kernel
theorem dX2_berthsOpenTo_3 : decode cX2_berthsOpenTo 3 = .ok (.istore_n 3, 1) := by decide +kernel
theorem dX2_berthsOpenTo_4 : decode cX2_berthsOpenTo 4 = .ok (.iload_n 3, 1) := by decide +kernel
theorem dX2_berthsOpenTo_5 : decode cX2_berthsOpenTo 5 = .ok (.aload_n 0, 1) := by decide +kernel
theorem dX2_berthsOpenTo_6 : decode cX2_berthsOpenTo 6 = .ok (.getfield 31, 3) := by decide +kernel
theorem dX2_berthsOpenTo_9 : decode cX2_berthsOpenTo 9 = .ok (.getfield 64, 3) := by decide +kernel
theorem dX2_berthsOpenTo_12 : decode cX2_berthsOpenTo 12 = .ok (.if_icmp .ge 24, 3) := by decide +kernel
theorem dX2_berthsOpenTo_15 : decode cX2_berthsOpenTo 15 = .ok (.aload_n 0, 1) := by decide +kernel
theorem dX2_berthsOpenTo_16 : decode cX2_berthsOpenTo 16 = .ok (.iload_n 1, 1) := by decide +kernel
theorem dX2_berthsOpenTo_17 : decode cX2_berthsOpenTo 17 = .ok (.iload_n 3, 1) := by decide +kernel
theorem dX2_berthsOpenTo_18 : decode cX2_berthsOpenTo 18 = .ok (.invokevirtual 80, 3) := by decide +kernel
theorem dX2_berthsOpenTo_21 : decode cX2_berthsOpenTo 21 = .ok (.ifCond .eq 9, 3) := by decide +kernel
theorem dX2_berthsOpenTo_24 : decode cX2_berthsOpenTo 24 = .ok (.iload_n 2, 1) := by decide +kernel
theorem dX2_berthsOpenTo_25 : decode cX2_berthsOpenTo 25 = .ok (.iconst 1, 1) := by decide +kernel
theorem dX2_berthsOpenTo_26 : decode cX2_berthsOpenTo 26 = .ok (.iload_n 3, 1) := by decide +kernel
theorem dX2_berthsOpenTo_27 : decode cX2_berthsOpenTo 27 = .ok (.ishl, 1) := by decide +kernel
theorem dX2_berthsOpenTo_28 : decode cX2_berthsOpenTo 28 = .ok (.ior, 1) := by decide +kernel
theorem dX2_berthsOpenTo_29 : decode cX2_berthsOpenTo 29 = .ok (.istore_n 2, 1) := by decide +kernel
theorem dX2_berthsOpenTo_30 : decode cX2_berthsOpenTo 30 = .ok (.iinc 3 1, 3) := by decide +kernel
theorem dX2_berthsOpenTo_33 : decode cX2_berthsOpenTo 33 = .ok (.goto (-29), 3) := by decide +kernel
theorem dX2_berthsOpenTo_36 : decode cX2_berthsOpenTo 36 = .ok (.iload_n 2, 1) := by decide +kernel
theorem dX2_berthsOpenTo_37 : decode cX2_berthsOpenTo 37 = .ok (.ireturn, 1) := by decide +kernel
theorem dX2_berthsFitFor_0 : decode cX2_berthsFitFor 0 = .ok (.iconst 0, 1) := by decide +kernel
theorem dX2_berthsFitFor_1 : decode cX2_berthsFitFor 1 = .ok (.istore_n 2, 1) := by decide +kernel
theorem dX2_berthsFitFor_2 : decode cX2_berthsFitFor 2 = .ok (.iconst 0, 1) := by decide +kernel
theorem dX2_berthsFitFor_3 : decode cX2_berthsFitFor 3 = .ok (.istore_n 3, 1) := by decide +kernel
theorem dX2_berthsFitFor_4 : decode cX2_berthsFitFor 4 = .ok (.iload_n 3, 1) := by decide +kernel
theorem dX2_berthsFitFor_5 : decode cX2_berthsFitFor 5 = .ok (.aload_n 0, 1) := by decide +kernel
theorem dX2_berthsFitFor_6 : decode cX2_berthsFitFor 6 = .ok (.getfield 31, 3) := by decide +kernel
theorem dX2_berthsFitFor_9 : decode cX2_berthsFitFor 9 = .ok (.getfield 64, 3) := by decide +kernel
theorem dX2_berthsFitFor_12 : decode cX2_berthsFitFor 12 = .ok (.if_icmp .ge 38, 3) := by decide +kernel
theorem dX2_berthsFitFor_15 : decode cX2_berthsFitFor 15 = .ok (.aload_n 0, 1) := by decide +kernel
theorem dX2_berthsFitFor_16 : decode cX2_berthsFitFor 16 = .ok (.iload_n 1, 1) := by decide +kernel
theorem dX2_berthsFitFor_17 : decode cX2_berthsFitFor 17 = .ok (.iload_n 3, 1) := by decide +kernel
theorem dX2_berthsFitFor_18 : decode cX2_berthsFitFor 18 = .ok (.invokevirtual 73, 3) := by decide +kernel
theorem dX2_berthsFitFor_21 : decode cX2_berthsFitFor 21 = .ok (.ifCond .eq 23, 3) := by decide +kernel
theorem dX2_berthsFitFor_24 : decode cX2_berthsFitFor 24 = .ok (.aload_n 0, 1) := by decide +kernel
theorem dX2_berthsFitFor_25 : decode cX2_berthsFitFor 25 = .ok (.getfield 18, 3) := by decide +kernel
theorem dX2_berthsFitFor_28 : decode cX2_berthsFitFor 28 = .ok (.iload_n 1, 1) := by decide +kernel
theorem dX2_berthsFitFor_29 : decode cX2_berthsFitFor 29 = .ok (.iaload, 1) := by decide +kernel
theorem dX2_berthsFitFor_30 : decode cX2_berthsFitFor 30 = .ok (.aload_n 0, 1) := by decide +kernel
theorem dX2_berthsFitFor_31 : decode cX2_berthsFitFor 31 = .ok (.iload_n 3, 1) := by decide +kernel
theorem dX2_berthsFitFor_32 : decode cX2_berthsFitFor 32 = .ok (.invokevirtual 83, 3) := by decide +kernel
theorem dX2_berthsFitFor_35 : decode cX2_berthsFitFor 35 = .ok (.if_icmp .gt 9, 3) := by decide +kernel
theorem dX2_berthsFitFor_38 : decode cX2_berthsFitFor 38 = .ok (.iload_n 2, 1) := by decide +kernel
theorem dX2_berthsFitFor_39 : decode cX2_berthsFitFor 39 = .ok (.iconst 1, 1) := by decide +kernel
theorem dX2_berthsFitFor_40 : decode cX2_berthsFitFor 40 = .ok (.iload_n 3, 1) := by decide +kernel
theorem dX2_berthsFitFor_41 : decode cX2_berthsFitFor 41 = .ok (.ishl, 1) := by decide +kernel
theorem dX2_berthsFitFor_42 : decode cX2_berthsFitFor 42 = .ok (.ior, 1) := by decide +kernel
theorem dX2_berthsFitFor_43 : decode cX2_berthsFitFor 43 = .ok (.istore_n 2, 1) := by decide +kernel
theorem dX2_berthsFitFor_44 : decode cX2_berthsFitFor 44 = .ok (.iinc 3 1, 3) := by decide +kernel
theorem dX2_berthsFitFor_47 : decode cX2_berthsFitFor 47 = .ok (.goto (-43), 3) := by decide +kernel
theorem dX2_berthsFitFor_50 : decode cX2_berthsFitFor 50 = .ok (.iload_n 2, 1) := by decide +kernel
theorem dX2_berthsFitFor_51 : decode cX2_berthsFitFor 51 = .ok (.ireturn, 1) := by decide +kernel
theorem dX2_canMoor_0 : decode cX2_canMoor 0 = .ok (.aload_n 0, 1) := by decide +kernel
theorem dX2_canMoor_1 : decode cX2_canMoor 1 = .ok (.getfield 31, 3) := by decide +kernel
theorem dX2_canMoor_4 : decode cX2_canMoor 4 = .ok (.iload_n 1, 1) := by decide +kernel
theorem dX2_canMoor_5 : decode cX2_canMoor 5 = .ok (.invokevirtual 86, 3) := by decide +kernel
theorem dX2_canMoor_8 : decode cX2_canMoor 8 = .ok (.ifCond .eq 35, 3) := by decide +kernel
theorem dX2_canMoor_11 : decode cX2_canMoor 11 = .ok (.aload_n 0, 1) := by decide +kernel
theorem dX2_canMoor_12 : decode cX2_canMoor 12 = .ok (.getfield 31, 3) := by decide +kernel
theorem dX2_canMoor_15 : decode cX2_canMoor 15 = .ok (.iload_n 2, 1) := by decide +kernel
theorem dX2_canMoor_16 : decode cX2_canMoor 16 = .ok (.invokevirtual 90, 3) := by decide +kernel
theorem dX2_canMoor_19 : decode cX2_canMoor 19 = .ok (.ifCond .eq 24, 3) := by decide +kernel
theorem dX2_canMoor_22 : decode cX2_canMoor 22 = .ok (.aload_n 0, 1) := by decide +kernel
theorem dX2_canMoor_23 : decode cX2_canMoor 23 = .ok (.iload_n 1, 1) := by decide +kernel
theorem dX2_canMoor_24 : decode cX2_canMoor 24 = .ok (.invokevirtual 93, 3) := by decide +kernel
theorem dX2_canMoor_27 : decode cX2_canMoor 27 = .ok (.ifCond .eq 16, 3) := by decide +kernel
theorem dX2_canMoor_30 : decode cX2_canMoor 30 = .ok (.aload_n 0, 1) := by decide +kernel
theorem dX2_canMoor_31 : decode cX2_canMoor 31 = .ok (.iload_n 1, 1) := by decide +kernel
theorem dX2_canMoor_32 : decode cX2_canMoor 32 = .ok (.iload_n 2, 1) := by decide +kernel
theorem dX2_canMoor_33 : decode cX2_canMoor 33 = .ok (.invokevirtual 80, 3) := by decide +kernel
theorem dX2_canMoor_36 : decode cX2_canMoor 36 = .ok (.ifCond .eq 7, 3) := by decide +kernel
theorem dX2_canMoor_39 : decode cX2_canMoor 39 = .ok (.iconst 1, 1) := by decide +kernel
theorem dX2_canMoor_40 : decode cX2_canMoor 40 = .ok (.goto 4, 3) := by decide +kernel
theorem dX2_canMoor_43 : decode cX2_canMoor 43 = .ok (.iconst 0, 1) := by decide +kernel
theorem dX2_canMoor_44 : decode cX2_canMoor 44 = .ok (.ireturn, 1) := by decide +kernel
theorem dX2_canTow_0 : decode cX2_canTow 0 = .ok (.aload_n 0, 1) := by decide +kernel
theorem dX2_canTow_1 : decode cX2_canTow 1 = .ok (.getfield 31, 3) := by decide +kernel
theorem dX2_canTow_4 : decode cX2_canTow 4 = .ok (.iload_n 1, 1) := by decide +kernel
theorem dX2_canTow_5 : decode cX2_canTow 5 = .ok (.invokevirtual 86, 3) := by decide +kernel
theorem dX2_canTow_8 : decode cX2_canTow 8 = .ok (.ifCond .eq 15, 3) := by decide +kernel
theorem dX2_canTow_11 : decode cX2_canTow 11 = .ok (.aload_n 0, 1) := by decide +kernel
theorem dX2_canTow_12 : decode cX2_canTow 12 = .ok (.iload_n 1, 1) := by decide +kernel
theorem dX2_canTow_13 : decode cX2_canTow 13 = .ok (.invokevirtual 96, 3) := by decide +kernel
theorem dX2_canTow_16 : decode cX2_canTow 16 = .ok (.ifCond .eq 7, 3) := by decide +kernel
theorem dX2_canTow_19 : decode cX2_canTow 19 = .ok (.iconst 1, 1) := by decide +kernel
theorem dX2_canTow_20 : decode cX2_canTow 20 = .ok (.goto 4, 3) := by decide +kernel
theorem dX2_canTow_23 : decode cX2_canTow 23 = .ok (.iconst 0, 1) := by decide +kernel
theorem dX2_canTow_24 : decode cX2_canTow 24 = .ok (.ireturn, 1) := by decide +kernel
theorem dX2_towOut_0 : decode cX2_towOut 0 = .ok (.aload_n 0, 1) := by decide +kernel
theorem dX2_towOut_1 : decode cX2_towOut 1 = .ok (.getfield 9, 3) := by decide +kernel
theorem dX2_towOut_4 : decode cX2_towOut 4 = .ok (.iload_n 1, 1) := by decide +kernel
theorem dX2_towOut_5 : decode cX2_towOut 5 = .ok (.bipush 8, 2) := by decide +kernel
theorem dX2_towOut_7 : decode cX2_towOut 7 = .ok (.iastore, 1) := by decide +kernel
theorem dX2_towOut_8 : decode cX2_towOut 8 = .ok (.aload_n 0, 1) := by decide +kernel
theorem dX2_towOut_9 : decode cX2_towOut 9 = .ok (.getfield 15, 3) := by decide +kernel
theorem dX2_towOut_12 : decode cX2_towOut 12 = .ok (.iload_n 1, 1) := by decide +kernel
theorem dX2_towOut_13 : decode cX2_towOut 13 = .ok (.iconst 0, 1) := by decide +kernel
theorem dX2_towOut_14 : decode cX2_towOut 14 = .ok (.iastore, 1) := by decide +kernel
theorem dX2_towOut_15 : decode cX2_towOut 15 = .ok (.return_, 1) := by decide +kernel
theorem dX2_dreamtIn_0 : decode cX2_dreamtIn 0 = .ok (.iconst 0, 1) := by decide +kernel
theorem dX2_dreamtIn_1 : decode cX2_dreamtIn 1 = .ok (.istore_n 3, 1) := by decide +kernel
theorem dX2_dreamtIn_2 : decode cX2_dreamtIn 2 = .ok (.aload_n 0, 1) := by decide +kernel
theorem dX2_dreamtIn_3 : decode cX2_dreamtIn 3 = .ok (.getfield 21, 3) := by decide +kernel
theorem dX2_dreamtIn_6 : decode cX2_dreamtIn 6 = .ok (.iload_n 1, 1) := by decide +kernel
theorem dX2_dreamtIn_7 : decode cX2_dreamtIn 7 = .ok (.iaload, 1) := by decide +kernel
theorem dX2_dreamtIn_8 : decode cX2_dreamtIn 8 = .ok (.istore 4, 2) := by decide +kernel
theorem dX2_dreamtIn_10 : decode cX2_dreamtIn 10 = .ok (.iconst 0, 1) := by decide +kernel
theorem dX2_dreamtIn_11 : decode cX2_dreamtIn 11 = .ok (.istore 5, 2) := by decide +kernel
theorem dX2_dreamtIn_13 : decode cX2_dreamtIn 13 = .ok (.iload 5, 2) := by decide +kernel
theorem dX2_dreamtIn_15 : decode cX2_dreamtIn 15 = .ok (.aload_n 0, 1) := by decide +kernel
theorem dX2_dreamtIn_16 : decode cX2_dreamtIn 16 = .ok (.getfield 31, 3) := by decide +kernel
theorem dX2_dreamtIn_19 : decode cX2_dreamtIn 19 = .ok (.getfield 53, 3) := by decide +kernel
theorem dX2_dreamtIn_22 : decode cX2_dreamtIn 22 = .ok (.if_icmp .ge 54, 3) := by decide +kernel
theorem dX2_dreamtIn_25 : decode cX2_dreamtIn 25 = .ok (.aload_n 0, 1) := by decide +kernel
theorem dX2_dreamtIn_26 : decode cX2_dreamtIn 26 = .ok (.getfield 9, 3) := by decide +kernel
theorem dX2_dreamtIn_29 : decode cX2_dreamtIn 29 = .ok (.iload 5, 2) := by decide +kernel
theorem dX2_dreamtIn_31 : decode cX2_dreamtIn 31 = .ok (.iaload, 1) := by decide +kernel
theorem dX2_dreamtIn_32 : decode cX2_dreamtIn 32 = .ok (.iload_n 1, 1) := by decide +kernel
theorem dX2_dreamtIn_33 : decode cX2_dreamtIn 33 = .ok (.if_icmp .ne 37, 3) := by decide +kernel
theorem dX2_dreamtIn_36 : decode cX2_dreamtIn 36 = .ok (.aload_n 0, 1) := by decide +kernel
theorem dX2_dreamtIn_37 : decode cX2_dreamtIn 37 = .ok (.getfield 18, 3) := by decide +kernel
theorem dX2_dreamtIn_40 : decode cX2_dreamtIn 40 = .ok (.iload 5, 2) := by decide +kernel
theorem dX2_dreamtIn_42 : decode cX2_dreamtIn 42 = .ok (.iaload, 1) := by decide +kernel
theorem dX2_dreamtIn_43 : decode cX2_dreamtIn 43 = .ok (.iload 4, 2) := by decide +kernel
theorem dX2_dreamtIn_45 : decode cX2_dreamtIn 45 = .ok (.iload_n 2, 1) := by decide +kernel
theorem dX2_dreamtIn_46 : decode cX2_dreamtIn 46 = .ok (.iadd, 1) := by decide +kernel
theorem dX2_dreamtIn_47 : decode cX2_dreamtIn 47 = .ok (.if_icmp .gt 13, 3) := by decide +kernel
theorem dX2_dreamtIn_50 : decode cX2_dreamtIn 50 = .ok (.iload_n 3, 1) := by decide +kernel
theorem dX2_dreamtIn_51 : decode cX2_dreamtIn 51 = .ok (.iconst 1, 1) := by decide +kernel
theorem dX2_dreamtIn_52 : decode cX2_dreamtIn 52 = .ok (.iload 5, 2) := by decide +kernel
theorem dX2_dreamtIn_54 : decode cX2_dreamtIn 54 = .ok (.ishl, 1) := by decide +kernel
theorem dX2_dreamtIn_55 : decode cX2_dreamtIn 55 = .ok (.ior, 1) := by decide +kernel
theorem dX2_dreamtIn_56 : decode cX2_dreamtIn 56 = .ok (.istore_n 3, 1) := by decide +kernel
theorem dX2_dreamtIn_57 : decode cX2_dreamtIn 57 = .ok (.goto 13, 3) := by decide +kernel
theorem dX2_dreamtIn_60 : decode cX2_dreamtIn 60 = .ok (.aload_n 0, 1) := by decide +kernel
theorem dX2_dreamtIn_61 : decode cX2_dreamtIn 61 = .ok (.iload 4, 2) := by decide +kernel
theorem dX2_dreamtIn_63 : decode cX2_dreamtIn 63 = .ok (.iload 5, 2) := by decide +kernel
theorem dX2_dreamtIn_65 : decode cX2_dreamtIn 65 = .ok (.invokevirtual 99, 3) := by decide +kernel
theorem dX2_dreamtIn_68 : decode cX2_dreamtIn 68 = .ok (.istore 4, 2) := by decide +kernel
theorem dX2_dreamtIn_70 : decode cX2_dreamtIn 70 = .ok (.iinc 5 1, 3) := by decide +kernel
theorem dX2_dreamtIn_73 : decode cX2_dreamtIn 73 = .ok (.goto (-60), 3) := by decide +kernel
theorem dX2_dreamtIn_76 : decode cX2_dreamtIn 76 = .ok (.iload_n 3, 1) := by decide +kernel
theorem dX2_dreamtIn_77 : decode cX2_dreamtIn 77 = .ok (.ireturn, 1) := by decide +kernel
theorem dX2_spoilt_0 : decode cX2_spoilt 0 = .ok (.aload_n 0, 1) := by decide +kernel
theorem dX2_spoilt_1 : decode cX2_spoilt 1 = .ok (.getfield 31, 3) := by decide +kernel
theorem dX2_spoilt_4 : decode cX2_spoilt 4 = .ok (.getfield 70, 3) := by decide +kernel
theorem dX2_spoilt_7 : decode cX2_spoilt 7 = .ok (.iload_n 2, 1) := by decide +kernel
theorem dX2_spoilt_8 : decode cX2_spoilt 8 = .ok (.iaload, 1) := by decide +kernel
theorem dX2_spoilt_9 : decode cX2_spoilt 9 = .ok (.iconst 3, 1) := by decide +kernel
theorem dX2_spoilt_10 : decode cX2_spoilt 10 = .ok (.if_icmp .ne 13, 3) := by decide +kernel
theorem dX2_spoilt_13 : decode cX2_spoilt 13 = .ok (.iconst 0, 1) := by decide +kernel
theorem dX2_spoilt_14 : decode cX2_spoilt 14 = .ok (.iload_n 1, 1) := by decide +kernel
theorem dX2_spoilt_15 : decode cX2_spoilt 15 = .ok (.iconst 1, 1) := by decide +kernel
theorem dX2_spoilt_16 : decode cX2_spoilt 16 = .ok (.isub, 1) := by decide +kernel
theorem dX2_spoilt_17 : decode cX2_spoilt 17 = .ok (.invokestatic 103, 3) := by decide +kernel
theorem dX2_spoilt_20 : decode cX2_spoilt 20 = .ok (.goto 4, 3) := by decide +kernel
theorem dX2_spoilt_23 : decode cX2_spoilt 23 = .ok (.iload_n 1, 1) := by decide +kernel
theorem dX2_spoilt_24 : decode cX2_spoilt 24 = .ok (.ireturn, 1) := by decide +kernel
theorem dX2_dreamtIfFailed_0 : decode cX2_dreamtIfFailed 0 = .ok (.iconst 0, 1) := by decide +kernel
theorem dX2_dreamtIfFailed_1 : decode cX2_dreamtIfFailed 1 = .ok (.istore_n 2, 1) := by decide +kernel
theorem dX2_dreamtIfFailed_2 : decode cX2_dreamtIfFailed 2 = .ok (.iconst 0, 1) := by decide +kernel
theorem dX2_dreamtIfFailed_3 : decode cX2_dreamtIfFailed 3 = .ok (.istore_n 3, 1) := by decide +kernel
theorem dX2_dreamtIfFailed_4 : decode cX2_dreamtIfFailed 4 = .ok (.iload_n 3, 1) := by decide +kernel
theorem dX2_dreamtIfFailed_5 : decode cX2_dreamtIfFailed 5 = .ok (.aload_n 0, 1) := by decide +kernel
theorem dX2_dreamtIfFailed_6 : decode cX2_dreamtIfFailed 6 = .ok (.getfield 31, 3) := by decide +kernel
theorem dX2_dreamtIfFailed_9 : decode cX2_dreamtIfFailed 9 = .ok (.getfield 64, 3) := by decide +kernel
theorem dX2_dreamtIfFailed_12 : decode cX2_dreamtIfFailed 12 = .ok (.if_icmp .ge 41, 3) := by decide +kernel
theorem dX2_dreamtIfFailed_15 : decode cX2_dreamtIfFailed 15 = .ok (.iload_n 1, 1) := by decide +kernel
theorem dX2_dreamtIfFailed_16 : decode cX2_dreamtIfFailed 16 = .ok (.iload_n 3, 1) := by decide +kernel
theorem dX2_dreamtIfFailed_17 : decode cX2_dreamtIfFailed 17 = .ok (.ishr, 1) := by decide +kernel
theorem dX2_dreamtIfFailed_18 : decode cX2_dreamtIfFailed 18 = .ok (.iconst 1, 1) := by decide +kernel
theorem dX2_dreamtIfFailed_19 : decode cX2_dreamtIfFailed 19 = .ok (.iand, 1) := by decide +kernel
theorem dX2_dreamtIfFailed_20 : decode cX2_dreamtIfFailed 20 = .ok (.iconst 1, 1) := by decide +kernel
theorem dX2_dreamtIfFailed_21 : decode cX2_dreamtIfFailed 21 = .ok (.if_icmp .ne 7, 3) := by decide +kernel
theorem dX2_dreamtIfFailed_24 : decode cX2_dreamtIfFailed 24 = .ok (.iconst 0, 1) := by decide +kernel
theorem dX2_dreamtIfFailed_25 : decode cX2_dreamtIfFailed 25 = .ok (.goto 7, 3) := by decide +kernel
theorem dX2_dreamtIfFailed_28 : decode cX2_dreamtIfFailed 28 = .ok (.aload_n 0, 1) := by decide +kernel
theorem dX2_dreamtIfFailed_29 : decode cX2_dreamtIfFailed 29 = .ok (.invokevirtual 49, 3) := by decide +kernel
theorem dX2_dreamtIfFailed_32 : decode cX2_dreamtIfFailed 32 = .ok (.istore 4, 2) := by decide +kernel
theorem dX2_dreamtIfFailed_34 : decode cX2_dreamtIfFailed 34 = .ok (.iload_n 2, 1) := by decide +kernel
theorem dX2_dreamtIfFailed_35 : decode cX2_dreamtIfFailed 35 = .ok (.aload_n 0, 1) := by decide +kernel
theorem dX2_dreamtIfFailed_36 : decode cX2_dreamtIfFailed 36 = .ok (.iload_n 3, 1) := by decide +kernel
theorem dX2_dreamtIfFailed_37 : decode cX2_dreamtIfFailed 37 = .ok (.iload 4, 2) := by decide +kernel
theorem dX2_dreamtIfFailed_39 : decode cX2_dreamtIfFailed 39 = .ok (.invokevirtual 108, 3) := by decide +kernel
theorem dX2_dreamtIfFailed_42 : decode cX2_dreamtIfFailed 42 = .ok (.invokestatic 59, 3) := by decide +kernel
theorem dX2_dreamtIfFailed_45 : decode cX2_dreamtIfFailed 45 = .ok (.iadd, 1) := by decide +kernel
theorem dX2_dreamtIfFailed_46 : decode cX2_dreamtIfFailed 46 = .ok (.istore_n 2, 1) := by decide +kernel
theorem dX2_dreamtIfFailed_47 : decode cX2_dreamtIfFailed 47 = .ok (.iinc 3 1, 3) := by decide +kernel
theorem dX2_dreamtIfFailed_50 : decode cX2_dreamtIfFailed 50 = .ok (.goto (-46), 3) := by decide +kernel
theorem dX2_dreamtIfFailed_53 : decode cX2_dreamtIfFailed 53 = .ok (.iload_n 2, 1) := by decide +kernel
theorem dX2_dreamtIfFailed_54 : decode cX2_dreamtIfFailed 54 = .ok (.ireturn, 1) := by decide +kernel
theorem dX2_passNight_0 : decode cX2_passNight 0 = .ok (.iconst 0, 1) := by decide +kernel
theorem dX2_passNight_1 : decode cX2_passNight 1 = .ok (.istore_n 1, 1) := by decide +kernel
theorem dX2_passNight_2 : decode cX2_passNight 2 = .ok (.aload_n 0, 1) := by decide +kernel
theorem dX2_passNight_3 : decode cX2_passNight 3 = .ok (.invokevirtual 49, 3) := by decide +kernel
theorem dX2_passNight_6 : decode cX2_passNight 6 = .ok (.istore_n 2, 1) := by decide +kernel
theorem dX2_passNight_7 : decode cX2_passNight 7 = .ok (.iconst 0, 1) := by decide +kernel
theorem dX2_passNight_8 : decode cX2_passNight 8 = .ok (.istore_n 3, 1) := by decide +kernel
theorem dX2_passNight_9 : decode cX2_passNight 9 = .ok (.iload_n 3, 1) := by decide +kernel
theorem dX2_passNight_10 : decode cX2_passNight 10 = .ok (.aload_n 0, 1) := by decide +kernel
theorem dX2_passNight_11 : decode cX2_passNight 11 = .ok (.getfield 31, 3) := by decide +kernel
theorem dX2_passNight_14 : decode cX2_passNight 14 = .ok (.getfield 64, 3) := by decide +kernel
theorem dX2_passNight_17 : decode cX2_passNight 17 = .ok (.if_icmp .ge 32, 3) := by decide +kernel
theorem dX2_passNight_20 : decode cX2_passNight 20 = .ok (.aload_n 0, 1) := by decide +kernel
theorem dX2_passNight_21 : decode cX2_passNight 21 = .ok (.iload_n 3, 1) := by decide +kernel
theorem dX2_passNight_22 : decode cX2_passNight 22 = .ok (.iload_n 2, 1) := by decide +kernel
theorem dX2_passNight_23 : decode cX2_passNight 23 = .ok (.invokevirtual 108, 3) := by decide +kernel
theorem dX2_passNight_26 : decode cX2_passNight 26 = .ok (.istore 4, 2) := by decide +kernel
theorem dX2_passNight_28 : decode cX2_passNight 28 = .ok (.iload_n 1, 1) := by decide +kernel
theorem dX2_passNight_29 : decode cX2_passNight 29 = .ok (.iload 4, 2) := by decide +kernel
theorem dX2_passNight_31 : decode cX2_passNight 31 = .ok (.invokestatic 59, 3) := by decide +kernel
theorem dX2_passNight_34 : decode cX2_passNight 34 = .ok (.iadd, 1) := by decide +kernel
theorem dX2_passNight_35 : decode cX2_passNight 35 = .ok (.istore_n 1, 1) := by decide +kernel
theorem dX2_passNight_36 : decode cX2_passNight 36 = .ok (.aload_n 0, 1) := by decide +kernel
theorem dX2_passNight_37 : decode cX2_passNight 37 = .ok (.iload_n 3, 1) := by decide +kernel
theorem dX2_passNight_38 : decode cX2_passNight 38 = .ok (.iload 4, 2) := by decide +kernel
theorem dX2_passNight_40 : decode cX2_passNight 40 = .ok (.invokevirtual 111, 3) := by decide +kernel
theorem dX2_passNight_43 : decode cX2_passNight 43 = .ok (.iinc 3 1, 3) := by decide +kernel
theorem dX2_passNight_46 : decode cX2_passNight 46 = .ok (.goto (-37), 3) := by decide +kernel
theorem dX2_passNight_49 : decode cX2_passNight 49 = .ok (.aload_n 0, 1) := by decide +kernel
theorem dX2_passNight_50 : decode cX2_passNight 50 = .ok (.invokevirtual 115, 3) := by decide +kernel
theorem dX2_passNight_53 : decode cX2_passNight 53 = .ok (.aload_n 0, 1) := by decide +kernel
theorem dX2_passNight_54 : decode cX2_passNight 54 = .ok (.invokevirtual 118, 3) := by decide +kernel
theorem dX2_passNight_57 : decode cX2_passNight 57 = .ok (.aload_n 0, 1) := by decide +kernel
theorem dX2_passNight_58 : decode cX2_passNight 58 = .ok (.invokevirtual 121, 3) := by decide +kernel
theorem dX2_passNight_61 : decode cX2_passNight 61 = .ok (.aload_n 0, 1) := by decide +kernel
theorem dX2_passNight_62 : decode cX2_passNight 62 = .ok (.dup, 1) := by decide +kernel
theorem dX2_passNight_63 : decode cX2_passNight 63 = .ok (.getfield 27, 3) := by decide +kernel
theorem dX2_passNight_66 : decode cX2_passNight 66 = .ok (.iconst 1, 1) := by decide +kernel
theorem dX2_passNight_67 : decode cX2_passNight 67 = .ok (.iadd, 1) := by decide +kernel
theorem dX2_passNight_68 : decode cX2_passNight 68 = .ok (.putfield 27, 3) := by decide +kernel
theorem dX2_passNight_71 : decode cX2_passNight 71 = .ok (.iload_n 1, 1) := by decide +kernel
theorem dX2_passNight_72 : decode cX2_passNight 72 = .ok (.ireturn, 1) := by decide +kernel
theorem dX2_sleepIn_0 : decode cX2_sleepIn 0 = .ok (.iconst 0, 1) := by decide +kernel
theorem dX2_sleepIn_1 : decode cX2_sleepIn 1 = .ok (.istore_n 3, 1) := by decide +kernel
theorem dX2_sleepIn_2 : decode cX2_sleepIn 2 = .ok (.iload_n 3, 1) := by decide +kernel
theorem dX2_sleepIn_3 : decode cX2_sleepIn 3 = .ok (.aload_n 0, 1) := by decide +kernel
theorem dX2_sleepIn_4 : decode cX2_sleepIn 4 = .ok (.getfield 31, 3) := by decide +kernel
theorem dX2_sleepIn_7 : decode cX2_sleepIn 7 = .ok (.getfield 53, 3) := by decide +kernel
theorem dX2_sleepIn_10 : decode cX2_sleepIn 10 = .ok (.if_icmp .ge 66, 3) := by decide +kernel
theorem dX2_sleepIn_13 : decode cX2_sleepIn 13 = .ok (.aload_n 0, 1) := by decide +kernel
theorem dX2_sleepIn_14 : decode cX2_sleepIn 14 = .ok (.getfield 9, 3) := by decide +kernel
theorem dX2_sleepIn_17 : decode cX2_sleepIn 17 = .ok (.iload_n 3, 1) := by decide +kernel
theorem dX2_sleepIn_18 : decode cX2_sleepIn 18 = .ok (.iaload, 1) := by decide +kernel
theorem dX2_sleepIn_19 : decode cX2_sleepIn 19 = .ok (.iload_n 1, 1) := by decide +kernel
theorem dX2_sleepIn_20 : decode cX2_sleepIn 20 = .ok (.if_icmp .ne 50, 3) := by decide +kernel
theorem dX2_sleepIn_23 : decode cX2_sleepIn 23 = .ok (.iload_n 2, 1) := by decide +kernel
theorem dX2_sleepIn_24 : decode cX2_sleepIn 24 = .ok (.iload_n 3, 1) := by decide +kernel
theorem dX2_sleepIn_25 : decode cX2_sleepIn 25 = .ok (.ishr, 1) := by decide +kernel
theorem dX2_sleepIn_26 : decode cX2_sleepIn 26 = .ok (.iconst 1, 1) := by decide +kernel
theorem dX2_sleepIn_27 : decode cX2_sleepIn 27 = .ok (.iand, 1) := by decide +kernel
theorem dX2_sleepIn_28 : decode cX2_sleepIn 28 = .ok (.iconst 1, 1) := by decide +kernel
theorem dX2_sleepIn_29 : decode cX2_sleepIn 29 = .ok (.if_icmp .ne 14, 3) := by decide +kernel
theorem dX2_sleepIn_32 : decode cX2_sleepIn 32 = .ok (.aload_n 0, 1) := by decide +kernel
theorem dX2_sleepIn_33 : decode cX2_sleepIn 33 = .ok (.getfield 9, 3) := by decide +kernel
theorem dX2_sleepIn_36 : decode cX2_sleepIn 36 = .ok (.iload_n 3, 1) := by decide +kernel
theorem dX2_sleepIn_37 : decode cX2_sleepIn 37 = .ok (.bipush 9, 2) := by decide +kernel
theorem dX2_sleepIn_39 : decode cX2_sleepIn 39 = .ok (.iastore, 1) := by decide +kernel
theorem dX2_sleepIn_40 : decode cX2_sleepIn 40 = .ok (.goto 30, 3) := by decide +kernel
theorem dX2_sleepIn_43 : decode cX2_sleepIn 43 = .ok (.aload_n 0, 1) := by decide +kernel
theorem dX2_sleepIn_44 : decode cX2_sleepIn 44 = .ok (.getfield 24, 3) := by decide +kernel
theorem dX2_sleepIn_47 : decode cX2_sleepIn 47 = .ok (.iload_n 1, 1) := by decide +kernel
theorem dX2_sleepIn_48 : decode cX2_sleepIn 48 = .ok (.dup2, 1) := by decide +kernel
theorem dX2_sleepIn_49 : decode cX2_sleepIn 49 = .ok (.iaload, 1) := by decide +kernel
theorem dX2_sleepIn_50 : decode cX2_sleepIn 50 = .ok (.iconst 1, 1) := by decide +kernel
theorem dX2_sleepIn_51 : decode cX2_sleepIn 51 = .ok (.iadd, 1) := by decide +kernel
theorem dX2_sleepIn_52 : decode cX2_sleepIn 52 = .ok (.iastore, 1) := by decide +kernel
theorem dX2_sleepIn_53 : decode cX2_sleepIn 53 = .ok (.aload_n 0, 1) := by decide +kernel
theorem dX2_sleepIn_54 : decode cX2_sleepIn 54 = .ok (.getfield 21, 3) := by decide +kernel
theorem dX2_sleepIn_57 : decode cX2_sleepIn 57 = .ok (.iload_n 1, 1) := by decide +kernel
theorem dX2_sleepIn_58 : decode cX2_sleepIn 58 = .ok (.aload_n 0, 1) := by decide +kernel
theorem dX2_sleepIn_59 : decode cX2_sleepIn 59 = .ok (.aload_n 0, 1) := by decide +kernel
theorem dX2_sleepIn_60 : decode cX2_sleepIn 60 = .ok (.getfield 21, 3) := by decide +kernel
theorem dX2_sleepIn_63 : decode cX2_sleepIn 63 = .ok (.iload_n 1, 1) := by decide +kernel
theorem dX2_sleepIn_64 : decode cX2_sleepIn 64 = .ok (.iaload, 1) := by decide +kernel
theorem dX2_sleepIn_65 : decode cX2_sleepIn 65 = .ok (.iload_n 3, 1) := by decide +kernel
theorem dX2_sleepIn_66 : decode cX2_sleepIn 66 = .ok (.invokevirtual 99, 3) := by decide +kernel
theorem dX2_sleepIn_69 : decode cX2_sleepIn 69 = .ok (.iastore, 1) := by decide +kernel
theorem dX2_sleepIn_70 : decode cX2_sleepIn 70 = .ok (.iinc 3 1, 3) := by decide +kernel
theorem dX2_sleepIn_73 : decode cX2_sleepIn 73 = .ok (.goto (-71), 3) := by decide +kernel
theorem dX2_sleepIn_76 : decode cX2_sleepIn 76 = .ok (.return_, 1) := by decide +kernel
theorem dX2_lieOffLonger_0 : decode cX2_lieOffLonger 0 = .ok (.iconst 0, 1) := by decide +kernel
theorem dX2_lieOffLonger_1 : decode cX2_lieOffLonger 1 = .ok (.istore_n 1, 1) := by decide +kernel
theorem dX2_lieOffLonger_2 : decode cX2_lieOffLonger 2 = .ok (.iload_n 1, 1) := by decide +kernel
theorem dX2_lieOffLonger_3 : decode cX2_lieOffLonger 3 = .ok (.aload_n 0, 1) := by decide +kernel
theorem dX2_lieOffLonger_4 : decode cX2_lieOffLonger 4 = .ok (.getfield 31, 3) := by decide +kernel
theorem dX2_lieOffLonger_7 : decode cX2_lieOffLonger 7 = .ok (.getfield 53, 3) := by decide +kernel
theorem dX2_lieOffLonger_10 : decode cX2_lieOffLonger 10 = .ok (.if_icmp .ge 59, 3) := by decide +kernel
theorem dX2_lieOffLonger_13 : decode cX2_lieOffLonger 13 = .ok (.aload_n 0, 1) := by decide +kernel
theorem dX2_lieOffLonger_14 : decode cX2_lieOffLonger 14 = .ok (.iload_n 1, 1) := by decide +kernel
theorem dX2_lieOffLonger_15 : decode cX2_lieOffLonger 15 = .ok (.invokevirtual 93, 3) := by decide +kernel
theorem dX2_lieOffLonger_18 : decode cX2_lieOffLonger 18 = .ok (.ifCond .eq 45, 3) := by decide +kernel
theorem dX2_lieOffLonger_21 : decode cX2_lieOffLonger 21 = .ok (.aload_n 0, 1) := by decide +kernel
theorem dX2_lieOffLonger_22 : decode cX2_lieOffLonger 22 = .ok (.getfield 15, 3) := by decide +kernel
theorem dX2_lieOffLonger_25 : decode cX2_lieOffLonger 25 = .ok (.iload_n 1, 1) := by decide +kernel
theorem dX2_lieOffLonger_26 : decode cX2_lieOffLonger 26 = .ok (.dup2, 1) := by decide +kernel
theorem dX2_lieOffLonger_27 : decode cX2_lieOffLonger 27 = .ok (.iaload, 1) := by decide +kernel
theorem dX2_lieOffLonger_28 : decode cX2_lieOffLonger 28 = .ok (.iconst 1, 1) := by decide +kernel
theorem dX2_lieOffLonger_29 : decode cX2_lieOffLonger 29 = .ok (.iadd, 1) := by decide +kernel
theorem dX2_lieOffLonger_30 : decode cX2_lieOffLonger 30 = .ok (.iastore, 1) := by decide +kernel
theorem dX2_lieOffLonger_31 : decode cX2_lieOffLonger 31 = .ok (.aload_n 0, 1) := by decide +kernel
theorem dX2_lieOffLonger_32 : decode cX2_lieOffLonger 32 = .ok (.getfield 31, 3) := by decide +kernel
theorem dX2_lieOffLonger_35 : decode cX2_lieOffLonger 35 = .ok (.getfield 70, 3) := by decide +kernel
theorem dX2_lieOffLonger_38 : decode cX2_lieOffLonger 38 = .ok (.iload_n 1, 1) := by decide +kernel
theorem dX2_lieOffLonger_39 : decode cX2_lieOffLonger 39 = .ok (.iaload, 1) := by decide +kernel
theorem dX2_lieOffLonger_40 : decode cX2_lieOffLonger 40 = .ok (.iconst 2, 1) := by decide +kernel
theorem dX2_lieOffLonger_41 : decode cX2_lieOffLonger 41 = .ok (.if_icmp .ne 22, 3) := by decide +kernel
theorem dX2_lieOffLonger_44 : decode cX2_lieOffLonger 44 = .ok (.aload_n 0, 1) := by decide +kernel
theorem dX2_lieOffLonger_45 : decode cX2_lieOffLonger 45 = .ok (.getfield 18, 3) := by decide +kernel
theorem dX2_lieOffLonger_48 : decode cX2_lieOffLonger 48 = .ok (.iload_n 1, 1) := by decide +kernel
theorem dX2_lieOffLonger_49 : decode cX2_lieOffLonger 49 = .ok (.bipush 9, 2) := by decide +kernel
theorem dX2_lieOffLonger_51 : decode cX2_lieOffLonger 51 = .ok (.aload_n 0, 1) := by decide +kernel
theorem dX2_lieOffLonger_52 : decode cX2_lieOffLonger 52 = .ok (.getfield 18, 3) := by decide +kernel
theorem dX2_lieOffLonger_55 : decode cX2_lieOffLonger 55 = .ok (.iload_n 1, 1) := by decide +kernel
theorem dX2_lieOffLonger_56 : decode cX2_lieOffLonger 56 = .ok (.iaload, 1) := by decide +kernel
theorem dX2_lieOffLonger_57 : decode cX2_lieOffLonger 57 = .ok (.iconst 1, 1) := by decide +kernel
theorem dX2_lieOffLonger_58 : decode cX2_lieOffLonger 58 = .ok (.iadd, 1) := by decide +kernel
theorem dX2_lieOffLonger_59 : decode cX2_lieOffLonger 59 = .ok (.invokestatic 124, 3) := by decide +kernel
theorem dX2_lieOffLonger_62 : decode cX2_lieOffLonger 62 = .ok (.iastore, 1) := by decide +kernel
theorem dX2_lieOffLonger_63 : decode cX2_lieOffLonger 63 = .ok (.iinc 1 1, 3) := by decide +kernel
theorem dX2_lieOffLonger_66 : decode cX2_lieOffLonger 66 = .ok (.goto (-64), 3) := by decide +kernel
theorem dX2_lieOffLonger_69 : decode cX2_lieOffLonger 69 = .ok (.return_, 1) := by decide +kernel
theorem dX2_bringNightmares_0 : decode cX2_bringNightmares 0 = .ok (.iconst 0, 1) := by decide +kernel
theorem dX2_bringNightmares_1 : decode cX2_bringNightmares 1 = .ok (.istore_n 1, 1) := by decide +kernel
theorem dX2_bringNightmares_2 : decode cX2_bringNightmares 2 = .ok (.iload_n 1, 1) := by decide +kernel
theorem dX2_bringNightmares_3 : decode cX2_bringNightmares 3 = .ok (.aload_n 0, 1) := by decide +kernel
theorem dX2_bringNightmares_4 : decode cX2_bringNightmares 4 = .ok (.getfield 31, 3) := by decide +kernel
theorem dX2_bringNightmares_7 : decode cX2_bringNightmares 7 = .ok (.getfield 53, 3) := by decide +kernel
theorem dX2_bringNightmares_10 : decode cX2_bringNightmares 10 = .ok (.if_icmp .ge 45, 3) := by decide +kernel
theorem dX2_bringNightmares_13 : decode cX2_bringNightmares 13 = .ok (.aload_n 0, 1) := by decide +kernel
theorem dX2_bringNightmares_14 : decode cX2_bringNightmares 14 = .ok (.getfield 31, 3) := by decide +kernel
theorem dX2_bringNightmares_17 : decode cX2_bringNightmares 17 = .ok (.getfield 70, 3) := by decide +kernel
theorem dX2_bringNightmares_20 : decode cX2_bringNightmares 20 = .ok (.iload_n 1, 1) := by decide +kernel
theorem dX2_bringNightmares_21 : decode cX2_bringNightmares 21 = .ok (.iaload, 1) := by decide +kernel
theorem dX2_bringNightmares_22 : decode cX2_bringNightmares 22 = .ok (.iconst 1, 1) := by decide +kernel
theorem dX2_bringNightmares_23 : decode cX2_bringNightmares 23 = .ok (.if_icmp .ne 26, 3) := by decide +kernel
theorem dX2_bringNightmares_26 : decode cX2_bringNightmares 26 = .ok (.aload_n 0, 1) := by decide +kernel
theorem dX2_bringNightmares_27 : decode cX2_bringNightmares 27 = .ok (.iload_n 1, 1) := by decide +kernel
theorem dX2_bringNightmares_28 : decode cX2_bringNightmares 28 = .ok (.invokevirtual 93, 3) := by decide +kernel
theorem dX2_bringNightmares_31 : decode cX2_bringNightmares 31 = .ok (.ifCond .eq 18, 3) := by decide +kernel
theorem dX2_bringNightmares_34 : decode cX2_bringNightmares 34 = .ok (.aload_n 0, 1) := by decide +kernel
theorem dX2_bringNightmares_35 : decode cX2_bringNightmares 35 = .ok (.getfield 15, 3) := by decide +kernel
theorem dX2_bringNightmares_38 : decode cX2_bringNightmares 38 = .ok (.iload_n 1, 1) := by decide +kernel
theorem dX2_bringNightmares_39 : decode cX2_bringNightmares 39 = .ok (.iaload, 1) := by decide +kernel
theorem dX2_bringNightmares_40 : decode cX2_bringNightmares 40 = .ok (.iconst 3, 1) := by decide +kernel
theorem dX2_bringNightmares_41 : decode cX2_bringNightmares 41 = .ok (.if_icmp .lt 8, 3) := by decide +kernel
theorem dX2_bringNightmares_44 : decode cX2_bringNightmares 44 = .ok (.aload_n 0, 1) := by decide +kernel
theorem dX2_bringNightmares_45 : decode cX2_bringNightmares 45 = .ok (.iload_n 1, 1) := by decide +kernel
theorem dX2_bringNightmares_46 : decode cX2_bringNightmares 46 = .ok (.invokevirtual 127, 3) := by decide +kernel
theorem dX2_bringNightmares_49 : decode cX2_bringNightmares 49 = .ok (.iinc 1 1, 3) := by decide +kernel
theorem dX2_bringNightmares_52 : decode cX2_bringNightmares 52 = .ok (.goto (-50), 3) := by decide +kernel
theorem dX2_bringNightmares_55 : decode cX2_bringNightmares 55 = .ok (.return_, 1) := by decide +kernel
theorem dX2_moorInLeast_0 : decode cX2_moorInLeast 0 = .ok (.iconst 0, 1) := by decide +kernel
theorem dX2_moorInLeast_1 : decode cX2_moorInLeast 1 = .ok (.istore_n 2, 1) := by decide +kernel
theorem dX2_moorInLeast_2 : decode cX2_moorInLeast 2 = .ok (.iload_n 2, 1) := by decide +kernel
theorem dX2_moorInLeast_3 : decode cX2_moorInLeast 3 = .ok (.aload_n 0, 1) := by decide +kernel
theorem dX2_moorInLeast_4 : decode cX2_moorInLeast 4 = .ok (.getfield 31, 3) := by decide +kernel
theorem dX2_moorInLeast_7 : decode cX2_moorInLeast 7 = .ok (.getfield 64, 3) := by decide +kernel
theorem dX2_moorInLeast_10 : decode cX2_moorInLeast 10 = .ok (.if_icmp .ge 26, 3) := by decide +kernel
theorem dX2_moorInLeast_13 : decode cX2_moorInLeast 13 = .ok (.aload_n 0, 1) := by decide +kernel
theorem dX2_moorInLeast_14 : decode cX2_moorInLeast 14 = .ok (.iload_n 1, 1) := by decide +kernel
theorem dX2_moorInLeast_15 : decode cX2_moorInLeast 15 = .ok (.iload_n 2, 1) := by decide +kernel
theorem dX2_moorInLeast_16 : decode cX2_moorInLeast 16 = .ok (.invokevirtual 80, 3) := by decide +kernel
theorem dX2_moorInLeast_19 : decode cX2_moorInLeast 19 = .ok (.ifCond .eq 11, 3) := by decide +kernel
theorem dX2_moorInLeast_22 : decode cX2_moorInLeast 22 = .ok (.aload_n 0, 1) := by decide +kernel
theorem dX2_moorInLeast_23 : decode cX2_moorInLeast 23 = .ok (.getfield 9, 3) := by decide +kernel
theorem dX2_moorInLeast_26 : decode cX2_moorInLeast 26 = .ok (.iload_n 1, 1) := by decide +kernel
theorem dX2_moorInLeast_27 : decode cX2_moorInLeast 27 = .ok (.iload_n 2, 1) := by decide +kernel
theorem dX2_moorInLeast_28 : decode cX2_moorInLeast 28 = .ok (.iastore, 1) := by decide +kernel
theorem dX2_moorInLeast_29 : decode cX2_moorInLeast 29 = .ok (.return_, 1) := by decide +kernel
theorem dX2_moorInLeast_30 : decode cX2_moorInLeast 30 = .ok (.iinc 2 1, 3) := by decide +kernel
theorem dX2_moorInLeast_33 : decode cX2_moorInLeast 33 = .ok (.goto (-31), 3) := by decide +kernel
theorem dX2_moorInLeast_36 : decode cX2_moorInLeast 36 = .ok (.return_, 1) := by decide +kernel
theorem dX2_dredge_0 : decode cX2_dredge 0 = .ok (.iconst 0, 1) := by decide +kernel
theorem dX2_dredge_1 : decode cX2_dredge 1 = .ok (.istore_n 1, 1) := by decide +kernel
theorem dX2_dredge_2 : decode cX2_dredge 2 = .ok (.iload_n 1, 1) := by decide +kernel
theorem dX2_dredge_3 : decode cX2_dredge 3 = .ok (.aload_n 0, 1) := by decide +kernel
theorem dX2_dredge_4 : decode cX2_dredge 4 = .ok (.getfield 31, 3) := by decide +kernel
theorem dX2_dredge_7 : decode cX2_dredge 7 = .ok (.getfield 64, 3) := by decide +kernel
theorem dX2_dredge_10 : decode cX2_dredge 10 = .ok (.if_icmp .ge 41, 3) := by decide +kernel
theorem dX2_dredge_13 : decode cX2_dredge 13 = .ok (.aload_n 0, 1) := by decide +kernel
theorem dX2_dredge_14 : decode cX2_dredge 14 = .ok (.getfield 31, 3) := by decide +kernel
theorem dX2_dredge_17 : decode cX2_dredge 17 = .ok (.getfield 67, 3) := by decide +kernel
theorem dX2_dredge_20 : decode cX2_dredge 20 = .ok (.iload_n 1, 1) := by decide +kernel
theorem dX2_dredge_21 : decode cX2_dredge 21 = .ok (.iaload, 1) := by decide +kernel
theorem dX2_dredge_22 : decode cX2_dredge 22 = .ok (.iconst 3, 1) := by decide +kernel
theorem dX2_dredge_23 : decode cX2_dredge 23 = .ok (.if_icmp .ne 22, 3) := by decide +kernel
theorem dX2_dredge_26 : decode cX2_dredge 26 = .ok (.aload_n 0, 1) := by decide +kernel
theorem dX2_dredge_27 : decode cX2_dredge 27 = .ok (.getfield 21, 3) := by decide +kernel
theorem dX2_dredge_30 : decode cX2_dredge 30 = .ok (.iload_n 1, 1) := by decide +kernel
theorem dX2_dredge_31 : decode cX2_dredge 31 = .ok (.bipush 9, 2) := by decide +kernel
theorem dX2_dredge_33 : decode cX2_dredge 33 = .ok (.aload_n 0, 1) := by decide +kernel
theorem dX2_dredge_34 : decode cX2_dredge 34 = .ok (.getfield 21, 3) := by decide +kernel
theorem dX2_dredge_37 : decode cX2_dredge 37 = .ok (.iload_n 1, 1) := by decide +kernel
theorem dX2_dredge_38 : decode cX2_dredge 38 = .ok (.iaload, 1) := by decide +kernel
theorem dX2_dredge_39 : decode cX2_dredge 39 = .ok (.iconst 1, 1) := by decide +kernel
theorem dX2_dredge_40 : decode cX2_dredge 40 = .ok (.iadd, 1) := by decide +kernel
theorem dX2_dredge_41 : decode cX2_dredge 41 = .ok (.invokestatic 124, 3) := by decide +kernel
theorem dX2_dredge_44 : decode cX2_dredge 44 = .ok (.iastore, 1) := by decide +kernel
theorem dX2_dredge_45 : decode cX2_dredge 45 = .ok (.iinc 1 1, 3) := by decide +kernel
theorem dX2_dredge_48 : decode cX2_dredge 48 = .ok (.goto (-46), 3) := by decide +kernel
theorem dX2_dredge_51 : decode cX2_dredge 51 = .ok (.return_, 1) := by decide +kernel
theorem dX2_does_0 : decode cX2_does 0 = .ok (.iload_n 1, 1) := by decide +kernel
theorem dX2_does_1 : decode cX2_does 1 = .ok (.bipush 10, 2) := by decide +kernel
theorem dX2_does_3 : decode cX2_does 3 = .ok (.idiv, 1) := by decide +kernel
theorem dX2_does_4 : decode cX2_does 4 = .ok (.bipush 10, 2) := by decide +kernel
theorem dX2_does_6 : decode cX2_does 6 = .ok (.irem, 1) := by decide +kernel
theorem dX2_does_7 : decode cX2_does 7 = .ok (.istore_n 2, 1) := by decide +kernel
theorem dX2_does_8 : decode cX2_does 8 = .ok (.iload_n 1, 1) := by decide +kernel
theorem dX2_does_9 : decode cX2_does 9 = .ok (.bipush 10, 2) := by decide +kernel
theorem dX2_does_11 : decode cX2_does 11 = .ok (.irem, 1) := by decide +kernel
theorem dX2_does_12 : decode cX2_does 12 = .ok (.istore_n 3, 1) := by decide +kernel
theorem dX2_does_13 : decode cX2_does 13 = .ok (.iload_n 1, 1) := by decide +kernel
theorem dX2_does_14 : decode cX2_does 14 = .ok (.bipush 100, 2) := by decide +kernel
theorem dX2_does_16 : decode cX2_does 16 = .ok (.idiv, 1) := by decide +kernel
theorem dX2_does_17 : decode cX2_does 17 = .ok (.tableswitch 174 0 5 #[39, 52, 59, 77, 109, 147], 39) := by decide +kernel
theorem dX2_does_56 : decode cX2_does 56 = .ok (.iload_n 1, 1) := by decide +kernel
theorem dX2_does_57 : decode cX2_does 57 = .ok (.ifCond .eq 5, 3) := by decide +kernel
theorem dX2_does_60 : decode cX2_does 60 = .ok (.iconst 0, 1) := by decide +kernel
theorem dX2_does_61 : decode cX2_does 61 = .ok (.ireturn, 1) := by decide +kernel
theorem dX2_does_62 : decode cX2_does 62 = .ok (.aload_n 0, 1) := by decide +kernel
theorem dX2_does_63 : decode cX2_does 63 = .ok (.invokevirtual 131, 3) := by decide +kernel
theorem dX2_does_66 : decode cX2_does 66 = .ok (.pop, 1) := by decide +kernel
theorem dX2_does_67 : decode cX2_does 67 = .ok (.iconst 1, 1) := by decide +kernel
theorem dX2_does_68 : decode cX2_does 68 = .ok (.ireturn, 1) := by decide +kernel
theorem dX2_does_69 : decode cX2_does 69 = .ok (.aload_n 0, 1) := by decide +kernel
theorem dX2_does_70 : decode cX2_does 70 = .ok (.iload_n 2, 1) := by decide +kernel
theorem dX2_does_71 : decode cX2_does 71 = .ok (.iload_n 3, 1) := by decide +kernel
theorem dX2_does_72 : decode cX2_does 72 = .ok (.invokevirtual 134, 3) := by decide +kernel
end
section
theorem dX2_does_75 : decode cX2_does 75 = .ok (.ireturn, 1) := by decide +kernel
theorem dX2_does_76 : decode cX2_does 76 = .ok (.iload_n 2, 1) := by decide +kernel
theorem dX2_does_77 : decode cX2_does 77 = .ok (.ifCond .ne 15, 3) := by decide +kernel
theorem dX2_does_80 : decode cX2_does 80 = .ok (.aload_n 0, 1) := by decide +kernel
theorem dX2_does_81 : decode cX2_does 81 = .ok (.iload_n 3, 1) := by decide +kernel
theorem dX2_does_82 : decode cX2_does 82 = .ok (.invokevirtual 137, 3) := by decide +kernel
theorem dX2_does_85 : decode cX2_does 85 = .ok (.ifCond .eq 7, 3) := by decide +kernel
theorem dX2_does_88 : decode cX2_does 88 = .ok (.iconst 1, 1) := by decide +kernel
theorem dX2_does_89 : decode cX2_does 89 = .ok (.goto 4, 3) := by decide +kernel
theorem dX2_does_92 : decode cX2_does 92 = .ok (.iconst 0, 1) := by decide +kernel
theorem dX2_does_93 : decode cX2_does 93 = .ok (.ireturn, 1) := by decide +kernel
theorem dX2_does_94 : decode cX2_does 94 = .ok (.iload_n 2, 1) := by decide +kernel
theorem dX2_does_95 : decode cX2_does 95 = .ok (.ifCond .ne 29, 3) := by decide +kernel
theorem dX2_does_98 : decode cX2_does 98 = .ok (.aload_n 0, 1) := by decide +kernel
theorem dX2_does_99 : decode cX2_does 99 = .ok (.getfield 31, 3) := by decide +kernel
theorem dX2_does_102 : decode cX2_does 102 = .ok (.iload_n 3, 1) := by decide +kernel
theorem dX2_does_103 : decode cX2_does 103 = .ok (.invokevirtual 86, 3) := by decide +kernel
theorem dX2_does_106 : decode cX2_does 106 = .ok (.ifCond .eq 18, 3) := by decide +kernel
theorem dX2_does_109 : decode cX2_does 109 = .ok (.aload_n 0, 1) := by decide +kernel
theorem dX2_does_110 : decode cX2_does 110 = .ok (.getfield 9, 3) := by decide +kernel
theorem dX2_does_113 : decode cX2_does 113 = .ok (.iload_n 3, 1) := by decide +kernel
theorem dX2_does_114 : decode cX2_does 114 = .ok (.iaload, 1) := by decide +kernel
theorem dX2_does_115 : decode cX2_does 115 = .ok (.bipush 9, 2) := by decide +kernel
theorem dX2_does_117 : decode cX2_does 117 = .ok (.if_icmp .ne 7, 3) := by decide +kernel
theorem dX2_does_120 : decode cX2_does 120 = .ok (.iconst 1, 1) := by decide +kernel
theorem dX2_does_121 : decode cX2_does 121 = .ok (.goto 4, 3) := by decide +kernel
theorem dX2_does_124 : decode cX2_does 124 = .ok (.iconst 0, 1) := by decide +kernel
theorem dX2_does_125 : decode cX2_does 125 = .ok (.ireturn, 1) := by decide +kernel
theorem dX2_does_126 : decode cX2_does 126 = .ok (.aload_n 0, 1) := by decide +kernel
theorem dX2_does_127 : decode cX2_does 127 = .ok (.getfield 31, 3) := by decide +kernel
theorem dX2_does_130 : decode cX2_does 130 = .ok (.iload_n 2, 1) := by decide +kernel
theorem dX2_does_131 : decode cX2_does 131 = .ok (.invokevirtual 86, 3) := by decide +kernel
theorem dX2_does_134 : decode cX2_does 134 = .ok (.ifCond .eq 28, 3) := by decide +kernel
theorem dX2_does_137 : decode cX2_does 137 = .ok (.aload_n 0, 1) := by decide +kernel
theorem dX2_does_138 : decode cX2_does 138 = .ok (.getfield 31, 3) := by decide +kernel
theorem dX2_does_141 : decode cX2_does 141 = .ok (.iload_n 3, 1) := by decide +kernel
theorem dX2_does_142 : decode cX2_does 142 = .ok (.invokevirtual 90, 3) := by decide +kernel
theorem dX2_does_145 : decode cX2_does 145 = .ok (.ifCond .eq 17, 3) := by decide +kernel
theorem dX2_does_148 : decode cX2_does 148 = .ok (.aload_n 0, 1) := by decide +kernel
theorem dX2_does_149 : decode cX2_does 149 = .ok (.getfield 9, 3) := by decide +kernel
theorem dX2_does_152 : decode cX2_does 152 = .ok (.iload_n 2, 1) := by decide +kernel
theorem dX2_does_153 : decode cX2_does 153 = .ok (.iaload, 1) := by decide +kernel
theorem dX2_does_154 : decode cX2_does 154 = .ok (.iload_n 3, 1) := by decide +kernel
theorem dX2_does_155 : decode cX2_does 155 = .ok (.if_icmp .ne 7, 3) := by decide +kernel
theorem dX2_does_158 : decode cX2_does 158 = .ok (.iconst 1, 1) := by decide +kernel
theorem dX2_does_159 : decode cX2_does 159 = .ok (.goto 4, 3) := by decide +kernel
theorem dX2_does_162 : decode cX2_does 162 = .ok (.iconst 0, 1) := by decide +kernel
theorem dX2_does_163 : decode cX2_does 163 = .ok (.ireturn, 1) := by decide +kernel
theorem dX2_does_164 : decode cX2_does 164 = .ok (.aload_n 0, 1) := by decide +kernel
theorem dX2_does_165 : decode cX2_does 165 = .ok (.getfield 31, 3) := by decide +kernel
theorem dX2_does_168 : decode cX2_does 168 = .ok (.iload_n 2, 1) := by decide +kernel
theorem dX2_does_169 : decode cX2_does 169 = .ok (.invokevirtual 90, 3) := by decide +kernel
theorem dX2_does_172 : decode cX2_does 172 = .ok (.ifCond .eq 17, 3) := by decide +kernel
theorem dX2_does_175 : decode cX2_does 175 = .ok (.aload_n 0, 1) := by decide +kernel
theorem dX2_does_176 : decode cX2_does 176 = .ok (.getfield 24, 3) := by decide +kernel
theorem dX2_does_179 : decode cX2_does 179 = .ok (.iload_n 2, 1) := by decide +kernel
theorem dX2_does_180 : decode cX2_does 180 = .ok (.iaload, 1) := by decide +kernel
theorem dX2_does_181 : decode cX2_does 181 = .ok (.iload_n 3, 1) := by decide +kernel
theorem dX2_does_182 : decode cX2_does 182 = .ok (.if_icmp .lt 7, 3) := by decide +kernel
theorem dX2_does_185 : decode cX2_does 185 = .ok (.iconst 1, 1) := by decide +kernel
theorem dX2_does_186 : decode cX2_does 186 = .ok (.goto 4, 3) := by decide +kernel
theorem dX2_does_189 : decode cX2_does 189 = .ok (.iconst 0, 1) := by decide +kernel
theorem dX2_does_190 : decode cX2_does 190 = .ok (.ireturn, 1) := by decide +kernel
theorem dX2_does_191 : decode cX2_does 191 = .ok (.iconst 0, 1) := by decide +kernel
theorem dX2_does_192 : decode cX2_does 192 = .ok (.ireturn, 1) := by decide +kernel
theorem dX2_drift_0 : decode cX2_drift 0 = .ok (.iload_n 1, 1) := by decide +kernel
theorem dX2_drift_1 : decode cX2_drift 1 = .ok (.bipush 20, 2) := by decide +kernel
theorem dX2_drift_3 : decode cX2_drift 3 = .ok (.if_icmp .ge 17, 3) := by decide +kernel
theorem dX2_drift_6 : decode cX2_drift 6 = .ok (.aload_n 0, 1) := by decide +kernel
theorem dX2_drift_7 : decode cX2_drift 7 = .ok (.iload_n 1, 1) := by decide +kernel
theorem dX2_drift_8 : decode cX2_drift 8 = .ok (.iconst 4, 1) := by decide +kernel
theorem dX2_drift_9 : decode cX2_drift 9 = .ok (.idiv, 1) := by decide +kernel
theorem dX2_drift_10 : decode cX2_drift 10 = .ok (.iload_n 1, 1) := by decide +kernel
theorem dX2_drift_11 : decode cX2_drift 11 = .ok (.iconst 4, 1) := by decide +kernel
theorem dX2_drift_12 : decode cX2_drift 12 = .ok (.irem, 1) := by decide +kernel
theorem dX2_drift_13 : decode cX2_drift 13 = .ok (.invokevirtual 134, 3) := by decide +kernel
theorem dX2_drift_16 : decode cX2_drift 16 = .ok (.pop, 1) := by decide +kernel
theorem dX2_drift_17 : decode cX2_drift 17 = .ok (.goto 26, 3) := by decide +kernel
theorem dX2_drift_20 : decode cX2_drift 20 = .ok (.iload_n 1, 1) := by decide +kernel
theorem dX2_drift_21 : decode cX2_drift 21 = .ok (.bipush 25, 2) := by decide +kernel
theorem dX2_drift_23 : decode cX2_drift 23 = .ok (.if_icmp .ge 15, 3) := by decide +kernel
theorem dX2_drift_26 : decode cX2_drift 26 = .ok (.aload_n 0, 1) := by decide +kernel
theorem dX2_drift_27 : decode cX2_drift 27 = .ok (.iload_n 1, 1) := by decide +kernel
theorem dX2_drift_28 : decode cX2_drift 28 = .ok (.bipush 20, 2) := by decide +kernel
theorem dX2_drift_30 : decode cX2_drift 30 = .ok (.isub, 1) := by decide +kernel
theorem dX2_drift_31 : decode cX2_drift 31 = .ok (.invokevirtual 137, 3) := by decide +kernel
theorem dX2_drift_34 : decode cX2_drift 34 = .ok (.pop, 1) := by decide +kernel
theorem dX2_drift_35 : decode cX2_drift 35 = .ok (.goto 8, 3) := by decide +kernel
theorem dX2_drift_38 : decode cX2_drift 38 = .ok (.aload_n 0, 1) := by decide +kernel
theorem dX2_drift_39 : decode cX2_drift 39 = .ok (.invokevirtual 131, 3) := by decide +kernel
theorem dX2_drift_42 : decode cX2_drift 42 = .ok (.pop, 1) := by decide +kernel
theorem dX2_drift_43 : decode cX2_drift 43 = .ok (.return_, 1) := by decide +kernel
theorem dX2_moors_0 : decode cX2_moors 0 = .ok (.aload_n 0, 1) := by decide +kernel
theorem dX2_moors_1 : decode cX2_moors 1 = .ok (.iload_n 1, 1) := by decide +kernel
theorem dX2_moors_2 : decode cX2_moors 2 = .ok (.iload_n 2, 1) := by decide +kernel
theorem dX2_moors_3 : decode cX2_moors 3 = .ok (.invokevirtual 140, 3) := by decide +kernel
theorem dX2_moors_6 : decode cX2_moors 6 = .ok (.ifCond .ne 5, 3) := by decide +kernel
theorem dX2_moors_9 : decode cX2_moors 9 = .ok (.iconst 0, 1) := by decide +kernel
theorem dX2_moors_10 : decode cX2_moors 10 = .ok (.ireturn, 1) := by decide +kernel
theorem dX2_moors_11 : decode cX2_moors 11 = .ok (.aload_n 0, 1) := by decide +kernel
theorem dX2_moors_12 : decode cX2_moors 12 = .ok (.getfield 9, 3) := by decide +kernel
theorem dX2_moors_15 : decode cX2_moors 15 = .ok (.iload_n 1, 1) := by decide +kernel
theorem dX2_moors_16 : decode cX2_moors 16 = .ok (.iload_n 2, 1) := by decide +kernel
theorem dX2_moors_17 : decode cX2_moors 17 = .ok (.iastore, 1) := by decide +kernel
theorem dX2_moors_18 : decode cX2_moors 18 = .ok (.iconst 1, 1) := by decide +kernel
theorem dX2_moors_19 : decode cX2_moors 19 = .ok (.ireturn, 1) := by decide +kernel
theorem dX2_tows_0 : decode cX2_tows 0 = .ok (.aload_n 0, 1) := by decide +kernel
theorem dX2_tows_1 : decode cX2_tows 1 = .ok (.iload_n 1, 1) := by decide +kernel
theorem dX2_tows_2 : decode cX2_tows 2 = .ok (.invokevirtual 143, 3) := by decide +kernel
theorem dX2_tows_5 : decode cX2_tows 5 = .ok (.ifCond .ne 5, 3) := by decide +kernel
theorem dX2_tows_8 : decode cX2_tows 8 = .ok (.iconst 0, 1) := by decide +kernel
theorem dX2_tows_9 : decode cX2_tows 9 = .ok (.ireturn, 1) := by decide +kernel
theorem dX2_tows_10 : decode cX2_tows 10 = .ok (.aload_n 0, 1) := by decide +kernel
theorem dX2_tows_11 : decode cX2_tows 11 = .ok (.iload_n 1, 1) := by decide +kernel
theorem dX2_tows_12 : decode cX2_tows 12 = .ok (.invokevirtual 146, 3) := by decide +kernel
theorem dX2_tows_15 : decode cX2_tows 15 = .ok (.iconst 1, 1) := by decide +kernel
theorem dX2_tows_16 : decode cX2_tows 16 = .ok (.ireturn, 1) := by decide +kernel
end
section
theorem dJ6_bitCount_0f7a4_0 : decode cJ6_bitCount_0f7a4 0 = .ok (.iload_n 0, 1) := by decide +kernel
theorem dJ6_bitCount_0f7a4_1 : decode cJ6_bitCount_0f7a4 1 = .ok (.iload_n 0, 1) := by decide +kernel
theorem dJ6_bitCount_0f7a4_2 : decode cJ6_bitCount_0f7a4 2 = .ok (.iconst 1, 1) := by decide +kernel
theorem dJ6_bitCount_0f7a4_3 : decode cJ6_bitCount_0f7a4 3 = .ok (.iushr, 1) := by decide +kernel
theorem dJ6_bitCount_0f7a4_4 : decode cJ6_bitCount_0f7a4 4 = .ok (.ldc_w 265, 3) := by decide +kernel
theorem dJ6_bitCount_0f7a4_7 : decode cJ6_bitCount_0f7a4 7 = .ok (.iand, 1) := by decide +kernel
theorem dJ6_bitCount_0f7a4_8 : decode cJ6_bitCount_0f7a4 8 = .ok (.isub, 1) := by decide +kernel
theorem dJ6_bitCount_0f7a4_9 : decode cJ6_bitCount_0f7a4 9 = .ok (.istore_n 0, 1) := by decide +kernel
theorem dJ6_bitCount_0f7a4_10 : decode cJ6_bitCount_0f7a4 10 = .ok (.iload_n 0, 1) := by decide +kernel
theorem dJ6_bitCount_0f7a4_11 : decode cJ6_bitCount_0f7a4 11 = .ok (.ldc_w 266, 3) := by decide +kernel
theorem dJ6_bitCount_0f7a4_14 : decode cJ6_bitCount_0f7a4 14 = .ok (.iand, 1) := by decide +kernel
theorem dJ6_bitCount_0f7a4_15 : decode cJ6_bitCount_0f7a4 15 = .ok (.iload_n 0, 1) := by decide +kernel
theorem dJ6_bitCount_0f7a4_16 : decode cJ6_bitCount_0f7a4 16 = .ok (.iconst 2, 1) := by decide +kernel
theorem dJ6_bitCount_0f7a4_17 : decode cJ6_bitCount_0f7a4 17 = .ok (.iushr, 1) := by decide +kernel
theorem dJ6_bitCount_0f7a4_18 : decode cJ6_bitCount_0f7a4 18 = .ok (.ldc_w 266, 3) := by decide +kernel
theorem dJ6_bitCount_0f7a4_21 : decode cJ6_bitCount_0f7a4 21 = .ok (.iand, 1) := by decide +kernel
theorem dJ6_bitCount_0f7a4_22 : decode cJ6_bitCount_0f7a4 22 = .ok (.iadd, 1) := by decide +kernel
theorem dJ6_bitCount_0f7a4_23 : decode cJ6_bitCount_0f7a4 23 = .ok (.istore_n 0, 1) := by decide +kernel
theorem dJ6_bitCount_0f7a4_24 : decode cJ6_bitCount_0f7a4 24 = .ok (.iload_n 0, 1) := by decide +kernel
theorem dJ6_bitCount_0f7a4_25 : decode cJ6_bitCount_0f7a4 25 = .ok (.iload_n 0, 1) := by decide +kernel
theorem dJ6_bitCount_0f7a4_26 : decode cJ6_bitCount_0f7a4 26 = .ok (.iconst 4, 1) := by decide +kernel
theorem dJ6_bitCount_0f7a4_27 : decode cJ6_bitCount_0f7a4 27 = .ok (.iushr, 1) := by decide +kernel
theorem dJ6_bitCount_0f7a4_28 : decode cJ6_bitCount_0f7a4 28 = .ok (.iadd, 1) := by decide +kernel
theorem dJ6_bitCount_0f7a4_29 : decode cJ6_bitCount_0f7a4 29 = .ok (.ldc_w 267, 3) := by decide +kernel
theorem dJ6_bitCount_0f7a4_32 : decode cJ6_bitCount_0f7a4 32 = .ok (.iand, 1) := by decide +kernel
theorem dJ6_bitCount_0f7a4_33 : decode cJ6_bitCount_0f7a4 33 = .ok (.istore_n 0, 1) := by decide +kernel
theorem dJ6_bitCount_0f7a4_34 : decode cJ6_bitCount_0f7a4 34 = .ok (.iload_n 0, 1) := by decide +kernel
theorem dJ6_bitCount_0f7a4_35 : decode cJ6_bitCount_0f7a4 35 = .ok (.iload_n 0, 1) := by decide +kernel
theorem dJ6_bitCount_0f7a4_36 : decode cJ6_bitCount_0f7a4 36 = .ok (.bipush 8, 2) := by decide +kernel
theorem dJ6_bitCount_0f7a4_38 : decode cJ6_bitCount_0f7a4 38 = .ok (.iushr, 1) := by decide +kernel
theorem dJ6_bitCount_0f7a4_39 : decode cJ6_bitCount_0f7a4 39 = .ok (.iadd, 1) := by decide +kernel
theorem dJ6_bitCount_0f7a4_40 : decode cJ6_bitCount_0f7a4 40 = .ok (.istore_n 0, 1) := by decide +kernel
theorem dJ6_bitCount_0f7a4_41 : decode cJ6_bitCount_0f7a4 41 = .ok (.iload_n 0, 1) := by decide +kernel
theorem dJ6_bitCount_0f7a4_42 : decode cJ6_bitCount_0f7a4 42 = .ok (.iload_n 0, 1) := by decide +kernel
theorem dJ6_bitCount_0f7a4_43 : decode cJ6_bitCount_0f7a4 43 = .ok (.bipush 16, 2) := by decide +kernel
theorem dJ6_bitCount_0f7a4_45 : decode cJ6_bitCount_0f7a4 45 = .ok (.iushr, 1) := by decide +kernel
theorem dJ6_bitCount_0f7a4_46 : decode cJ6_bitCount_0f7a4 46 = .ok (.iadd, 1) := by decide +kernel
theorem dJ6_bitCount_0f7a4_47 : decode cJ6_bitCount_0f7a4 47 = .ok (.istore_n 0, 1) := by decide +kernel
theorem dJ6_bitCount_0f7a4_48 : decode cJ6_bitCount_0f7a4 48 = .ok (.iload_n 0, 1) := by decide +kernel
theorem dJ6_bitCount_0f7a4_49 : decode cJ6_bitCount_0f7a4 49 = .ok (.bipush 63, 2) := by decide +kernel
theorem dJ6_bitCount_0f7a4_51 : decode cJ6_bitCount_0f7a4 51 = .ok (.iand, 1) := by decide +kernel
theorem dJ6_bitCount_0f7a4_52 : decode cJ6_bitCount_0f7a4 52 = .ok (.ireturn, 1) := by decide +kernel
end
section
theorem dL_law_0 : decode cL_law 0 = .ok (.new 7, 3) := by decide +kernel
theorem dL_law_3 : decode cL_law 3 = .ok (.dup, 1) := by decide +kernel
theorem dL_law_4 : decode cL_law 4 = .ok (.invokespecial 9, 3) := by decide +kernel
theorem dL_law_7 : decode cL_law 7 = .ok (.astore_n 1, 1) := by decide +kernel
theorem dL_law_8 : decode cL_law 8 = .ok (.new 10, 3) := by decide +kernel
theorem dL_law_11 : decode cL_law 11 = .ok (.dup, 1) := by decide +kernel
theorem dL_law_12 : decode cL_law 12 = .ok (.invokespecial 12, 3) := by decide +kernel
theorem dL_law_15 : decode cL_law 15 = .ok (.astore_n 2, 1) := by decide +kernel
theorem dL_law_16 : decode cL_law 16 = .ok (.iconst 0, 1) := by decide +kernel
theorem dL_law_17 : decode cL_law 17 = .ok (.istore_n 3, 1) := by decide +kernel
theorem dL_law_18 : decode cL_law 18 = .ok (.iload_n 3, 1) := by decide +kernel
theorem dL_law_19 : decode cL_law 19 = .ok (.aload_n 0, 1) := by decide +kernel
theorem dL_law_20 : decode cL_law 20 = .ok (.arraylength, 1) := by decide +kernel
theorem dL_law_21 : decode cL_law 21 = .ok (.iconst 4, 1) := by decide +kernel
theorem dL_law_22 : decode cL_law 22 = .ok (.isub, 1) := by decide +kernel
theorem dL_law_23 : decode cL_law 23 = .ok (.if_icmp .gt 949, 3) := by decide +kernel
theorem dL_law_26 : decode cL_law 26 = .ok (.aload_n 0, 1) := by decide +kernel
theorem dL_law_27 : decode cL_law 27 = .ok (.iload_n 3, 1) := by decide +kernel
theorem dL_law_28 : decode cL_law 28 = .ok (.iaload, 1) := by decide +kernel
theorem dL_law_29 : decode cL_law 29 = .ok (.bipush 31, 2) := by decide +kernel
theorem dL_law_31 : decode cL_law 31 = .ok (.iand, 1) := by decide +kernel
theorem dL_law_32 : decode cL_law 32 = .ok (.tableswitch 934 0 26 #[124, 147, 160, 173, 186, 209, 242, 275, 288, 321, 344, 357, 390, 423, 456, 479, 518, 581, 630, 673, 686, 709, 752, 811, 865, 888, 911], 124) := by decide +kernel
theorem dL_law_156 : decode cL_law 156 = .ok (.aload_n 1, 1) := by decide +kernel
theorem dL_law_157 : decode cL_law 157 = .ok (.aload_n 0, 1) := by decide +kernel
theorem dL_law_158 : decode cL_law 158 = .ok (.iload_n 3, 1) := by decide +kernel
theorem dL_law_159 : decode cL_law 159 = .ok (.iconst 1, 1) := by decide +kernel
theorem dL_law_160 : decode cL_law 160 = .ok (.iadd, 1) := by decide +kernel
theorem dL_law_161 : decode cL_law 161 = .ok (.iaload, 1) := by decide +kernel
theorem dL_law_162 : decode cL_law 162 = .ok (.invokevirtual 13, 3) := by decide +kernel
theorem dL_law_165 : decode cL_law 165 = .ok (.aload_n 2, 1) := by decide +kernel
theorem dL_law_166 : decode cL_law 166 = .ok (.aload_n 0, 1) := by decide +kernel
theorem dL_law_167 : decode cL_law 167 = .ok (.iload_n 3, 1) := by decide +kernel
theorem dL_law_168 : decode cL_law 168 = .ok (.iconst 1, 1) := by decide +kernel
theorem dL_law_169 : decode cL_law 169 = .ok (.iadd, 1) := by decide +kernel
theorem dL_law_170 : decode cL_law 170 = .ok (.iaload, 1) := by decide +kernel
theorem dL_law_171 : decode cL_law 171 = .ok (.invokevirtual 17, 3) := by decide +kernel
theorem dL_law_174 : decode cL_law 174 = .ok (.if_icmp .eq 792, 3) := by decide +kernel
theorem dL_law_177 : decode cL_law 177 = .ok (.iconst 0, 1) := by decide +kernel
theorem dL_law_178 : decode cL_law 178 = .ok (.ireturn, 1) := by decide +kernel
theorem dL_law_179 : decode cL_law 179 = .ok (.aload_n 1, 1) := by decide +kernel
theorem dL_law_180 : decode cL_law 180 = .ok (.invokevirtual 18, 3) := by decide +kernel
theorem dL_law_183 : decode cL_law 183 = .ok (.aload_n 2, 1) := by decide +kernel
theorem dL_law_184 : decode cL_law 184 = .ok (.invokevirtual 22, 3) := by decide +kernel
theorem dL_law_187 : decode cL_law 187 = .ok (.if_icmp .eq 779, 3) := by decide +kernel
theorem dL_law_190 : decode cL_law 190 = .ok (.iconst 0, 1) := by decide +kernel
theorem dL_law_191 : decode cL_law 191 = .ok (.ireturn, 1) := by decide +kernel
theorem dL_law_192 : decode cL_law 192 = .ok (.aload_n 1, 1) := by decide +kernel
theorem dL_law_193 : decode cL_law 193 = .ok (.invokevirtual 23, 3) := by decide +kernel
theorem dL_law_196 : decode cL_law 196 = .ok (.aload_n 2, 1) := by decide +kernel
theorem dL_law_197 : decode cL_law 197 = .ok (.invokevirtual 26, 3) := by decide +kernel
theorem dL_law_200 : decode cL_law 200 = .ok (.if_icmp .eq 766, 3) := by decide +kernel
theorem dL_law_203 : decode cL_law 203 = .ok (.iconst 0, 1) := by decide +kernel
theorem dL_law_204 : decode cL_law 204 = .ok (.ireturn, 1) := by decide +kernel
theorem dL_law_205 : decode cL_law 205 = .ok (.aload_n 1, 1) := by decide +kernel
theorem dL_law_206 : decode cL_law 206 = .ok (.invokevirtual 27, 3) := by decide +kernel
theorem dL_law_209 : decode cL_law 209 = .ok (.aload_n 2, 1) := by decide +kernel
theorem dL_law_210 : decode cL_law 210 = .ok (.invokevirtual 30, 3) := by decide +kernel
theorem dL_law_213 : decode cL_law 213 = .ok (.if_icmp .eq 753, 3) := by decide +kernel
theorem dL_law_216 : decode cL_law 216 = .ok (.iconst 0, 1) := by decide +kernel
theorem dL_law_217 : decode cL_law 217 = .ok (.ireturn, 1) := by decide +kernel
theorem dL_law_218 : decode cL_law 218 = .ok (.aload_n 1, 1) := by decide +kernel
theorem dL_law_219 : decode cL_law 219 = .ok (.aload_n 0, 1) := by decide +kernel
theorem dL_law_220 : decode cL_law 220 = .ok (.iload_n 3, 1) := by decide +kernel
theorem dL_law_221 : decode cL_law 221 = .ok (.iconst 1, 1) := by decide +kernel
theorem dL_law_222 : decode cL_law 222 = .ok (.iadd, 1) := by decide +kernel
theorem dL_law_223 : decode cL_law 223 = .ok (.iaload, 1) := by decide +kernel
theorem dL_law_224 : decode cL_law 224 = .ok (.invokevirtual 31, 3) := by decide +kernel
theorem dL_law_227 : decode cL_law 227 = .ok (.aload_n 2, 1) := by decide +kernel
theorem dL_law_228 : decode cL_law 228 = .ok (.aload_n 0, 1) := by decide +kernel
theorem dL_law_229 : decode cL_law 229 = .ok (.iload_n 3, 1) := by decide +kernel
theorem dL_law_230 : decode cL_law 230 = .ok (.iconst 1, 1) := by decide +kernel
theorem dL_law_231 : decode cL_law 231 = .ok (.iadd, 1) := by decide +kernel
theorem dL_law_232 : decode cL_law 232 = .ok (.iaload, 1) := by decide +kernel
theorem dL_law_233 : decode cL_law 233 = .ok (.invokevirtual 34, 3) := by decide +kernel
theorem dL_law_236 : decode cL_law 236 = .ok (.if_icmp .eq 730, 3) := by decide +kernel
theorem dL_law_239 : decode cL_law 239 = .ok (.iconst 0, 1) := by decide +kernel
theorem dL_law_240 : decode cL_law 240 = .ok (.ireturn, 1) := by decide +kernel
theorem dL_law_241 : decode cL_law 241 = .ok (.aload_n 1, 1) := by decide +kernel
theorem dL_law_242 : decode cL_law 242 = .ok (.aload_n 0, 1) := by decide +kernel
theorem dL_law_243 : decode cL_law 243 = .ok (.iload_n 3, 1) := by decide +kernel
theorem dL_law_244 : decode cL_law 244 = .ok (.iconst 1, 1) := by decide +kernel
theorem dL_law_245 : decode cL_law 245 = .ok (.iadd, 1) := by decide +kernel
theorem dL_law_246 : decode cL_law 246 = .ok (.iaload, 1) := by decide +kernel
theorem dL_law_247 : decode cL_law 247 = .ok (.aload_n 0, 1) := by decide +kernel
theorem dL_law_248 : decode cL_law 248 = .ok (.iload_n 3, 1) := by decide +kernel
theorem dL_law_249 : decode cL_law 249 = .ok (.iconst 2, 1) := by decide +kernel
theorem dL_law_250 : decode cL_law 250 = .ok (.iadd, 1) := by decide +kernel
theorem dL_law_251 : decode cL_law 251 = .ok (.iaload, 1) := by decide +kernel
theorem dL_law_252 : decode cL_law 252 = .ok (.invokevirtual 35, 3) := by decide +kernel
theorem dL_law_255 : decode cL_law 255 = .ok (.aload_n 2, 1) := by decide +kernel
theorem dL_law_256 : decode cL_law 256 = .ok (.aload_n 0, 1) := by decide +kernel
theorem dL_law_257 : decode cL_law 257 = .ok (.iload_n 3, 1) := by decide +kernel
theorem dL_law_258 : decode cL_law 258 = .ok (.iconst 1, 1) := by decide +kernel
theorem dL_law_259 : decode cL_law 259 = .ok (.iadd, 1) := by decide +kernel
theorem dL_law_260 : decode cL_law 260 = .ok (.iaload, 1) := by decide +kernel
theorem dL_law_261 : decode cL_law 261 = .ok (.aload_n 0, 1) := by decide +kernel
theorem dL_law_262 : decode cL_law 262 = .ok (.iload_n 3, 1) := by decide +kernel
theorem dL_law_263 : decode cL_law 263 = .ok (.iconst 2, 1) := by decide +kernel
theorem dL_law_264 : decode cL_law 264 = .ok (.iadd, 1) := by decide +kernel
theorem dL_law_265 : decode cL_law 265 = .ok (.iaload, 1) := by decide +kernel
theorem dL_law_266 : decode cL_law 266 = .ok (.invokevirtual 39, 3) := by decide +kernel
theorem dL_law_269 : decode cL_law 269 = .ok (.if_icmp .eq 697, 3) := by decide +kernel
theorem dL_law_272 : decode cL_law 272 = .ok (.iconst 0, 1) := by decide +kernel
theorem dL_law_273 : decode cL_law 273 = .ok (.ireturn, 1) := by decide +kernel
theorem dL_law_274 : decode cL_law 274 = .ok (.aload_n 1, 1) := by decide +kernel
theorem dL_law_275 : decode cL_law 275 = .ok (.aload_n 0, 1) := by decide +kernel
theorem dL_law_276 : decode cL_law 276 = .ok (.iload_n 3, 1) := by decide +kernel
theorem dL_law_277 : decode cL_law 277 = .ok (.iconst 1, 1) := by decide +kernel
theorem dL_law_278 : decode cL_law 278 = .ok (.iadd, 1) := by decide +kernel
theorem dL_law_279 : decode cL_law 279 = .ok (.iaload, 1) := by decide +kernel
theorem dL_law_280 : decode cL_law 280 = .ok (.aload_n 0, 1) := by decide +kernel
theorem dL_law_281 : decode cL_law 281 = .ok (.iload_n 3, 1) := by decide +kernel
theorem dL_law_282 : decode cL_law 282 = .ok (.iconst 2, 1) := by decide +kernel
theorem dL_law_283 : decode cL_law 283 = .ok (.iadd, 1) := by decide +kernel
theorem dL_law_284 : decode cL_law 284 = .ok (.iaload, 1) := by decide +kernel
theorem dL_law_285 : decode cL_law 285 = .ok (.invokevirtual 40, 3) := by decide +kernel
theorem dL_law_288 : decode cL_law 288 = .ok (.aload_n 2, 1) := by decide +kernel
theorem dL_law_289 : decode cL_law 289 = .ok (.aload_n 0, 1) := by decide +kernel
theorem dL_law_290 : decode cL_law 290 = .ok (.iload_n 3, 1) := by decide +kernel
theorem dL_law_291 : decode cL_law 291 = .ok (.iconst 1, 1) := by decide +kernel
theorem dL_law_292 : decode cL_law 292 = .ok (.iadd, 1) := by decide +kernel
theorem dL_law_293 : decode cL_law 293 = .ok (.iaload, 1) := by decide +kernel
theorem dL_law_294 : decode cL_law 294 = .ok (.aload_n 0, 1) := by decide +kernel
theorem dL_law_295 : decode cL_law 295 = .ok (.iload_n 3, 1) := by decide +kernel
theorem dL_law_296 : decode cL_law 296 = .ok (.iconst 2, 1) := by decide +kernel
theorem dL_law_297 : decode cL_law 297 = .ok (.iadd, 1) := by decide +kernel
theorem dL_law_298 : decode cL_law 298 = .ok (.iaload, 1) := by decide +kernel
theorem dL_law_299 : decode cL_law 299 = .ok (.invokevirtual 43, 3) := by decide +kernel
theorem dL_law_302 : decode cL_law 302 = .ok (.if_icmp .eq 664, 3) := by decide +kernel
theorem dL_law_305 : decode cL_law 305 = .ok (.iconst 0, 1) := by decide +kernel
theorem dL_law_306 : decode cL_law 306 = .ok (.ireturn, 1) := by decide +kernel
theorem dL_law_307 : decode cL_law 307 = .ok (.aload_n 1, 1) := by decide +kernel
theorem dL_law_308 : decode cL_law 308 = .ok (.invokevirtual 44, 3) := by decide +kernel
theorem dL_law_311 : decode cL_law 311 = .ok (.aload_n 2, 1) := by decide +kernel
theorem dL_law_312 : decode cL_law 312 = .ok (.invokevirtual 47, 3) := by decide +kernel
theorem dL_law_315 : decode cL_law 315 = .ok (.if_icmp .eq 651, 3) := by decide +kernel
theorem dL_law_318 : decode cL_law 318 = .ok (.iconst 0, 1) := by decide +kernel
theorem dL_law_319 : decode cL_law 319 = .ok (.ireturn, 1) := by decide +kernel
theorem dL_law_320 : decode cL_law 320 = .ok (.aload_n 1, 1) := by decide +kernel
theorem dL_law_321 : decode cL_law 321 = .ok (.aload_n 0, 1) := by decide +kernel
theorem dL_law_322 : decode cL_law 322 = .ok (.iload_n 3, 1) := by decide +kernel
theorem dL_law_323 : decode cL_law 323 = .ok (.iconst 1, 1) := by decide +kernel
theorem dL_law_324 : decode cL_law 324 = .ok (.iadd, 1) := by decide +kernel
theorem dL_law_325 : decode cL_law 325 = .ok (.iaload, 1) := by decide +kernel
theorem dL_law_326 : decode cL_law 326 = .ok (.aload_n 0, 1) := by decide +kernel
theorem dL_law_327 : decode cL_law 327 = .ok (.iload_n 3, 1) := by decide +kernel
theorem dL_law_328 : decode cL_law 328 = .ok (.iconst 2, 1) := by decide +kernel
theorem dL_law_329 : decode cL_law 329 = .ok (.iadd, 1) := by decide +kernel
theorem dL_law_330 : decode cL_law 330 = .ok (.iaload, 1) := by decide +kernel
theorem dL_law_331 : decode cL_law 331 = .ok (.invokevirtual 48, 3) := by decide +kernel
theorem dL_law_334 : decode cL_law 334 = .ok (.aload_n 2, 1) := by decide +kernel
theorem dL_law_335 : decode cL_law 335 = .ok (.aload_n 0, 1) := by decide +kernel
theorem dL_law_336 : decode cL_law 336 = .ok (.iload_n 3, 1) := by decide +kernel
theorem dL_law_337 : decode cL_law 337 = .ok (.iconst 1, 1) := by decide +kernel
theorem dL_law_338 : decode cL_law 338 = .ok (.iadd, 1) := by decide +kernel
theorem dL_law_339 : decode cL_law 339 = .ok (.iaload, 1) := by decide +kernel
theorem dL_law_340 : decode cL_law 340 = .ok (.aload_n 0, 1) := by decide +kernel
theorem dL_law_341 : decode cL_law 341 = .ok (.iload_n 3, 1) := by decide +kernel
theorem dL_law_342 : decode cL_law 342 = .ok (.iconst 2, 1) := by decide +kernel
theorem dL_law_343 : decode cL_law 343 = .ok (.iadd, 1) := by decide +kernel
theorem dL_law_344 : decode cL_law 344 = .ok (.iaload, 1) := by decide +kernel
theorem dL_law_345 : decode cL_law 345 = .ok (.invokevirtual 51, 3) := by decide +kernel
theorem dL_law_348 : decode cL_law 348 = .ok (.if_icmp .eq 618, 3) := by decide +kernel
theorem dL_law_351 : decode cL_law 351 = .ok (.iconst 0, 1) := by decide +kernel
theorem dL_law_352 : decode cL_law 352 = .ok (.ireturn, 1) := by decide +kernel
theorem dL_law_353 : decode cL_law 353 = .ok (.aload_n 1, 1) := by decide +kernel
theorem dL_law_354 : decode cL_law 354 = .ok (.aload_n 0, 1) := by decide +kernel
theorem dL_law_355 : decode cL_law 355 = .ok (.iload_n 3, 1) := by decide +kernel
theorem dL_law_356 : decode cL_law 356 = .ok (.iconst 1, 1) := by decide +kernel
theorem dL_law_357 : decode cL_law 357 = .ok (.iadd, 1) := by decide +kernel
theorem dL_law_358 : decode cL_law 358 = .ok (.iaload, 1) := by decide +kernel
theorem dL_law_359 : decode cL_law 359 = .ok (.invokevirtual 52, 3) := by decide +kernel
theorem dL_law_362 : decode cL_law 362 = .ok (.aload_n 2, 1) := by decide +kernel
theorem dL_law_363 : decode cL_law 363 = .ok (.aload_n 0, 1) := by decide +kernel
theorem dL_law_364 : decode cL_law 364 = .ok (.iload_n 3, 1) := by decide +kernel
theorem dL_law_365 : decode cL_law 365 = .ok (.iconst 1, 1) := by decide +kernel
theorem dL_law_366 : decode cL_law 366 = .ok (.iadd, 1) := by decide +kernel
theorem dL_law_367 : decode cL_law 367 = .ok (.iaload, 1) := by decide +kernel
theorem dL_law_368 : decode cL_law 368 = .ok (.invokevirtual 55, 3) := by decide +kernel
theorem dL_law_371 : decode cL_law 371 = .ok (.if_icmp .eq 595, 3) := by decide +kernel
theorem dL_law_374 : decode cL_law 374 = .ok (.iconst 0, 1) := by decide +kernel
theorem dL_law_375 : decode cL_law 375 = .ok (.ireturn, 1) := by decide +kernel
theorem dL_law_376 : decode cL_law 376 = .ok (.aload_n 1, 1) := by decide +kernel
theorem dL_law_377 : decode cL_law 377 = .ok (.invokevirtual 56, 3) := by decide +kernel
theorem dL_law_380 : decode cL_law 380 = .ok (.aload_n 2, 1) := by decide +kernel
theorem dL_law_381 : decode cL_law 381 = .ok (.invokevirtual 59, 3) := by decide +kernel
theorem dL_law_384 : decode cL_law 384 = .ok (.if_icmp .eq 582, 3) := by decide +kernel
theorem dL_law_387 : decode cL_law 387 = .ok (.iconst 0, 1) := by decide +kernel
theorem dL_law_388 : decode cL_law 388 = .ok (.ireturn, 1) := by decide +kernel
theorem dL_law_389 : decode cL_law 389 = .ok (.aload_n 1, 1) := by decide +kernel
theorem dL_law_390 : decode cL_law 390 = .ok (.aload_n 0, 1) := by decide +kernel
theorem dL_law_391 : decode cL_law 391 = .ok (.iload_n 3, 1) := by decide +kernel
theorem dL_law_392 : decode cL_law 392 = .ok (.iconst 1, 1) := by decide +kernel
theorem dL_law_393 : decode cL_law 393 = .ok (.iadd, 1) := by decide +kernel
theorem dL_law_394 : decode cL_law 394 = .ok (.iaload, 1) := by decide +kernel
theorem dL_law_395 : decode cL_law 395 = .ok (.aload_n 0, 1) := by decide +kernel
theorem dL_law_396 : decode cL_law 396 = .ok (.iload_n 3, 1) := by decide +kernel
theorem dL_law_397 : decode cL_law 397 = .ok (.iconst 2, 1) := by decide +kernel
theorem dL_law_398 : decode cL_law 398 = .ok (.iadd, 1) := by decide +kernel
theorem dL_law_399 : decode cL_law 399 = .ok (.iaload, 1) := by decide +kernel
theorem dL_law_400 : decode cL_law 400 = .ok (.invokevirtual 60, 3) := by decide +kernel
theorem dL_law_403 : decode cL_law 403 = .ok (.aload_n 2, 1) := by decide +kernel
theorem dL_law_404 : decode cL_law 404 = .ok (.aload_n 0, 1) := by decide +kernel
theorem dL_law_405 : decode cL_law 405 = .ok (.iload_n 3, 1) := by decide +kernel
theorem dL_law_406 : decode cL_law 406 = .ok (.iconst 1, 1) := by decide +kernel
theorem dL_law_407 : decode cL_law 407 = .ok (.iadd, 1) := by decide +kernel
theorem dL_law_408 : decode cL_law 408 = .ok (.iaload, 1) := by decide +kernel
theorem dL_law_409 : decode cL_law 409 = .ok (.aload_n 0, 1) := by decide +kernel
theorem dL_law_410 : decode cL_law 410 = .ok (.iload_n 3, 1) := by decide +kernel
theorem dL_law_411 : decode cL_law 411 = .ok (.iconst 2, 1) := by decide +kernel
theorem dL_law_412 : decode cL_law 412 = .ok (.iadd, 1) := by decide +kernel
theorem dL_law_413 : decode cL_law 413 = .ok (.iaload, 1) := by decide +kernel
theorem dL_law_414 : decode cL_law 414 = .ok (.invokevirtual 63, 3) := by decide +kernel
theorem dL_law_417 : decode cL_law 417 = .ok (.if_icmp .eq 549, 3) := by decide +kernel
theorem dL_law_420 : decode cL_law 420 = .ok (.iconst 0, 1) := by decide +kernel
theorem dL_law_421 : decode cL_law 421 = .ok (.ireturn, 1) := by decide +kernel
theorem dL_law_422 : decode cL_law 422 = .ok (.aload_n 1, 1) := by decide +kernel
theorem dL_law_423 : decode cL_law 423 = .ok (.aload_n 0, 1) := by decide +kernel
theorem dL_law_424 : decode cL_law 424 = .ok (.iload_n 3, 1) := by decide +kernel
theorem dL_law_425 : decode cL_law 425 = .ok (.iconst 1, 1) := by decide +kernel
theorem dL_law_426 : decode cL_law 426 = .ok (.iadd, 1) := by decide +kernel
theorem dL_law_427 : decode cL_law 427 = .ok (.iaload, 1) := by decide +kernel
theorem dL_law_428 : decode cL_law 428 = .ok (.aload_n 0, 1) := by decide +kernel
theorem dL_law_429 : decode cL_law 429 = .ok (.iload_n 3, 1) := by decide +kernel
theorem dL_law_430 : decode cL_law 430 = .ok (.iconst 2, 1) := by decide +kernel
theorem dL_law_431 : decode cL_law 431 = .ok (.iadd, 1) := by decide +kernel
theorem dL_law_432 : decode cL_law 432 = .ok (.iaload, 1) := by decide +kernel
theorem dL_law_433 : decode cL_law 433 = .ok (.invokevirtual 64, 3) := by decide +kernel
theorem dL_law_436 : decode cL_law 436 = .ok (.aload_n 2, 1) := by decide +kernel
theorem dL_law_437 : decode cL_law 437 = .ok (.aload_n 0, 1) := by decide +kernel
theorem dL_law_438 : decode cL_law 438 = .ok (.iload_n 3, 1) := by decide +kernel
theorem dL_law_439 : decode cL_law 439 = .ok (.iconst 1, 1) := by decide +kernel
theorem dL_law_440 : decode cL_law 440 = .ok (.iadd, 1) := by decide +kernel
theorem dL_law_441 : decode cL_law 441 = .ok (.iaload, 1) := by decide +kernel
theorem dL_law_442 : decode cL_law 442 = .ok (.aload_n 0, 1) := by decide +kernel
theorem dL_law_443 : decode cL_law 443 = .ok (.iload_n 3, 1) := by decide +kernel
theorem dL_law_444 : decode cL_law 444 = .ok (.iconst 2, 1) := by decide +kernel
theorem dL_law_445 : decode cL_law 445 = .ok (.iadd, 1) := by decide +kernel
theorem dL_law_446 : decode cL_law 446 = .ok (.iaload, 1) := by decide +kernel
theorem dL_law_447 : decode cL_law 447 = .ok (.invokevirtual 67, 3) := by decide +kernel
theorem dL_law_450 : decode cL_law 450 = .ok (.if_icmp .eq 516, 3) := by decide +kernel
theorem dL_law_453 : decode cL_law 453 = .ok (.iconst 0, 1) := by decide +kernel
theorem dL_law_454 : decode cL_law 454 = .ok (.ireturn, 1) := by decide +kernel
theorem dL_law_455 : decode cL_law 455 = .ok (.aload_n 1, 1) := by decide +kernel
theorem dL_law_456 : decode cL_law 456 = .ok (.aload_n 0, 1) := by decide +kernel
theorem dL_law_457 : decode cL_law 457 = .ok (.iload_n 3, 1) := by decide +kernel
theorem dL_law_458 : decode cL_law 458 = .ok (.iconst 1, 1) := by decide +kernel
theorem dL_law_459 : decode cL_law 459 = .ok (.iadd, 1) := by decide +kernel
theorem dL_law_460 : decode cL_law 460 = .ok (.iaload, 1) := by decide +kernel
theorem dL_law_461 : decode cL_law 461 = .ok (.aload_n 0, 1) := by decide +kernel
theorem dL_law_462 : decode cL_law 462 = .ok (.iload_n 3, 1) := by decide +kernel
theorem dL_law_463 : decode cL_law 463 = .ok (.iconst 2, 1) := by decide +kernel
theorem dL_law_464 : decode cL_law 464 = .ok (.iadd, 1) := by decide +kernel
theorem dL_law_465 : decode cL_law 465 = .ok (.iaload, 1) := by decide +kernel
theorem dL_law_466 : decode cL_law 466 = .ok (.invokevirtual 68, 3) := by decide +kernel
theorem dL_law_469 : decode cL_law 469 = .ok (.aload_n 2, 1) := by decide +kernel
theorem dL_law_470 : decode cL_law 470 = .ok (.aload_n 0, 1) := by decide +kernel
theorem dL_law_471 : decode cL_law 471 = .ok (.iload_n 3, 1) := by decide +kernel
theorem dL_law_472 : decode cL_law 472 = .ok (.iconst 1, 1) := by decide +kernel
theorem dL_law_473 : decode cL_law 473 = .ok (.iadd, 1) := by decide +kernel
theorem dL_law_474 : decode cL_law 474 = .ok (.iaload, 1) := by decide +kernel
theorem dL_law_475 : decode cL_law 475 = .ok (.aload_n 0, 1) := by decide +kernel
theorem dL_law_476 : decode cL_law 476 = .ok (.iload_n 3, 1) := by decide +kernel
theorem dL_law_477 : decode cL_law 477 = .ok (.iconst 2, 1) := by decide +kernel
theorem dL_law_478 : decode cL_law 478 = .ok (.iadd, 1) := by decide +kernel
theorem dL_law_479 : decode cL_law 479 = .ok (.iaload, 1) := by decide +kernel
theorem dL_law_480 : decode cL_law 480 = .ok (.invokevirtual 71, 3) := by decide +kernel
theorem dL_law_483 : decode cL_law 483 = .ok (.if_icmp .eq 483, 3) := by decide +kernel
theorem dL_law_486 : decode cL_law 486 = .ok (.iconst 0, 1) := by decide +kernel
theorem dL_law_487 : decode cL_law 487 = .ok (.ireturn, 1) := by decide +kernel
theorem dL_law_488 : decode cL_law 488 = .ok (.aload_n 1, 1) := by decide +kernel
theorem dL_law_489 : decode cL_law 489 = .ok (.aload_n 0, 1) := by decide +kernel
theorem dL_law_490 : decode cL_law 490 = .ok (.iload_n 3, 1) := by decide +kernel
theorem dL_law_491 : decode cL_law 491 = .ok (.iconst 1, 1) := by decide +kernel
theorem dL_law_492 : decode cL_law 492 = .ok (.iadd, 1) := by decide +kernel
theorem dL_law_493 : decode cL_law 493 = .ok (.iaload, 1) := by decide +kernel
theorem dL_law_494 : decode cL_law 494 = .ok (.invokevirtual 72, 3) := by decide +kernel
theorem dL_law_497 : decode cL_law 497 = .ok (.aload_n 2, 1) := by decide +kernel
theorem dL_law_498 : decode cL_law 498 = .ok (.aload_n 0, 1) := by decide +kernel
theorem dL_law_499 : decode cL_law 499 = .ok (.iload_n 3, 1) := by decide +kernel
theorem dL_law_500 : decode cL_law 500 = .ok (.iconst 1, 1) := by decide +kernel
theorem dL_law_501 : decode cL_law 501 = .ok (.iadd, 1) := by decide +kernel
theorem dL_law_502 : decode cL_law 502 = .ok (.iaload, 1) := by decide +kernel
theorem dL_law_503 : decode cL_law 503 = .ok (.invokevirtual 75, 3) := by decide +kernel
theorem dL_law_506 : decode cL_law 506 = .ok (.if_icmp .eq 460, 3) := by decide +kernel
theorem dL_law_509 : decode cL_law 509 = .ok (.iconst 0, 1) := by decide +kernel
theorem dL_law_510 : decode cL_law 510 = .ok (.ireturn, 1) := by decide +kernel
theorem dL_law_511 : decode cL_law 511 = .ok (.aload_n 1, 1) := by decide +kernel
theorem dL_law_512 : decode cL_law 512 = .ok (.aload_n 0, 1) := by decide +kernel
theorem dL_law_513 : decode cL_law 513 = .ok (.iload_n 3, 1) := by decide +kernel
theorem dL_law_514 : decode cL_law 514 = .ok (.iconst 1, 1) := by decide +kernel
theorem dL_law_515 : decode cL_law 515 = .ok (.iadd, 1) := by decide +kernel
theorem dL_law_516 : decode cL_law 516 = .ok (.iaload, 1) := by decide +kernel
theorem dL_law_517 : decode cL_law 517 = .ok (.ifCond .eq 7, 3) := by decide +kernel
theorem dL_law_520 : decode cL_law 520 = .ok (.iconst 1, 1) := by decide +kernel
theorem dL_law_521 : decode cL_law 521 = .ok (.goto 4, 3) := by decide +kernel
theorem dL_law_524 : decode cL_law 524 = .ok (.iconst 0, 1) := by decide +kernel
theorem dL_law_525 : decode cL_law 525 = .ok (.invokevirtual 76, 3) := by decide +kernel
theorem dL_law_528 : decode cL_law 528 = .ok (.aload_n 2, 1) := by decide +kernel
theorem dL_law_529 : decode cL_law 529 = .ok (.aload_n 0, 1) := by decide +kernel
theorem dL_law_530 : decode cL_law 530 = .ok (.iload_n 3, 1) := by decide +kernel
theorem dL_law_531 : decode cL_law 531 = .ok (.iconst 1, 1) := by decide +kernel
theorem dL_law_532 : decode cL_law 532 = .ok (.iadd, 1) := by decide +kernel
theorem dL_law_533 : decode cL_law 533 = .ok (.iaload, 1) := by decide +kernel
theorem dL_law_534 : decode cL_law 534 = .ok (.ifCond .eq 7, 3) := by decide +kernel
theorem dL_law_537 : decode cL_law 537 = .ok (.iconst 1, 1) := by decide +kernel
theorem dL_law_538 : decode cL_law 538 = .ok (.goto 4, 3) := by decide +kernel
theorem dL_law_541 : decode cL_law 541 = .ok (.iconst 0, 1) := by decide +kernel
theorem dL_law_542 : decode cL_law 542 = .ok (.invokevirtual 80, 3) := by decide +kernel
theorem dL_law_545 : decode cL_law 545 = .ok (.if_icmp .eq 421, 3) := by decide +kernel
theorem dL_law_548 : decode cL_law 548 = .ok (.iconst 0, 1) := by decide +kernel
theorem dL_law_549 : decode cL_law 549 = .ok (.ireturn, 1) := by decide +kernel
theorem dL_law_550 : decode cL_law 550 = .ok (.aload_n 1, 1) := by decide +kernel
theorem dL_law_551 : decode cL_law 551 = .ok (.aload_n 0, 1) := by decide +kernel
theorem dL_law_552 : decode cL_law 552 = .ok (.iload_n 3, 1) := by decide +kernel
theorem dL_law_553 : decode cL_law 553 = .ok (.iconst 1, 1) := by decide +kernel
theorem dL_law_554 : decode cL_law 554 = .ok (.iadd, 1) := by decide +kernel
theorem dL_law_555 : decode cL_law 555 = .ok (.iaload, 1) := by decide +kernel
theorem dL_law_556 : decode cL_law 556 = .ok (.aload_n 0, 1) := by decide +kernel
theorem dL_law_557 : decode cL_law 557 = .ok (.iload_n 3, 1) := by decide +kernel
theorem dL_law_558 : decode cL_law 558 = .ok (.iconst 2, 1) := by decide +kernel
theorem dL_law_559 : decode cL_law 559 = .ok (.iadd, 1) := by decide +kernel
theorem dL_law_560 : decode cL_law 560 = .ok (.iaload, 1) := by decide +kernel
theorem dL_law_561 : decode cL_law 561 = .ok (.i2l, 1) := by decide +kernel
theorem dL_law_562 : decode cL_law 562 = .ok (.bipush 32, 2) := by decide +kernel
theorem dL_law_564 : decode cL_law 564 = .ok (.lshl, 1) := by decide +kernel
theorem dL_law_565 : decode cL_law 565 = .ok (.aload_n 0, 1) := by decide +kernel
theorem dL_law_566 : decode cL_law 566 = .ok (.iload_n 3, 1) := by decide +kernel
theorem dL_law_567 : decode cL_law 567 = .ok (.iconst 3, 1) := by decide +kernel
theorem dL_law_568 : decode cL_law 568 = .ok (.iadd, 1) := by decide +kernel
theorem dL_law_569 : decode cL_law 569 = .ok (.iaload, 1) := by decide +kernel
theorem dL_law_570 : decode cL_law 570 = .ok (.i2l, 1) := by decide +kernel
theorem dL_law_571 : decode cL_law 571 = .ok (.ldc2_w 81, 3) := by decide +kernel
theorem dL_law_574 : decode cL_law 574 = .ok (.land, 1) := by decide +kernel
theorem dL_law_575 : decode cL_law 575 = .ok (.lor, 1) := by decide +kernel
theorem dL_law_576 : decode cL_law 576 = .ok (.invokevirtual 83, 3) := by decide +kernel
theorem dL_law_579 : decode cL_law 579 = .ok (.aload_n 2, 1) := by decide +kernel
theorem dL_law_580 : decode cL_law 580 = .ok (.aload_n 0, 1) := by decide +kernel
theorem dL_law_581 : decode cL_law 581 = .ok (.iload_n 3, 1) := by decide +kernel
theorem dL_law_582 : decode cL_law 582 = .ok (.iconst 1, 1) := by decide +kernel
theorem dL_law_583 : decode cL_law 583 = .ok (.iadd, 1) := by decide +kernel
theorem dL_law_584 : decode cL_law 584 = .ok (.iaload, 1) := by decide +kernel
theorem dL_law_585 : decode cL_law 585 = .ok (.aload_n 0, 1) := by decide +kernel
theorem dL_law_586 : decode cL_law 586 = .ok (.iload_n 3, 1) := by decide +kernel
theorem dL_law_587 : decode cL_law 587 = .ok (.iconst 2, 1) := by decide +kernel
theorem dL_law_588 : decode cL_law 588 = .ok (.iadd, 1) := by decide +kernel
theorem dL_law_589 : decode cL_law 589 = .ok (.iaload, 1) := by decide +kernel
theorem dL_law_590 : decode cL_law 590 = .ok (.i2l, 1) := by decide +kernel
theorem dL_law_591 : decode cL_law 591 = .ok (.bipush 32, 2) := by decide +kernel
theorem dL_law_593 : decode cL_law 593 = .ok (.lshl, 1) := by decide +kernel
theorem dL_law_594 : decode cL_law 594 = .ok (.aload_n 0, 1) := by decide +kernel
theorem dL_law_595 : decode cL_law 595 = .ok (.iload_n 3, 1) := by decide +kernel
theorem dL_law_596 : decode cL_law 596 = .ok (.iconst 3, 1) := by decide +kernel
theorem dL_law_597 : decode cL_law 597 = .ok (.iadd, 1) := by decide +kernel
theorem dL_law_598 : decode cL_law 598 = .ok (.iaload, 1) := by decide +kernel
theorem dL_law_599 : decode cL_law 599 = .ok (.i2l, 1) := by decide +kernel
theorem dL_law_600 : decode cL_law 600 = .ok (.ldc2_w 81, 3) := by decide +kernel
theorem dL_law_603 : decode cL_law 603 = .ok (.land, 1) := by decide +kernel
theorem dL_law_604 : decode cL_law 604 = .ok (.lor, 1) := by decide +kernel
theorem dL_law_605 : decode cL_law 605 = .ok (.invokevirtual 87, 3) := by decide +kernel
theorem dL_law_608 : decode cL_law 608 = .ok (.if_icmp .eq 358, 3) := by decide +kernel
theorem dL_law_611 : decode cL_law 611 = .ok (.iconst 0, 1) := by decide +kernel
theorem dL_law_612 : decode cL_law 612 = .ok (.ireturn, 1) := by decide +kernel
theorem dL_law_613 : decode cL_law 613 = .ok (.aload_n 1, 1) := by decide +kernel
theorem dL_law_614 : decode cL_law 614 = .ok (.aload_n 0, 1) := by decide +kernel
theorem dL_law_615 : decode cL_law 615 = .ok (.iload_n 3, 1) := by decide +kernel
theorem dL_law_616 : decode cL_law 616 = .ok (.iconst 1, 1) := by decide +kernel
theorem dL_law_617 : decode cL_law 617 = .ok (.iadd, 1) := by decide +kernel
theorem dL_law_618 : decode cL_law 618 = .ok (.iaload, 1) := by decide +kernel
theorem dL_law_619 : decode cL_law 619 = .ok (.aload_n 0, 1) := by decide +kernel
theorem dL_law_620 : decode cL_law 620 = .ok (.iload_n 3, 1) := by decide +kernel
theorem dL_law_621 : decode cL_law 621 = .ok (.iconst 2, 1) := by decide +kernel
theorem dL_law_622 : decode cL_law 622 = .ok (.iadd, 1) := by decide +kernel
theorem dL_law_623 : decode cL_law 623 = .ok (.iaload, 1) := by decide +kernel
theorem dL_law_624 : decode cL_law 624 = .ok (.ifCond .eq 7, 3) := by decide +kernel
theorem dL_law_627 : decode cL_law 627 = .ok (.iconst 1, 1) := by decide +kernel
theorem dL_law_628 : decode cL_law 628 = .ok (.goto 4, 3) := by decide +kernel
theorem dL_law_631 : decode cL_law 631 = .ok (.iconst 0, 1) := by decide +kernel
theorem dL_law_632 : decode cL_law 632 = .ok (.invokevirtual 88, 3) := by decide +kernel
theorem dL_law_635 : decode cL_law 635 = .ok (.aload_n 2, 1) := by decide +kernel
theorem dL_law_636 : decode cL_law 636 = .ok (.aload_n 0, 1) := by decide +kernel
theorem dL_law_637 : decode cL_law 637 = .ok (.iload_n 3, 1) := by decide +kernel
theorem dL_law_638 : decode cL_law 638 = .ok (.iconst 1, 1) := by decide +kernel
theorem dL_law_639 : decode cL_law 639 = .ok (.iadd, 1) := by decide +kernel
theorem dL_law_640 : decode cL_law 640 = .ok (.iaload, 1) := by decide +kernel
theorem dL_law_641 : decode cL_law 641 = .ok (.aload_n 0, 1) := by decide +kernel
theorem dL_law_642 : decode cL_law 642 = .ok (.iload_n 3, 1) := by decide +kernel
theorem dL_law_643 : decode cL_law 643 = .ok (.iconst 2, 1) := by decide +kernel
theorem dL_law_644 : decode cL_law 644 = .ok (.iadd, 1) := by decide +kernel
theorem dL_law_645 : decode cL_law 645 = .ok (.iaload, 1) := by decide +kernel
theorem dL_law_646 : decode cL_law 646 = .ok (.ifCond .eq 7, 3) := by decide +kernel
theorem dL_law_649 : decode cL_law 649 = .ok (.iconst 1, 1) := by decide +kernel
theorem dL_law_650 : decode cL_law 650 = .ok (.goto 4, 3) := by decide +kernel
theorem dL_law_653 : decode cL_law 653 = .ok (.iconst 0, 1) := by decide +kernel
theorem dL_law_654 : decode cL_law 654 = .ok (.invokevirtual 92, 3) := by decide +kernel
theorem dL_law_657 : decode cL_law 657 = .ok (.if_icmp .eq 309, 3) := by decide +kernel
theorem dL_law_660 : decode cL_law 660 = .ok (.iconst 0, 1) := by decide +kernel
theorem dL_law_661 : decode cL_law 661 = .ok (.ireturn, 1) := by decide +kernel
theorem dL_law_662 : decode cL_law 662 = .ok (.aload_n 1, 1) := by decide +kernel
theorem dL_law_663 : decode cL_law 663 = .ok (.aload_n 0, 1) := by decide +kernel
theorem dL_law_664 : decode cL_law 664 = .ok (.iload_n 3, 1) := by decide +kernel
theorem dL_law_665 : decode cL_law 665 = .ok (.iconst 1, 1) := by decide +kernel
theorem dL_law_666 : decode cL_law 666 = .ok (.iadd, 1) := by decide +kernel
theorem dL_law_667 : decode cL_law 667 = .ok (.iaload, 1) := by decide +kernel
theorem dL_law_668 : decode cL_law 668 = .ok (.aload_n 0, 1) := by decide +kernel
theorem dL_law_669 : decode cL_law 669 = .ok (.iload_n 3, 1) := by decide +kernel
theorem dL_law_670 : decode cL_law 670 = .ok (.iconst 2, 1) := by decide +kernel
theorem dL_law_671 : decode cL_law 671 = .ok (.iadd, 1) := by decide +kernel
theorem dL_law_672 : decode cL_law 672 = .ok (.iaload, 1) := by decide +kernel
theorem dL_law_673 : decode cL_law 673 = .ok (.aload_n 0, 1) := by decide +kernel
theorem dL_law_674 : decode cL_law 674 = .ok (.iload_n 3, 1) := by decide +kernel
theorem dL_law_675 : decode cL_law 675 = .ok (.iconst 3, 1) := by decide +kernel
theorem dL_law_676 : decode cL_law 676 = .ok (.iadd, 1) := by decide +kernel
theorem dL_law_677 : decode cL_law 677 = .ok (.iaload, 1) := by decide +kernel
theorem dL_law_678 : decode cL_law 678 = .ok (.invokevirtual 93, 3) := by decide +kernel
theorem dL_law_681 : decode cL_law 681 = .ok (.aload_n 2, 1) := by decide +kernel
theorem dL_law_682 : decode cL_law 682 = .ok (.aload_n 0, 1) := by decide +kernel
theorem dL_law_683 : decode cL_law 683 = .ok (.iload_n 3, 1) := by decide +kernel
theorem dL_law_684 : decode cL_law 684 = .ok (.iconst 1, 1) := by decide +kernel
theorem dL_law_685 : decode cL_law 685 = .ok (.iadd, 1) := by decide +kernel
theorem dL_law_686 : decode cL_law 686 = .ok (.iaload, 1) := by decide +kernel
theorem dL_law_687 : decode cL_law 687 = .ok (.aload_n 0, 1) := by decide +kernel
theorem dL_law_688 : decode cL_law 688 = .ok (.iload_n 3, 1) := by decide +kernel
theorem dL_law_689 : decode cL_law 689 = .ok (.iconst 2, 1) := by decide +kernel
theorem dL_law_690 : decode cL_law 690 = .ok (.iadd, 1) := by decide +kernel
theorem dL_law_691 : decode cL_law 691 = .ok (.iaload, 1) := by decide +kernel
theorem dL_law_692 : decode cL_law 692 = .ok (.aload_n 0, 1) := by decide +kernel
theorem dL_law_693 : decode cL_law 693 = .ok (.iload_n 3, 1) := by decide +kernel
theorem dL_law_694 : decode cL_law 694 = .ok (.iconst 3, 1) := by decide +kernel
theorem dL_law_695 : decode cL_law 695 = .ok (.iadd, 1) := by decide +kernel
theorem dL_law_696 : decode cL_law 696 = .ok (.iaload, 1) := by decide +kernel
theorem dL_law_697 : decode cL_law 697 = .ok (.invokevirtual 97, 3) := by decide +kernel
theorem dL_law_700 : decode cL_law 700 = .ok (.if_icmp .eq 266, 3) := by decide +kernel
theorem dL_law_703 : decode cL_law 703 = .ok (.iconst 0, 1) := by decide +kernel
theorem dL_law_704 : decode cL_law 704 = .ok (.ireturn, 1) := by decide +kernel
theorem dL_law_705 : decode cL_law 705 = .ok (.aload_n 1, 1) := by decide +kernel
theorem dL_law_706 : decode cL_law 706 = .ok (.invokevirtual 98, 3) := by decide +kernel
theorem dL_law_709 : decode cL_law 709 = .ok (.aload_n 2, 1) := by decide +kernel
theorem dL_law_710 : decode cL_law 710 = .ok (.invokevirtual 101, 3) := by decide +kernel
theorem dL_law_713 : decode cL_law 713 = .ok (.if_icmp .eq 253, 3) := by decide +kernel
theorem dL_law_716 : decode cL_law 716 = .ok (.iconst 0, 1) := by decide +kernel
theorem dL_law_717 : decode cL_law 717 = .ok (.ireturn, 1) := by decide +kernel
theorem dL_law_718 : decode cL_law 718 = .ok (.aload_n 1, 1) := by decide +kernel
theorem dL_law_719 : decode cL_law 719 = .ok (.aload_n 0, 1) := by decide +kernel
theorem dL_law_720 : decode cL_law 720 = .ok (.iload_n 3, 1) := by decide +kernel
theorem dL_law_721 : decode cL_law 721 = .ok (.iconst 1, 1) := by decide +kernel
theorem dL_law_722 : decode cL_law 722 = .ok (.iadd, 1) := by decide +kernel
theorem dL_law_723 : decode cL_law 723 = .ok (.iaload, 1) := by decide +kernel
theorem dL_law_724 : decode cL_law 724 = .ok (.invokevirtual 102, 3) := by decide +kernel
theorem dL_law_727 : decode cL_law 727 = .ok (.aload_n 2, 1) := by decide +kernel
theorem dL_law_728 : decode cL_law 728 = .ok (.aload_n 0, 1) := by decide +kernel
theorem dL_law_729 : decode cL_law 729 = .ok (.iload_n 3, 1) := by decide +kernel
theorem dL_law_730 : decode cL_law 730 = .ok (.iconst 1, 1) := by decide +kernel
theorem dL_law_731 : decode cL_law 731 = .ok (.iadd, 1) := by decide +kernel
theorem dL_law_732 : decode cL_law 732 = .ok (.iaload, 1) := by decide +kernel
theorem dL_law_733 : decode cL_law 733 = .ok (.invokevirtual 105, 3) := by decide +kernel
theorem dL_law_736 : decode cL_law 736 = .ok (.if_icmp .eq 230, 3) := by decide +kernel
theorem dL_law_739 : decode cL_law 739 = .ok (.iconst 0, 1) := by decide +kernel
theorem dL_law_740 : decode cL_law 740 = .ok (.ireturn, 1) := by decide +kernel
theorem dL_law_741 : decode cL_law 741 = .ok (.aload_n 1, 1) := by decide +kernel
theorem dL_law_742 : decode cL_law 742 = .ok (.aload_n 0, 1) := by decide +kernel
theorem dL_law_743 : decode cL_law 743 = .ok (.iload_n 3, 1) := by decide +kernel
theorem dL_law_744 : decode cL_law 744 = .ok (.iconst 1, 1) := by decide +kernel
theorem dL_law_745 : decode cL_law 745 = .ok (.iadd, 1) := by decide +kernel
theorem dL_law_746 : decode cL_law 746 = .ok (.iaload, 1) := by decide +kernel
theorem dL_law_747 : decode cL_law 747 = .ok (.aload_n 0, 1) := by decide +kernel
theorem dL_law_748 : decode cL_law 748 = .ok (.iload_n 3, 1) := by decide +kernel
theorem dL_law_749 : decode cL_law 749 = .ok (.iconst 2, 1) := by decide +kernel
theorem dL_law_750 : decode cL_law 750 = .ok (.iadd, 1) := by decide +kernel
theorem dL_law_751 : decode cL_law 751 = .ok (.iaload, 1) := by decide +kernel
theorem dL_law_752 : decode cL_law 752 = .ok (.aload_n 0, 1) := by decide +kernel
theorem dL_law_753 : decode cL_law 753 = .ok (.iload_n 3, 1) := by decide +kernel
theorem dL_law_754 : decode cL_law 754 = .ok (.iconst 3, 1) := by decide +kernel
theorem dL_law_755 : decode cL_law 755 = .ok (.iadd, 1) := by decide +kernel
theorem dL_law_756 : decode cL_law 756 = .ok (.iaload, 1) := by decide +kernel
theorem dL_law_757 : decode cL_law 757 = .ok (.invokevirtual 106, 3) := by decide +kernel
theorem dL_law_760 : decode cL_law 760 = .ok (.aload_n 2, 1) := by decide +kernel
theorem dL_law_761 : decode cL_law 761 = .ok (.aload_n 0, 1) := by decide +kernel
theorem dL_law_762 : decode cL_law 762 = .ok (.iload_n 3, 1) := by decide +kernel
theorem dL_law_763 : decode cL_law 763 = .ok (.iconst 1, 1) := by decide +kernel
theorem dL_law_764 : decode cL_law 764 = .ok (.iadd, 1) := by decide +kernel
theorem dL_law_765 : decode cL_law 765 = .ok (.iaload, 1) := by decide +kernel
theorem dL_law_766 : decode cL_law 766 = .ok (.aload_n 0, 1) := by decide +kernel
theorem dL_law_767 : decode cL_law 767 = .ok (.iload_n 3, 1) := by decide +kernel
theorem dL_law_768 : decode cL_law 768 = .ok (.iconst 2, 1) := by decide +kernel
theorem dL_law_769 : decode cL_law 769 = .ok (.iadd, 1) := by decide +kernel
theorem dL_law_770 : decode cL_law 770 = .ok (.iaload, 1) := by decide +kernel
theorem dL_law_771 : decode cL_law 771 = .ok (.aload_n 0, 1) := by decide +kernel
theorem dL_law_772 : decode cL_law 772 = .ok (.iload_n 3, 1) := by decide +kernel
theorem dL_law_773 : decode cL_law 773 = .ok (.iconst 3, 1) := by decide +kernel
theorem dL_law_774 : decode cL_law 774 = .ok (.iadd, 1) := by decide +kernel
theorem dL_law_775 : decode cL_law 775 = .ok (.iaload, 1) := by decide +kernel
theorem dL_law_776 : decode cL_law 776 = .ok (.invokevirtual 109, 3) := by decide +kernel
theorem dL_law_779 : decode cL_law 779 = .ok (.if_icmp .eq 187, 3) := by decide +kernel
theorem dL_law_782 : decode cL_law 782 = .ok (.iconst 0, 1) := by decide +kernel
theorem dL_law_783 : decode cL_law 783 = .ok (.ireturn, 1) := by decide +kernel
theorem dL_law_784 : decode cL_law 784 = .ok (.aload_n 1, 1) := by decide +kernel
theorem dL_law_785 : decode cL_law 785 = .ok (.aload_n 0, 1) := by decide +kernel
theorem dL_law_786 : decode cL_law 786 = .ok (.iload_n 3, 1) := by decide +kernel
theorem dL_law_787 : decode cL_law 787 = .ok (.iconst 1, 1) := by decide +kernel
theorem dL_law_788 : decode cL_law 788 = .ok (.iadd, 1) := by decide +kernel
theorem dL_law_789 : decode cL_law 789 = .ok (.iaload, 1) := by decide +kernel
theorem dL_law_790 : decode cL_law 790 = .ok (.aload_n 0, 1) := by decide +kernel
theorem dL_law_791 : decode cL_law 791 = .ok (.iload_n 3, 1) := by decide +kernel
theorem dL_law_792 : decode cL_law 792 = .ok (.iconst 2, 1) := by decide +kernel
theorem dL_law_793 : decode cL_law 793 = .ok (.iadd, 1) := by decide +kernel
theorem dL_law_794 : decode cL_law 794 = .ok (.iaload, 1) := by decide +kernel
theorem dL_law_795 : decode cL_law 795 = .ok (.aload_n 0, 1) := by decide +kernel
theorem dL_law_796 : decode cL_law 796 = .ok (.iload_n 3, 1) := by decide +kernel
theorem dL_law_797 : decode cL_law 797 = .ok (.iconst 3, 1) := by decide +kernel
theorem dL_law_798 : decode cL_law 798 = .ok (.iadd, 1) := by decide +kernel
theorem dL_law_799 : decode cL_law 799 = .ok (.iaload, 1) := by decide +kernel
theorem dL_law_800 : decode cL_law 800 = .ok (.ifCond .eq 7, 3) := by decide +kernel
theorem dL_law_803 : decode cL_law 803 = .ok (.iconst 1, 1) := by decide +kernel
theorem dL_law_804 : decode cL_law 804 = .ok (.goto 4, 3) := by decide +kernel
theorem dL_law_807 : decode cL_law 807 = .ok (.iconst 0, 1) := by decide +kernel
theorem dL_law_808 : decode cL_law 808 = .ok (.invokevirtual 110, 3) := by decide +kernel
theorem dL_law_811 : decode cL_law 811 = .ok (.aload_n 2, 1) := by decide +kernel
theorem dL_law_812 : decode cL_law 812 = .ok (.aload_n 0, 1) := by decide +kernel
theorem dL_law_813 : decode cL_law 813 = .ok (.iload_n 3, 1) := by decide +kernel
theorem dL_law_814 : decode cL_law 814 = .ok (.iconst 1, 1) := by decide +kernel
theorem dL_law_815 : decode cL_law 815 = .ok (.iadd, 1) := by decide +kernel
theorem dL_law_816 : decode cL_law 816 = .ok (.iaload, 1) := by decide +kernel
theorem dL_law_817 : decode cL_law 817 = .ok (.aload_n 0, 1) := by decide +kernel
theorem dL_law_818 : decode cL_law 818 = .ok (.iload_n 3, 1) := by decide +kernel
theorem dL_law_819 : decode cL_law 819 = .ok (.iconst 2, 1) := by decide +kernel
theorem dL_law_820 : decode cL_law 820 = .ok (.iadd, 1) := by decide +kernel
theorem dL_law_821 : decode cL_law 821 = .ok (.iaload, 1) := by decide +kernel
theorem dL_law_822 : decode cL_law 822 = .ok (.aload_n 0, 1) := by decide +kernel
theorem dL_law_823 : decode cL_law 823 = .ok (.iload_n 3, 1) := by decide +kernel
theorem dL_law_824 : decode cL_law 824 = .ok (.iconst 3, 1) := by decide +kernel
theorem dL_law_825 : decode cL_law 825 = .ok (.iadd, 1) := by decide +kernel
theorem dL_law_826 : decode cL_law 826 = .ok (.iaload, 1) := by decide +kernel
theorem dL_law_827 : decode cL_law 827 = .ok (.ifCond .eq 7, 3) := by decide +kernel
theorem dL_law_830 : decode cL_law 830 = .ok (.iconst 1, 1) := by decide +kernel
theorem dL_law_831 : decode cL_law 831 = .ok (.goto 4, 3) := by decide +kernel
theorem dL_law_834 : decode cL_law 834 = .ok (.iconst 0, 1) := by decide +kernel
theorem dL_law_835 : decode cL_law 835 = .ok (.invokevirtual 114, 3) := by decide +kernel
theorem dL_law_838 : decode cL_law 838 = .ok (.if_icmp .eq 128, 3) := by decide +kernel
theorem dL_law_841 : decode cL_law 841 = .ok (.iconst 0, 1) := by decide +kernel
theorem dL_law_842 : decode cL_law 842 = .ok (.ireturn, 1) := by decide +kernel
theorem dL_law_843 : decode cL_law 843 = .ok (.aload_n 1, 1) := by decide +kernel
theorem dL_law_844 : decode cL_law 844 = .ok (.aload_n 0, 1) := by decide +kernel
theorem dL_law_845 : decode cL_law 845 = .ok (.iload_n 3, 1) := by decide +kernel
theorem dL_law_846 : decode cL_law 846 = .ok (.iconst 1, 1) := by decide +kernel
theorem dL_law_847 : decode cL_law 847 = .ok (.iadd, 1) := by decide +kernel
theorem dL_law_848 : decode cL_law 848 = .ok (.iaload, 1) := by decide +kernel
theorem dL_law_849 : decode cL_law 849 = .ok (.i2l, 1) := by decide +kernel
theorem dL_law_850 : decode cL_law 850 = .ok (.bipush 32, 2) := by decide +kernel
theorem dL_law_852 : decode cL_law 852 = .ok (.lshl, 1) := by decide +kernel
theorem dL_law_853 : decode cL_law 853 = .ok (.aload_n 0, 1) := by decide +kernel
theorem dL_law_854 : decode cL_law 854 = .ok (.iload_n 3, 1) := by decide +kernel
theorem dL_law_855 : decode cL_law 855 = .ok (.iconst 2, 1) := by decide +kernel
theorem dL_law_856 : decode cL_law 856 = .ok (.iadd, 1) := by decide +kernel
theorem dL_law_857 : decode cL_law 857 = .ok (.iaload, 1) := by decide +kernel
theorem dL_law_858 : decode cL_law 858 = .ok (.i2l, 1) := by decide +kernel
theorem dL_law_859 : decode cL_law 859 = .ok (.ldc2_w 81, 3) := by decide +kernel
theorem dL_law_862 : decode cL_law 862 = .ok (.land, 1) := by decide +kernel
theorem dL_law_863 : decode cL_law 863 = .ok (.lor, 1) := by decide +kernel
theorem dL_law_864 : decode cL_law 864 = .ok (.invokevirtual 115, 3) := by decide +kernel
theorem dL_law_867 : decode cL_law 867 = .ok (.aload_n 2, 1) := by decide +kernel
theorem dL_law_868 : decode cL_law 868 = .ok (.aload_n 0, 1) := by decide +kernel
theorem dL_law_869 : decode cL_law 869 = .ok (.iload_n 3, 1) := by decide +kernel
theorem dL_law_870 : decode cL_law 870 = .ok (.iconst 1, 1) := by decide +kernel
theorem dL_law_871 : decode cL_law 871 = .ok (.iadd, 1) := by decide +kernel
theorem dL_law_872 : decode cL_law 872 = .ok (.iaload, 1) := by decide +kernel
theorem dL_law_873 : decode cL_law 873 = .ok (.i2l, 1) := by decide +kernel
theorem dL_law_874 : decode cL_law 874 = .ok (.bipush 32, 2) := by decide +kernel
theorem dL_law_876 : decode cL_law 876 = .ok (.lshl, 1) := by decide +kernel
theorem dL_law_877 : decode cL_law 877 = .ok (.aload_n 0, 1) := by decide +kernel
theorem dL_law_878 : decode cL_law 878 = .ok (.iload_n 3, 1) := by decide +kernel
theorem dL_law_879 : decode cL_law 879 = .ok (.iconst 2, 1) := by decide +kernel
theorem dL_law_880 : decode cL_law 880 = .ok (.iadd, 1) := by decide +kernel
theorem dL_law_881 : decode cL_law 881 = .ok (.iaload, 1) := by decide +kernel
theorem dL_law_882 : decode cL_law 882 = .ok (.i2l, 1) := by decide +kernel
theorem dL_law_883 : decode cL_law 883 = .ok (.ldc2_w 81, 3) := by decide +kernel
theorem dL_law_886 : decode cL_law 886 = .ok (.land, 1) := by decide +kernel
theorem dL_law_887 : decode cL_law 887 = .ok (.lor, 1) := by decide +kernel
theorem dL_law_888 : decode cL_law 888 = .ok (.invokevirtual 119, 3) := by decide +kernel
theorem dL_law_891 : decode cL_law 891 = .ok (.lcmp, 1) := by decide +kernel
theorem dL_law_892 : decode cL_law 892 = .ok (.ifCond .eq 74, 3) := by decide +kernel
theorem dL_law_895 : decode cL_law 895 = .ok (.iconst 0, 1) := by decide +kernel
theorem dL_law_896 : decode cL_law 896 = .ok (.ireturn, 1) := by decide +kernel
theorem dL_law_897 : decode cL_law 897 = .ok (.aload_n 1, 1) := by decide +kernel
theorem dL_law_898 : decode cL_law 898 = .ok (.aload_n 0, 1) := by decide +kernel
theorem dL_law_899 : decode cL_law 899 = .ok (.iload_n 3, 1) := by decide +kernel
theorem dL_law_900 : decode cL_law 900 = .ok (.iconst 1, 1) := by decide +kernel
theorem dL_law_901 : decode cL_law 901 = .ok (.iadd, 1) := by decide +kernel
theorem dL_law_902 : decode cL_law 902 = .ok (.iaload, 1) := by decide +kernel
theorem dL_law_903 : decode cL_law 903 = .ok (.invokevirtual 120, 3) := by decide +kernel
theorem dL_law_906 : decode cL_law 906 = .ok (.aload_n 2, 1) := by decide +kernel
theorem dL_law_907 : decode cL_law 907 = .ok (.aload_n 0, 1) := by decide +kernel
theorem dL_law_908 : decode cL_law 908 = .ok (.iload_n 3, 1) := by decide +kernel
theorem dL_law_909 : decode cL_law 909 = .ok (.iconst 1, 1) := by decide +kernel
theorem dL_law_910 : decode cL_law 910 = .ok (.iadd, 1) := by decide +kernel
theorem dL_law_911 : decode cL_law 911 = .ok (.iaload, 1) := by decide +kernel
theorem dL_law_912 : decode cL_law 912 = .ok (.invokevirtual 123, 3) := by decide +kernel
theorem dL_law_915 : decode cL_law 915 = .ok (.if_icmp .eq 51, 3) := by decide +kernel
theorem dL_law_918 : decode cL_law 918 = .ok (.iconst 0, 1) := by decide +kernel
theorem dL_law_919 : decode cL_law 919 = .ok (.ireturn, 1) := by decide +kernel
theorem dL_law_920 : decode cL_law 920 = .ok (.aload_n 1, 1) := by decide +kernel
theorem dL_law_921 : decode cL_law 921 = .ok (.aload_n 0, 1) := by decide +kernel
theorem dL_law_922 : decode cL_law 922 = .ok (.iload_n 3, 1) := by decide +kernel
theorem dL_law_923 : decode cL_law 923 = .ok (.iconst 1, 1) := by decide +kernel
theorem dL_law_924 : decode cL_law 924 = .ok (.iadd, 1) := by decide +kernel
theorem dL_law_925 : decode cL_law 925 = .ok (.iaload, 1) := by decide +kernel
theorem dL_law_926 : decode cL_law 926 = .ok (.invokevirtual 124, 3) := by decide +kernel
theorem dL_law_929 : decode cL_law 929 = .ok (.aload_n 2, 1) := by decide +kernel
theorem dL_law_930 : decode cL_law 930 = .ok (.aload_n 0, 1) := by decide +kernel
theorem dL_law_931 : decode cL_law 931 = .ok (.iload_n 3, 1) := by decide +kernel
theorem dL_law_932 : decode cL_law 932 = .ok (.iconst 1, 1) := by decide +kernel
theorem dL_law_933 : decode cL_law 933 = .ok (.iadd, 1) := by decide +kernel
theorem dL_law_934 : decode cL_law 934 = .ok (.iaload, 1) := by decide +kernel
theorem dL_law_935 : decode cL_law 935 = .ok (.invokevirtual 127, 3) := by decide +kernel
theorem dL_law_938 : decode cL_law 938 = .ok (.if_icmp .eq 28, 3) := by decide +kernel
theorem dL_law_941 : decode cL_law 941 = .ok (.iconst 0, 1) := by decide +kernel
theorem dL_law_942 : decode cL_law 942 = .ok (.ireturn, 1) := by decide +kernel
theorem dL_law_943 : decode cL_law 943 = .ok (.aload_n 1, 1) := by decide +kernel
theorem dL_law_944 : decode cL_law 944 = .ok (.aload_n 0, 1) := by decide +kernel
theorem dL_law_945 : decode cL_law 945 = .ok (.iload_n 3, 1) := by decide +kernel
theorem dL_law_946 : decode cL_law 946 = .ok (.iconst 1, 1) := by decide +kernel
theorem dL_law_947 : decode cL_law 947 = .ok (.iadd, 1) := by decide +kernel
theorem dL_law_948 : decode cL_law 948 = .ok (.iaload, 1) := by decide +kernel
theorem dL_law_949 : decode cL_law 949 = .ok (.invokevirtual 128, 3) := by decide +kernel
theorem dL_law_952 : decode cL_law 952 = .ok (.aload_n 2, 1) := by decide +kernel
theorem dL_law_953 : decode cL_law 953 = .ok (.aload_n 0, 1) := by decide +kernel
theorem dL_law_954 : decode cL_law 954 = .ok (.iload_n 3, 1) := by decide +kernel
theorem dL_law_955 : decode cL_law 955 = .ok (.iconst 1, 1) := by decide +kernel
theorem dL_law_956 : decode cL_law 956 = .ok (.iadd, 1) := by decide +kernel
theorem dL_law_957 : decode cL_law 957 = .ok (.iaload, 1) := by decide +kernel
theorem dL_law_958 : decode cL_law 958 = .ok (.invokevirtual 131, 3) := by decide +kernel
theorem dL_law_961 : decode cL_law 961 = .ok (.if_icmp .eq 5, 3) := by decide +kernel
theorem dL_law_964 : decode cL_law 964 = .ok (.iconst 0, 1) := by decide +kernel
theorem dL_law_965 : decode cL_law 965 = .ok (.ireturn, 1) := by decide +kernel
theorem dL_law_966 : decode cL_law 966 = .ok (.iinc 3 4, 3) := by decide +kernel
theorem dL_law_969 : decode cL_law 969 = .ok (.goto (-951), 3) := by decide +kernel
theorem dL_law_972 : decode cL_law 972 = .ok (.iconst 1, 1) := by decide +kernel
theorem dL_law_973 : decode cL_law 973 = .ok (.ireturn, 1) := by decide +kernel
end
section
theorem dX8_in_0 : decode cX8_in 0 = .ok (.lload_n 0, 1) := by decide +kernel
theorem dX8_in_1 : decode cX8_in 1 = .ok (.lload_n 2, 1) := by decide +kernel
theorem dX8_in_2 : decode cX8_in 2 = .ok (.lcmp, 1) := by decide +kernel
theorem dX8_in_3 : decode cX8_in 3 = .ok (.ifCond .lt 14, 3) := by decide +kernel
theorem dX8_in_6 : decode cX8_in 6 = .ok (.lload_n 0, 1) := by decide +kernel
theorem dX8_in_7 : decode cX8_in 7 = .ok (.lload 4, 2) := by decide +kernel
theorem dX8_in_9 : decode cX8_in 9 = .ok (.lcmp, 1) := by decide +kernel
theorem dX8_in_10 : decode cX8_in 10 = .ok (.ifCond .gt 7, 3) := by decide +kernel
theorem dX8_in_13 : decode cX8_in 13 = .ok (.iconst 1, 1) := by decide +kernel
theorem dX8_in_14 : decode cX8_in 14 = .ok (.goto 4, 3) := by decide +kernel
theorem dX8_in_17 : decode cX8_in 17 = .ok (.iconst 0, 1) := by decide +kernel
theorem dX8_in_18 : decode cX8_in 18 = .ok (.ireturn, 1) := by decide +kernel
theorem dX8_has_0 : decode cX8_has 0 = .ok (.iload_n 0, 1) := by decide +kernel
theorem dX8_has_1 : decode cX8_has 1 = .ok (.iload_n 1, 1) := by decide +kernel
theorem dX8_has_2 : decode cX8_has 2 = .ok (.ishr, 1) := by decide +kernel
theorem dX8_has_3 : decode cX8_has 3 = .ok (.iconst 1, 1) := by decide +kernel
theorem dX8_has_4 : decode cX8_has 4 = .ok (.iand, 1) := by decide +kernel
theorem dX8_has_5 : decode cX8_has 5 = .ok (.iconst 1, 1) := by decide +kernel
theorem dX8_has_6 : decode cX8_has 6 = .ok (.if_icmp .ne 7, 3) := by decide +kernel
theorem dX8_has_9 : decode cX8_has 9 = .ok (.iconst 1, 1) := by decide +kernel
theorem dX8_has_10 : decode cX8_has 10 = .ok (.goto 4, 3) := by decide +kernel
theorem dX8_has_13 : decode cX8_has 13 = .ok (.iconst 0, 1) := by decide +kernel
theorem dX8_has_14 : decode cX8_has 14 = .ok (.ireturn, 1) := by decide +kernel
theorem dX8_many_0 : decode cX8_many 0 = .ok (.iconst 0, 1) := by decide +kernel
theorem dX8_many_1 : decode cX8_many 1 = .ok (.istore_n 1, 1) := by decide +kernel
theorem dX8_many_2 : decode cX8_many 2 = .ok (.iconst 0, 1) := by decide +kernel
theorem dX8_many_3 : decode cX8_many 3 = .ok (.istore_n 2, 1) := by decide +kernel
theorem dX8_many_4 : decode cX8_many 4 = .ok (.iload_n 2, 1) := by decide +kernel
theorem dX8_many_5 : decode cX8_many 5 = .ok (.iconst 5, 1) := by decide +kernel
theorem dX8_many_6 : decode cX8_many 6 = .ok (.if_icmp .ge 17, 3) := by decide +kernel
theorem dX8_many_9 : decode cX8_many 9 = .ok (.iload_n 1, 1) := by decide +kernel
theorem dX8_many_10 : decode cX8_many 10 = .ok (.iload_n 0, 1) := by decide +kernel
theorem dX8_many_11 : decode cX8_many 11 = .ok (.iload_n 2, 1) := by decide +kernel
theorem dX8_many_12 : decode cX8_many 12 = .ok (.ishr, 1) := by decide +kernel
theorem dX8_many_13 : decode cX8_many 13 = .ok (.iconst 1, 1) := by decide +kernel
theorem dX8_many_14 : decode cX8_many 14 = .ok (.iand, 1) := by decide +kernel
theorem dX8_many_15 : decode cX8_many 15 = .ok (.iadd, 1) := by decide +kernel
theorem dX8_many_16 : decode cX8_many 16 = .ok (.istore_n 1, 1) := by decide +kernel
theorem dX8_many_17 : decode cX8_many 17 = .ok (.iinc 2 1, 3) := by decide +kernel
theorem dX8_many_20 : decode cX8_many 20 = .ok (.goto (-16), 3) := by decide +kernel
theorem dX8_many_23 : decode cX8_many 23 = .ok (.iload_n 1, 1) := by decide +kernel
theorem dX8_many_24 : decode cX8_many 24 = .ok (.ireturn, 1) := by decide +kernel
theorem dX8_power_0 : decode cX8_power 0 = .ok (.iconst 1, 1) := by decide +kernel
theorem dX8_power_1 : decode cX8_power 1 = .ok (.istore_n 2, 1) := by decide +kernel
theorem dX8_power_2 : decode cX8_power 2 = .ok (.iconst 0, 1) := by decide +kernel
theorem dX8_power_3 : decode cX8_power 3 = .ok (.istore_n 3, 1) := by decide +kernel
theorem dX8_power_4 : decode cX8_power 4 = .ok (.iload_n 3, 1) := by decide +kernel
theorem dX8_power_5 : decode cX8_power 5 = .ok (.iload_n 1, 1) := by decide +kernel
theorem dX8_power_6 : decode cX8_power 6 = .ok (.if_icmp .ge 13, 3) := by decide +kernel
theorem dX8_power_9 : decode cX8_power 9 = .ok (.iload_n 2, 1) := by decide +kernel
theorem dX8_power_10 : decode cX8_power 10 = .ok (.iload_n 0, 1) := by decide +kernel
theorem dX8_power_11 : decode cX8_power 11 = .ok (.imul, 1) := by decide +kernel
theorem dX8_power_12 : decode cX8_power 12 = .ok (.istore_n 2, 1) := by decide +kernel
theorem dX8_power_13 : decode cX8_power 13 = .ok (.iinc 3 1, 3) := by decide +kernel
theorem dX8_power_16 : decode cX8_power 16 = .ok (.goto (-12), 3) := by decide +kernel
theorem dX8_power_19 : decode cX8_power 19 = .ok (.iload_n 2, 1) := by decide +kernel
theorem dX8_power_20 : decode cX8_power 20 = .ok (.ireturn, 1) := by decide +kernel
theorem dX8_noBerth_0 : decode cX8_noBerth 0 = .ok (.iload_n 1, 1) := by decide +kernel
theorem dX8_noBerth_1 : decode cX8_noBerth 1 = .ok (.i2l, 1) := by decide +kernel
theorem dX8_noBerth_2 : decode cX8_noBerth 2 = .ok (.lconst 0, 1) := by decide +kernel
theorem dX8_noBerth_3 : decode cX8_noBerth 3 = .ok (.aload_n 0, 1) := by decide +kernel
theorem dX8_noBerth_4 : decode cX8_noBerth 4 = .ok (.getfield 66, 3) := by decide +kernel
theorem dX8_noBerth_7 : decode cX8_noBerth 7 = .ok (.iconst 1, 1) := by decide +kernel
theorem dX8_noBerth_8 : decode cX8_noBerth 8 = .ok (.isub, 1) := by decide +kernel
theorem dX8_noBerth_9 : decode cX8_noBerth 9 = .ok (.i2l, 1) := by decide +kernel
theorem dX8_noBerth_10 : decode cX8_noBerth 10 = .ok (.invokestatic 69, 3) := by decide +kernel
theorem dX8_noBerth_13 : decode cX8_noBerth 13 = .ok (.ifCond .ne 7, 3) := by decide +kernel
theorem dX8_noBerth_16 : decode cX8_noBerth 16 = .ok (.iconst 1, 1) := by decide +kernel
theorem dX8_noBerth_17 : decode cX8_noBerth 17 = .ok (.goto 4, 3) := by decide +kernel
theorem dX8_noBerth_20 : decode cX8_noBerth 20 = .ok (.iconst 0, 1) := by decide +kernel
theorem dX8_noBerth_21 : decode cX8_noBerth 21 = .ok (.ireturn, 1) := by decide +kernel
theorem dX8_noDream_0 : decode cX8_noDream 0 = .ok (.iload_n 1, 1) := by decide +kernel
theorem dX8_noDream_1 : decode cX8_noDream 1 = .ok (.i2l, 1) := by decide +kernel
theorem dX8_noDream_2 : decode cX8_noDream 2 = .ok (.lconst 0, 1) := by decide +kernel
theorem dX8_noDream_3 : decode cX8_noDream 3 = .ok (.aload_n 0, 1) := by decide +kernel
theorem dX8_noDream_4 : decode cX8_noDream 4 = .ok (.getfield 73, 3) := by decide +kernel
theorem dX8_noDream_7 : decode cX8_noDream 7 = .ok (.iconst 1, 1) := by decide +kernel
theorem dX8_noDream_8 : decode cX8_noDream 8 = .ok (.isub, 1) := by decide +kernel
theorem dX8_noDream_9 : decode cX8_noDream 9 = .ok (.i2l, 1) := by decide +kernel
theorem dX8_noDream_10 : decode cX8_noDream 10 = .ok (.invokestatic 69, 3) := by decide +kernel
theorem dX8_noDream_13 : decode cX8_noDream 13 = .ok (.ifCond .ne 7, 3) := by decide +kernel
theorem dX8_noDream_16 : decode cX8_noDream 16 = .ok (.iconst 1, 1) := by decide +kernel
theorem dX8_noDream_17 : decode cX8_noDream 17 = .ok (.goto 4, 3) := by decide +kernel
theorem dX8_noDream_20 : decode cX8_noDream 20 = .ok (.iconst 0, 1) := by decide +kernel
theorem dX8_noDream_21 : decode cX8_noDream 21 = .ok (.ireturn, 1) := by decide +kernel
theorem dX8_write_0 : decode cX8_write 0 = .ok (.aload_n 0, 1) := by decide +kernel
theorem dX8_write_1 : decode cX8_write 1 = .ok (.iconst 0, 1) := by decide +kernel
theorem dX8_write_2 : decode cX8_write 2 = .ok (.putfield 62, 3) := by decide +kernel
theorem dX8_write_5 : decode cX8_write 5 = .ok (.iload_n 1, 1) := by decide +kernel
theorem dX8_write_6 : decode cX8_write 6 = .ok (.i2l, 1) := by decide +kernel
theorem dX8_write_7 : decode cX8_write 7 = .ok (.lconst 0, 1) := by decide +kernel
theorem dX8_write_8 : decode cX8_write 8 = .ok (.ldc2_w 76, 3) := by decide +kernel
theorem dX8_write_11 : decode cX8_write 11 = .ok (.invokestatic 69, 3) := by decide +kernel
theorem dX8_write_14 : decode cX8_write 14 = .ok (.ifCond .ne 6, 3) := by decide +kernel
theorem dX8_write_17 : decode cX8_write 17 = .ok (.bipush (-2), 2) := by decide +kernel
theorem dX8_write_19 : decode cX8_write 19 = .ok (.ireturn, 1) := by decide +kernel
theorem dX8_write_20 : decode cX8_write 20 = .ok (.aload_n 0, 1) := by decide +kernel
theorem dX8_write_21 : decode cX8_write 21 = .ok (.getfield 78, 3) := by decide +kernel
theorem dX8_write_24 : decode cX8_write 24 = .ok (.bipush 48, 2) := by decide +kernel
theorem dX8_write_26 : decode cX8_write 26 = .ok (.if_icmp .ne 6, 3) := by decide +kernel
theorem dX8_write_29 : decode cX8_write 29 = .ok (.bipush (-4), 2) := by decide +kernel
theorem dX8_write_31 : decode cX8_write 31 = .ok (.ireturn, 1) := by decide +kernel
theorem dX8_write_32 : decode cX8_write 32 = .ok (.aload_n 0, 1) := by decide +kernel
theorem dX8_write_33 : decode cX8_write 33 = .ok (.getfield 7, 3) := by decide +kernel
theorem dX8_write_36 : decode cX8_write 36 = .ok (.aload_n 0, 1) := by decide +kernel
theorem dX8_write_37 : decode cX8_write 37 = .ok (.getfield 78, 3) := by decide +kernel
theorem dX8_write_40 : decode cX8_write 40 = .ok (.iload_n 1, 1) := by decide +kernel
theorem dX8_write_41 : decode cX8_write 41 = .ok (.iastore, 1) := by decide +kernel
theorem dX8_write_42 : decode cX8_write 42 = .ok (.aload_n 0, 1) := by decide +kernel
theorem dX8_write_43 : decode cX8_write 43 = .ok (.dup, 1) := by decide +kernel
theorem dX8_write_44 : decode cX8_write 44 = .ok (.getfield 78, 3) := by decide +kernel
theorem dX8_write_47 : decode cX8_write 47 = .ok (.iconst 1, 1) := by decide +kernel
theorem dX8_write_48 : decode cX8_write 48 = .ok (.iadd, 1) := by decide +kernel
theorem dX8_write_49 : decode cX8_write 49 = .ok (.putfield 78, 3) := by decide +kernel
theorem dX8_write_52 : decode cX8_write 52 = .ok (.aload_n 0, 1) := by decide +kernel
theorem dX8_write_53 : decode cX8_write 53 = .ok (.getfield 78, 3) := by decide +kernel
theorem dX8_write_56 : decode cX8_write 56 = .ok (.ireturn, 1) := by decide +kernel
theorem dX8_wipe_0 : decode cX8_wipe 0 = .ok (.aload_n 0, 1) := by decide +kernel
theorem dX8_wipe_1 : decode cX8_wipe 1 = .ok (.iconst 0, 1) := by decide +kernel
theorem dX8_wipe_2 : decode cX8_wipe 2 = .ok (.putfield 62, 3) := by decide +kernel
theorem dX8_wipe_5 : decode cX8_wipe 5 = .ok (.aload_n 0, 1) := by decide +kernel
theorem dX8_wipe_6 : decode cX8_wipe 6 = .ok (.getfield 78, 3) := by decide +kernel
theorem dX8_wipe_9 : decode cX8_wipe 9 = .ok (.istore_n 1, 1) := by decide +kernel
theorem dX8_wipe_10 : decode cX8_wipe 10 = .ok (.aload_n 0, 1) := by decide +kernel
theorem dX8_wipe_11 : decode cX8_wipe 11 = .ok (.iconst 0, 1) := by decide +kernel
theorem dX8_wipe_12 : decode cX8_wipe 12 = .ok (.putfield 78, 3) := by decide +kernel
theorem dX8_wipe_15 : decode cX8_wipe 15 = .ok (.iload_n 1, 1) := by decide +kernel
theorem dX8_wipe_16 : decode cX8_wipe 16 = .ok (.ireturn, 1) := by decide +kernel
theorem dX8_figure_0 : decode cX8_figure 0 = .ok (.aload_n 0, 1) := by decide +kernel
theorem dX8_figure_1 : decode cX8_figure 1 = .ok (.getfield 81, 3) := by decide +kernel
theorem dX8_figure_4 : decode cX8_figure 4 = .ok (.aload_n 0, 1) := by decide +kernel
theorem dX8_figure_5 : decode cX8_figure 5 = .ok (.getfield 78, 3) := by decide +kernel
theorem dX8_figure_8 : decode cX8_figure 8 = .ok (.if_icmp .eq 26, 3) := by decide +kernel
theorem dX8_figure_11 : decode cX8_figure 11 = .ok (.aload_n 0, 1) := by decide +kernel
theorem dX8_figure_12 : decode cX8_figure 12 = .ok (.getfield 7, 3) := by decide +kernel
theorem dX8_figure_15 : decode cX8_figure 15 = .ok (.aload_n 0, 1) := by decide +kernel
theorem dX8_figure_16 : decode cX8_figure 16 = .ok (.getfield 81, 3) := by decide +kernel
theorem dX8_figure_19 : decode cX8_figure 19 = .ok (.iaload, 1) := by decide +kernel
theorem dX8_figure_20 : decode cX8_figure 20 = .ok (.bipush 48, 2) := by decide +kernel
theorem dX8_figure_22 : decode cX8_figure 22 = .ok (.isub, 1) := by decide +kernel
theorem dX8_figure_23 : decode cX8_figure 23 = .ok (.i2l, 1) := by decide +kernel
theorem dX8_figure_24 : decode cX8_figure 24 = .ok (.iload_n 1, 1) := by decide +kernel
theorem dX8_figure_25 : decode cX8_figure 25 = .ok (.i2l, 1) := by decide +kernel
theorem dX8_figure_26 : decode cX8_figure 26 = .ok (.iload_n 2, 1) := by decide +kernel
theorem dX8_figure_27 : decode cX8_figure 27 = .ok (.i2l, 1) := by decide +kernel
theorem dX8_figure_28 : decode cX8_figure 28 = .ok (.invokestatic 69, 3) := by decide +kernel
theorem dX8_figure_31 : decode cX8_figure 31 = .ok (.ifCond .ne 6, 3) := by decide +kernel
theorem dX8_figure_34 : decode cX8_figure 34 = .ok (.bipush (-9), 2) := by decide +kernel
theorem dX8_figure_36 : decode cX8_figure 36 = .ok (.ireturn, 1) := by decide +kernel
theorem dX8_figure_37 : decode cX8_figure 37 = .ok (.aload_n 0, 1) := by decide +kernel
theorem dX8_figure_38 : decode cX8_figure 38 = .ok (.dup, 1) := by decide +kernel
theorem dX8_figure_39 : decode cX8_figure 39 = .ok (.getfield 81, 3) := by decide +kernel
theorem dX8_figure_42 : decode cX8_figure 42 = .ok (.iconst 1, 1) := by decide +kernel
theorem dX8_figure_43 : decode cX8_figure 43 = .ok (.iadd, 1) := by decide +kernel
theorem dX8_figure_44 : decode cX8_figure 44 = .ok (.putfield 81, 3) := by decide +kernel
theorem dX8_figure_47 : decode cX8_figure 47 = .ok (.aload_n 0, 1) := by decide +kernel
theorem dX8_figure_48 : decode cX8_figure 48 = .ok (.getfield 7, 3) := by decide +kernel
theorem dX8_figure_51 : decode cX8_figure 51 = .ok (.aload_n 0, 1) := by decide +kernel
theorem dX8_figure_52 : decode cX8_figure 52 = .ok (.getfield 81, 3) := by decide +kernel
theorem dX8_figure_55 : decode cX8_figure 55 = .ok (.iconst 1, 1) := by decide +kernel
theorem dX8_figure_56 : decode cX8_figure 56 = .ok (.isub, 1) := by decide +kernel
theorem dX8_figure_57 : decode cX8_figure 57 = .ok (.iaload, 1) := by decide +kernel
theorem dX8_figure_58 : decode cX8_figure 58 = .ok (.bipush 48, 2) := by decide +kernel
theorem dX8_figure_60 : decode cX8_figure 60 = .ok (.isub, 1) := by decide +kernel
theorem dX8_figure_61 : decode cX8_figure 61 = .ok (.ireturn, 1) := by decide +kernel
theorem dX8_readOneTide_0 : decode cX8_readOneTide 0 = .ok (.aload_n 0, 1) := by decide +kernel
theorem dX8_readOneTide_1 : decode cX8_readOneTide 1 = .ok (.iconst 0, 1) := by decide +kernel
theorem dX8_readOneTide_2 : decode cX8_readOneTide 2 = .ok (.bipush 9, 2) := by decide +kernel
theorem dX8_readOneTide_4 : decode cX8_readOneTide 4 = .ok (.invokevirtual 84, 3) := by decide +kernel
theorem dX8_readOneTide_7 : decode cX8_readOneTide 7 = .ok (.istore_n 1, 1) := by decide +kernel
theorem dX8_readOneTide_8 : decode cX8_readOneTide 8 = .ok (.iload_n 1, 1) := by decide +kernel
theorem dX8_readOneTide_9 : decode cX8_readOneTide 9 = .ok (.bipush (-9), 2) := by decide +kernel
theorem dX8_readOneTide_11 : decode cX8_readOneTide 11 = .ok (.if_icmp .ne 5, 3) := by decide +kernel
theorem dX8_readOneTide_14 : decode cX8_readOneTide 14 = .ok (.iconst 0, 1) := by decide +kernel
theorem dX8_readOneTide_15 : decode cX8_readOneTide 15 = .ok (.ireturn, 1) := by decide +kernel
theorem dX8_readOneTide_16 : decode cX8_readOneTide 16 = .ok (.aload_n 0, 1) := by decide +kernel
theorem dX8_readOneTide_17 : decode cX8_readOneTide 17 = .ok (.getfield 22, 3) := by decide +kernel
theorem dX8_readOneTide_20 : decode cX8_readOneTide 20 = .ok (.aload_n 0, 1) := by decide +kernel
theorem dX8_readOneTide_21 : decode cX8_readOneTide 21 = .ok (.getfield 88, 3) := by decide +kernel
theorem dX8_readOneTide_24 : decode cX8_readOneTide 24 = .ok (.iload_n 1, 1) := by decide +kernel
theorem dX8_readOneTide_25 : decode cX8_readOneTide 25 = .ok (.iastore, 1) := by decide +kernel
theorem dX8_readOneTide_26 : decode cX8_readOneTide 26 = .ok (.aload_n 0, 1) := by decide +kernel
theorem dX8_readOneTide_27 : decode cX8_readOneTide 27 = .ok (.dup, 1) := by decide +kernel
theorem dX8_readOneTide_28 : decode cX8_readOneTide 28 = .ok (.getfield 88, 3) := by decide +kernel
theorem dX8_readOneTide_31 : decode cX8_readOneTide 31 = .ok (.iconst 1, 1) := by decide +kernel
theorem dX8_readOneTide_32 : decode cX8_readOneTide 32 = .ok (.iadd, 1) := by decide +kernel
theorem dX8_readOneTide_33 : decode cX8_readOneTide 33 = .ok (.putfield 88, 3) := by decide +kernel
theorem dX8_readOneTide_36 : decode cX8_readOneTide 36 = .ok (.iconst 1, 1) := by decide +kernel
theorem dX8_readOneTide_37 : decode cX8_readOneTide 37 = .ok (.ireturn, 1) := by decide +kernel
theorem dX8_readOneBerth_0 : decode cX8_readOneBerth 0 = .ok (.aload_n 0, 1) := by decide +kernel
theorem dX8_readOneBerth_1 : decode cX8_readOneBerth 1 = .ok (.iconst 0, 1) := by decide +kernel
theorem dX8_readOneBerth_2 : decode cX8_readOneBerth 2 = .ok (.bipush 9, 2) := by decide +kernel
theorem dX8_readOneBerth_4 : decode cX8_readOneBerth 4 = .ok (.invokevirtual 84, 3) := by decide +kernel
theorem dX8_readOneBerth_7 : decode cX8_readOneBerth 7 = .ok (.istore_n 1, 1) := by decide +kernel
theorem dX8_readOneBerth_8 : decode cX8_readOneBerth 8 = .ok (.iload_n 1, 1) := by decide +kernel
theorem dX8_readOneBerth_9 : decode cX8_readOneBerth 9 = .ok (.bipush (-9), 2) := by decide +kernel
theorem dX8_readOneBerth_11 : decode cX8_readOneBerth 11 = .ok (.if_icmp .ne 8, 3) := by decide +kernel
theorem dX8_readOneBerth_14 : decode cX8_readOneBerth 14 = .ok (.bipush (-9), 2) := by decide +kernel
theorem dX8_readOneBerth_16 : decode cX8_readOneBerth 16 = .ok (.goto 9, 3) := by decide +kernel
theorem dX8_readOneBerth_19 : decode cX8_readOneBerth 19 = .ok (.aload_n 0, 1) := by decide +kernel
theorem dX8_readOneBerth_20 : decode cX8_readOneBerth 20 = .ok (.iconst 0, 1) := by decide +kernel
theorem dX8_readOneBerth_21 : decode cX8_readOneBerth 21 = .ok (.iconst 3, 1) := by decide +kernel
theorem dX8_readOneBerth_22 : decode cX8_readOneBerth 22 = .ok (.invokevirtual 84, 3) := by decide +kernel
theorem dX8_readOneBerth_25 : decode cX8_readOneBerth 25 = .ok (.istore_n 2, 1) := by decide +kernel
theorem dX8_readOneBerth_26 : decode cX8_readOneBerth 26 = .ok (.iload_n 2, 1) := by decide +kernel
theorem dX8_readOneBerth_27 : decode cX8_readOneBerth 27 = .ok (.bipush (-9), 2) := by decide +kernel
theorem dX8_readOneBerth_29 : decode cX8_readOneBerth 29 = .ok (.if_icmp .ne 5, 3) := by decide +kernel
theorem dX8_readOneBerth_32 : decode cX8_readOneBerth 32 = .ok (.iconst 0, 1) := by decide +kernel
theorem dX8_readOneBerth_33 : decode cX8_readOneBerth 33 = .ok (.ireturn, 1) := by decide +kernel
theorem dX8_readOneBerth_34 : decode cX8_readOneBerth 34 = .ok (.aload_n 0, 1) := by decide +kernel
theorem dX8_readOneBerth_35 : decode cX8_readOneBerth 35 = .ok (.getfield 25, 3) := by decide +kernel
theorem dX8_readOneBerth_38 : decode cX8_readOneBerth 38 = .ok (.iconst 2, 1) := by decide +kernel
theorem dX8_readOneBerth_39 : decode cX8_readOneBerth 39 = .ok (.aload_n 0, 1) := by decide +kernel
theorem dX8_readOneBerth_40 : decode cX8_readOneBerth 40 = .ok (.getfield 91, 3) := by decide +kernel
theorem dX8_readOneBerth_43 : decode cX8_readOneBerth 43 = .ok (.imul, 1) := by decide +kernel
theorem dX8_readOneBerth_44 : decode cX8_readOneBerth 44 = .ok (.iload_n 1, 1) := by decide +kernel
theorem dX8_readOneBerth_45 : decode cX8_readOneBerth 45 = .ok (.iastore, 1) := by decide +kernel
theorem dX8_readOneBerth_46 : decode cX8_readOneBerth 46 = .ok (.aload_n 0, 1) := by decide +kernel
theorem dX8_readOneBerth_47 : decode cX8_readOneBerth 47 = .ok (.getfield 25, 3) := by decide +kernel
theorem dX8_readOneBerth_50 : decode cX8_readOneBerth 50 = .ok (.iconst 2, 1) := by decide +kernel
theorem dX8_readOneBerth_51 : decode cX8_readOneBerth 51 = .ok (.aload_n 0, 1) := by decide +kernel
theorem dX8_readOneBerth_52 : decode cX8_readOneBerth 52 = .ok (.getfield 91, 3) := by decide +kernel
theorem dX8_readOneBerth_55 : decode cX8_readOneBerth 55 = .ok (.imul, 1) := by decide +kernel
theorem dX8_readOneBerth_56 : decode cX8_readOneBerth 56 = .ok (.iconst 1, 1) := by decide +kernel
theorem dX8_readOneBerth_57 : decode cX8_readOneBerth 57 = .ok (.iadd, 1) := by decide +kernel
theorem dX8_readOneBerth_58 : decode cX8_readOneBerth 58 = .ok (.iload_n 2, 1) := by decide +kernel
theorem dX8_readOneBerth_59 : decode cX8_readOneBerth 59 = .ok (.iastore, 1) := by decide +kernel
theorem dX8_readOneBerth_60 : decode cX8_readOneBerth 60 = .ok (.aload_n 0, 1) := by decide +kernel
theorem dX8_readOneBerth_61 : decode cX8_readOneBerth 61 = .ok (.dup, 1) := by decide +kernel
theorem dX8_readOneBerth_62 : decode cX8_readOneBerth 62 = .ok (.getfield 91, 3) := by decide +kernel
theorem dX8_readOneBerth_65 : decode cX8_readOneBerth 65 = .ok (.iconst 1, 1) := by decide +kernel
theorem dX8_readOneBerth_66 : decode cX8_readOneBerth 66 = .ok (.iadd, 1) := by decide +kernel
theorem dX8_readOneBerth_67 : decode cX8_readOneBerth 67 = .ok (.putfield 91, 3) := by decide +kernel
theorem dX8_readOneBerth_70 : decode cX8_readOneBerth 70 = .ok (.iconst 1, 1) := by decide +kernel
theorem dX8_readOneBerth_71 : decode cX8_readOneBerth 71 = .ok (.ireturn, 1) := by decide +kernel
theorem dX8_readOneDream_0 : decode cX8_readOneDream 0 = .ok (.aload_n 0, 1) := by decide +kernel
theorem dX8_readOneDream_1 : decode cX8_readOneDream 1 = .ok (.iconst 1, 1) := by decide +kernel
theorem dX8_readOneDream_2 : decode cX8_readOneDream 2 = .ok (.bipush 9, 2) := by decide +kernel
theorem dX8_readOneDream_4 : decode cX8_readOneDream 4 = .ok (.invokevirtual 84, 3) := by decide +kernel
theorem dX8_readOneDream_7 : decode cX8_readOneDream 7 = .ok (.istore_n 1, 1) := by decide +kernel
theorem dX8_readOneDream_8 : decode cX8_readOneDream 8 = .ok (.iload_n 1, 1) := by decide +kernel
theorem dX8_readOneDream_9 : decode cX8_readOneDream 9 = .ok (.bipush (-9), 2) := by decide +kernel
theorem dX8_readOneDream_11 : decode cX8_readOneDream 11 = .ok (.if_icmp .ne 8, 3) := by decide +kernel
theorem dX8_readOneDream_14 : decode cX8_readOneDream 14 = .ok (.bipush (-9), 2) := by decide +kernel
theorem dX8_readOneDream_16 : decode cX8_readOneDream 16 = .ok (.goto 9, 3) := by decide +kernel
theorem dX8_readOneDream_19 : decode cX8_readOneDream 19 = .ok (.aload_n 0, 1) := by decide +kernel
theorem dX8_readOneDream_20 : decode cX8_readOneDream 20 = .ok (.iconst 0, 1) := by decide +kernel
theorem dX8_readOneDream_21 : decode cX8_readOneDream 21 = .ok (.iconst 3, 1) := by decide +kernel
theorem dX8_readOneDream_22 : decode cX8_readOneDream 22 = .ok (.invokevirtual 84, 3) := by decide +kernel
theorem dX8_readOneDream_25 : decode cX8_readOneDream 25 = .ok (.istore_n 2, 1) := by decide +kernel
theorem dX8_readOneDream_26 : decode cX8_readOneDream 26 = .ok (.iload_n 2, 1) := by decide +kernel
theorem dX8_readOneDream_27 : decode cX8_readOneDream 27 = .ok (.bipush (-9), 2) := by decide +kernel
theorem dX8_readOneDream_29 : decode cX8_readOneDream 29 = .ok (.if_icmp .ne 5, 3) := by decide +kernel
theorem dX8_readOneDream_32 : decode cX8_readOneDream 32 = .ok (.iconst 0, 1) := by decide +kernel
theorem dX8_readOneDream_33 : decode cX8_readOneDream 33 = .ok (.ireturn, 1) := by decide +kernel
theorem dX8_readOneDream_34 : decode cX8_readOneDream 34 = .ok (.aload_n 0, 1) := by decide +kernel
theorem dX8_readOneDream_35 : decode cX8_readOneDream 35 = .ok (.getfield 28, 3) := by decide +kernel
theorem dX8_readOneDream_38 : decode cX8_readOneDream 38 = .ok (.iconst 2, 1) := by decide +kernel
theorem dX8_readOneDream_39 : decode cX8_readOneDream 39 = .ok (.aload_n 0, 1) := by decide +kernel
theorem dX8_readOneDream_40 : decode cX8_readOneDream 40 = .ok (.getfield 94, 3) := by decide +kernel
theorem dX8_readOneDream_43 : decode cX8_readOneDream 43 = .ok (.imul, 1) := by decide +kernel
theorem dX8_readOneDream_44 : decode cX8_readOneDream 44 = .ok (.iload_n 1, 1) := by decide +kernel
theorem dX8_readOneDream_45 : decode cX8_readOneDream 45 = .ok (.iastore, 1) := by decide +kernel
theorem dX8_readOneDream_46 : decode cX8_readOneDream 46 = .ok (.aload_n 0, 1) := by decide +kernel
theorem dX8_readOneDream_47 : decode cX8_readOneDream 47 = .ok (.getfield 28, 3) := by decide +kernel
theorem dX8_readOneDream_50 : decode cX8_readOneDream 50 = .ok (.iconst 2, 1) := by decide +kernel
theorem dX8_readOneDream_51 : decode cX8_readOneDream 51 = .ok (.aload_n 0, 1) := by decide +kernel
theorem dX8_readOneDream_52 : decode cX8_readOneDream 52 = .ok (.getfield 94, 3) := by decide +kernel
theorem dX8_readOneDream_55 : decode cX8_readOneDream 55 = .ok (.imul, 1) := by decide +kernel
theorem dX8_readOneDream_56 : decode cX8_readOneDream 56 = .ok (.iconst 1, 1) := by decide +kernel
theorem dX8_readOneDream_57 : decode cX8_readOneDream 57 = .ok (.iadd, 1) := by decide +kernel
theorem dX8_readOneDream_58 : decode cX8_readOneDream 58 = .ok (.iload_n 2, 1) := by decide +kernel
theorem dX8_readOneDream_59 : decode cX8_readOneDream 59 = .ok (.iastore, 1) := by decide +kernel
theorem dX8_readOneDream_60 : decode cX8_readOneDream 60 = .ok (.aload_n 0, 1) := by decide +kernel
theorem dX8_readOneDream_61 : decode cX8_readOneDream 61 = .ok (.dup, 1) := by decide +kernel
theorem dX8_readOneDream_62 : decode cX8_readOneDream 62 = .ok (.getfield 94, 3) := by decide +kernel
theorem dX8_readOneDream_65 : decode cX8_readOneDream 65 = .ok (.iconst 1, 1) := by decide +kernel
theorem dX8_readOneDream_66 : decode cX8_readOneDream 66 = .ok (.iadd, 1) := by decide +kernel
theorem dX8_readOneDream_67 : decode cX8_readOneDream 67 = .ok (.putfield 94, 3) := by decide +kernel
theorem dX8_readOneDream_70 : decode cX8_readOneDream 70 = .ok (.iconst 1, 1) := by decide +kernel
theorem dX8_readOneDream_71 : decode cX8_readOneDream 71 = .ok (.ireturn, 1) := by decide +kernel
theorem dX8_readThing_0 : decode cX8_readThing 0 = .ok (.aload_n 0, 1) := by decide +kernel
theorem dX8_readThing_1 : decode cX8_readThing 1 = .ok (.getfield 7, 3) := by decide +kernel
theorem dX8_readThing_4 : decode cX8_readThing 4 = .ok (.aload_n 0, 1) := by decide +kernel
theorem dX8_readThing_5 : decode cX8_readThing 5 = .ok (.getfield 81, 3) := by decide +kernel
theorem dX8_readThing_8 : decode cX8_readThing 8 = .ok (.iaload, 1) := by decide +kernel
theorem dX8_readThing_9 : decode cX8_readThing 9 = .ok (.istore_n 1, 1) := by decide +kernel
theorem dX8_readThing_10 : decode cX8_readThing 10 = .ok (.aload_n 0, 1) := by decide +kernel
theorem dX8_readThing_11 : decode cX8_readThing 11 = .ok (.dup, 1) := by decide +kernel
theorem dX8_readThing_12 : decode cX8_readThing 12 = .ok (.getfield 81, 3) := by decide +kernel
theorem dX8_readThing_15 : decode cX8_readThing 15 = .ok (.iconst 1, 1) := by decide +kernel
theorem dX8_readThing_16 : decode cX8_readThing 16 = .ok (.iadd, 1) := by decide +kernel
theorem dX8_readThing_17 : decode cX8_readThing 17 = .ok (.putfield 81, 3) := by decide +kernel
theorem dX8_readThing_20 : decode cX8_readThing 20 = .ok (.iload_n 1, 1) := by decide +kernel
theorem dX8_readThing_21 : decode cX8_readThing 21 = .ok (.bipush 84, 2) := by decide +kernel
theorem dX8_readThing_23 : decode cX8_readThing 23 = .ok (.if_icmp .ne 16, 3) := by decide +kernel
theorem dX8_readThing_26 : decode cX8_readThing 26 = .ok (.aload_n 0, 1) := by decide +kernel
theorem dX8_readThing_27 : decode cX8_readThing 27 = .ok (.getfield 88, 3) := by decide +kernel
theorem dX8_readThing_30 : decode cX8_readThing 30 = .ok (.iconst 4, 1) := by decide +kernel
theorem dX8_readThing_31 : decode cX8_readThing 31 = .ok (.if_icmp .ge 8, 3) := by decide +kernel
theorem dX8_readThing_34 : decode cX8_readThing 34 = .ok (.aload_n 0, 1) := by decide +kernel
theorem dX8_readThing_35 : decode cX8_readThing 35 = .ok (.invokevirtual 97, 3) := by decide +kernel
theorem dX8_readThing_38 : decode cX8_readThing 38 = .ok (.ireturn, 1) := by decide +kernel
theorem dX8_readThing_39 : decode cX8_readThing 39 = .ok (.iload_n 1, 1) := by decide +kernel
theorem dX8_readThing_40 : decode cX8_readThing 40 = .ok (.bipush 66, 2) := by decide +kernel
theorem dX8_readThing_42 : decode cX8_readThing 42 = .ok (.if_icmp .ne 16, 3) := by decide +kernel
theorem dX8_readThing_45 : decode cX8_readThing 45 = .ok (.aload_n 0, 1) := by decide +kernel
theorem dX8_readThing_46 : decode cX8_readThing 46 = .ok (.getfield 91, 3) := by decide +kernel
theorem dX8_readThing_49 : decode cX8_readThing 49 = .ok (.iconst 4, 1) := by decide +kernel
theorem dX8_readThing_50 : decode cX8_readThing 50 = .ok (.if_icmp .ge 8, 3) := by decide +kernel
theorem dX8_readThing_53 : decode cX8_readThing 53 = .ok (.aload_n 0, 1) := by decide +kernel
theorem dX8_readThing_54 : decode cX8_readThing 54 = .ok (.invokevirtual 101, 3) := by decide +kernel
theorem dX8_readThing_57 : decode cX8_readThing 57 = .ok (.ireturn, 1) := by decide +kernel
theorem dX8_readThing_58 : decode cX8_readThing 58 = .ok (.iload_n 1, 1) := by decide +kernel
theorem dX8_readThing_59 : decode cX8_readThing 59 = .ok (.bipush 68, 2) := by decide +kernel
theorem dX8_readThing_61 : decode cX8_readThing 61 = .ok (.if_icmp .ne 16, 3) := by decide +kernel
theorem dX8_readThing_64 : decode cX8_readThing 64 = .ok (.aload_n 0, 1) := by decide +kernel
theorem dX8_readThing_65 : decode cX8_readThing 65 = .ok (.getfield 94, 3) := by decide +kernel
theorem dX8_readThing_68 : decode cX8_readThing 68 = .ok (.iconst 5, 1) := by decide +kernel
theorem dX8_readThing_69 : decode cX8_readThing 69 = .ok (.if_icmp .ge 8, 3) := by decide +kernel
theorem dX8_readThing_72 : decode cX8_readThing 72 = .ok (.aload_n 0, 1) := by decide +kernel
theorem dX8_readThing_73 : decode cX8_readThing 73 = .ok (.invokevirtual 104, 3) := by decide +kernel
theorem dX8_readThing_76 : decode cX8_readThing 76 = .ok (.ireturn, 1) := by decide +kernel
theorem dX8_readThing_77 : decode cX8_readThing 77 = .ok (.aload_n 0, 1) := by decide +kernel
theorem dX8_readThing_78 : decode cX8_readThing 78 = .ok (.dup, 1) := by decide +kernel
theorem dX8_readThing_79 : decode cX8_readThing 79 = .ok (.getfield 81, 3) := by decide +kernel
theorem dX8_readThing_82 : decode cX8_readThing 82 = .ok (.iconst 1, 1) := by decide +kernel
theorem dX8_readThing_83 : decode cX8_readThing 83 = .ok (.isub, 1) := by decide +kernel
theorem dX8_readThing_84 : decode cX8_readThing 84 = .ok (.putfield 81, 3) := by decide +kernel
theorem dX8_readThing_87 : decode cX8_readThing 87 = .ok (.iconst 0, 1) := by decide +kernel
theorem dX8_readThing_88 : decode cX8_readThing 88 = .ok (.ireturn, 1) := by decide +kernel
theorem dX8_readPort_0 : decode cX8_readPort 0 = .ok (.aload_n 0, 1) := by decide +kernel
theorem dX8_readPort_1 : decode cX8_readPort 1 = .ok (.iconst 0, 1) := by decide +kernel
theorem dX8_readPort_2 : decode cX8_readPort 2 = .ok (.putfield 81, 3) := by decide +kernel
theorem dX8_readPort_5 : decode cX8_readPort 5 = .ok (.aload_n 0, 1) := by decide +kernel
theorem dX8_readPort_6 : decode cX8_readPort 6 = .ok (.iconst 0, 1) := by decide +kernel
theorem dX8_readPort_7 : decode cX8_readPort 7 = .ok (.putfield 88, 3) := by decide +kernel
theorem dX8_readPort_10 : decode cX8_readPort 10 = .ok (.aload_n 0, 1) := by decide +kernel
theorem dX8_readPort_11 : decode cX8_readPort 11 = .ok (.iconst 0, 1) := by decide +kernel
theorem dX8_readPort_12 : decode cX8_readPort 12 = .ok (.putfield 91, 3) := by decide +kernel
theorem dX8_readPort_15 : decode cX8_readPort 15 = .ok (.aload_n 0, 1) := by decide +kernel
theorem dX8_readPort_16 : decode cX8_readPort 16 = .ok (.iconst 0, 1) := by decide +kernel
theorem dX8_readPort_17 : decode cX8_readPort 17 = .ok (.putfield 94, 3) := by decide +kernel
theorem dX8_readPort_20 : decode cX8_readPort 20 = .ok (.aload_n 0, 1) := by decide +kernel
theorem dX8_readPort_21 : decode cX8_readPort 21 = .ok (.getfield 78, 3) := by decide +kernel
theorem dX8_readPort_24 : decode cX8_readPort 24 = .ok (.ifCond .eq 14, 3) := by decide +kernel
theorem dX8_readPort_27 : decode cX8_readPort 27 = .ok (.aload_n 0, 1) := by decide +kernel
theorem dX8_readPort_28 : decode cX8_readPort 28 = .ok (.getfield 7, 3) := by decide +kernel
theorem dX8_readPort_31 : decode cX8_readPort 31 = .ok (.iconst 0, 1) := by decide +kernel
theorem dX8_readPort_32 : decode cX8_readPort 32 = .ok (.iaload, 1) := by decide +kernel
theorem dX8_readPort_33 : decode cX8_readPort 33 = .ok (.bipush 72, 2) := by decide +kernel
theorem dX8_readPort_35 : decode cX8_readPort 35 = .ok (.if_icmp .eq 5, 3) := by decide +kernel
theorem dX8_readPort_38 : decode cX8_readPort 38 = .ok (.iconst 0, 1) := by decide +kernel
theorem dX8_readPort_39 : decode cX8_readPort 39 = .ok (.ireturn, 1) := by decide +kernel
theorem dX8_readPort_40 : decode cX8_readPort 40 = .ok (.aload_n 0, 1) := by decide +kernel
theorem dX8_readPort_41 : decode cX8_readPort 41 = .ok (.iconst 1, 1) := by decide +kernel
theorem dX8_readPort_42 : decode cX8_readPort 42 = .ok (.putfield 81, 3) := by decide +kernel
theorem dX8_readPort_45 : decode cX8_readPort 45 = .ok (.aload_n 0, 1) := by decide +kernel
theorem dX8_readPort_46 : decode cX8_readPort 46 = .ok (.getfield 81, 3) := by decide +kernel
theorem dX8_readPort_49 : decode cX8_readPort 49 = .ok (.aload_n 0, 1) := by decide +kernel
theorem dX8_readPort_50 : decode cX8_readPort 50 = .ok (.getfield 78, 3) := by decide +kernel
theorem dX8_readPort_53 : decode cX8_readPort 53 = .ok (.if_icmp .ge 15, 3) := by decide +kernel
theorem dX8_readPort_56 : decode cX8_readPort 56 = .ok (.aload_n 0, 1) := by decide +kernel
theorem dX8_readPort_57 : decode cX8_readPort 57 = .ok (.invokevirtual 107, 3) := by decide +kernel
theorem dX8_readPort_60 : decode cX8_readPort 60 = .ok (.ifCond .ne (-15), 3) := by decide +kernel
theorem dX8_readPort_63 : decode cX8_readPort 63 = .ok (.aload_n 0, 1) := by decide +kernel
theorem dX8_readPort_64 : decode cX8_readPort 64 = .ok (.getfield 81, 3) := by decide +kernel
theorem dX8_readPort_67 : decode cX8_readPort 67 = .ok (.ireturn, 1) := by decide +kernel
theorem dX8_readPort_68 : decode cX8_readPort 68 = .ok (.bipush (-9), 2) := by decide +kernel
theorem dX8_readPort_70 : decode cX8_readPort 70 = .ok (.ireturn, 1) := by decide +kernel
theorem dX8_fault_0 : decode cX8_fault 0 = .ok (.aload_n 0, 1) := by decide +kernel
theorem dX8_fault_1 : decode cX8_fault 1 = .ok (.iconst 0, 1) := by decide +kernel
theorem dX8_fault_2 : decode cX8_fault 2 = .ok (.putfield 62, 3) := by decide +kernel
theorem dX8_fault_5 : decode cX8_fault 5 = .ok (.aload_n 0, 1) := by decide +kernel
theorem dX8_fault_6 : decode cX8_fault 6 = .ok (.invokevirtual 110, 3) := by decide +kernel
theorem dX8_fault_9 : decode cX8_fault 9 = .ok (.ireturn, 1) := by decide +kernel
theorem dX8_port_0 : decode cX8_port 0 = .ok (.aload_n 0, 1) := by decide +kernel
theorem dX8_port_1 : decode cX8_port 1 = .ok (.iconst 0, 1) := by decide +kernel
theorem dX8_port_2 : decode cX8_port 2 = .ok (.putfield 62, 3) := by decide +kernel
theorem dX8_port_5 : decode cX8_port 5 = .ok (.aload_n 0, 1) := by decide +kernel
theorem dX8_port_6 : decode cX8_port 6 = .ok (.invokevirtual 110, 3) := by decide +kernel
theorem dX8_port_9 : decode cX8_port 9 = .ok (.bipush (-9), 2) := by decide +kernel
theorem dX8_port_11 : decode cX8_port 11 = .ok (.if_icmp .eq 6, 3) := by decide +kernel
theorem dX8_port_14 : decode cX8_port 14 = .ok (.bipush (-3), 2) := by decide +kernel
theorem dX8_port_16 : decode cX8_port 16 = .ok (.ireturn, 1) := by decide +kernel
theorem dX8_port_17 : decode cX8_port 17 = .ok (.aload_n 0, 1) := by decide +kernel
theorem dX8_port_18 : decode cX8_port 18 = .ok (.aload_n 0, 1) := by decide +kernel
theorem dX8_port_19 : decode cX8_port 19 = .ok (.getfield 88, 3) := by decide +kernel
theorem dX8_port_22 : decode cX8_port 22 = .ok (.putfield 114, 3) := by decide +kernel
theorem dX8_port_25 : decode cX8_port 25 = .ok (.aload_n 0, 1) := by decide +kernel
theorem dX8_port_26 : decode cX8_port 26 = .ok (.aload_n 0, 1) := by decide +kernel
theorem dX8_port_27 : decode cX8_port 27 = .ok (.getfield 91, 3) := by decide +kernel
theorem dX8_port_30 : decode cX8_port 30 = .ok (.putfield 66, 3) := by decide +kernel
theorem dX8_port_33 : decode cX8_port 33 = .ok (.aload_n 0, 1) := by decide +kernel
theorem dX8_port_34 : decode cX8_port 34 = .ok (.aload_n 0, 1) := by decide +kernel
theorem dX8_port_35 : decode cX8_port 35 = .ok (.getfield 94, 3) := by decide +kernel
theorem dX8_port_38 : decode cX8_port 38 = .ok (.putfield 73, 3) := by decide +kernel
theorem dX8_port_41 : decode cX8_port 41 = .ok (.iconst 0, 1) := by decide +kernel
theorem dX8_port_42 : decode cX8_port 42 = .ok (.istore_n 1, 1) := by decide +kernel
theorem dX8_port_43 : decode cX8_port 43 = .ok (.iload_n 1, 1) := by decide +kernel
theorem dX8_port_44 : decode cX8_port 44 = .ok (.bipush 24, 2) := by decide +kernel
theorem dX8_port_46 : decode cX8_port 46 = .ok (.if_icmp .ge 16, 3) := by decide +kernel
theorem dX8_port_49 : decode cX8_port 49 = .ok (.aload_n 0, 1) := by decide +kernel
theorem dX8_port_50 : decode cX8_port 50 = .ok (.getfield 31, 3) := by decide +kernel
theorem dX8_port_53 : decode cX8_port 53 = .ok (.iload_n 1, 1) := by decide +kernel
theorem dX8_port_54 : decode cX8_port 54 = .ok (.iconst 0, 1) := by decide +kernel
theorem dX8_port_55 : decode cX8_port 55 = .ok (.iastore, 1) := by decide +kernel
theorem dX8_port_56 : decode cX8_port 56 = .ok (.iinc 1 1, 3) := by decide +kernel
theorem dX8_port_59 : decode cX8_port 59 = .ok (.goto (-16), 3) := by decide +kernel
theorem dX8_port_62 : decode cX8_port 62 = .ok (.iconst 0, 1) := by decide +kernel
theorem dX8_port_63 : decode cX8_port 63 = .ok (.istore_n 1, 1) := by decide +kernel
theorem dX8_port_64 : decode cX8_port 64 = .ok (.iload_n 1, 1) := by decide +kernel
theorem dX8_port_65 : decode cX8_port 65 = .ok (.aload_n 0, 1) := by decide +kernel
theorem dX8_port_66 : decode cX8_port 66 = .ok (.getfield 114, 3) := by decide +kernel
theorem dX8_port_69 : decode cX8_port 69 = .ok (.if_icmp .ge 21, 3) := by decide +kernel
theorem dX8_port_72 : decode cX8_port 72 = .ok (.aload_n 0, 1) := by decide +kernel
theorem dX8_port_73 : decode cX8_port 73 = .ok (.getfield 13, 3) := by decide +kernel
theorem dX8_port_76 : decode cX8_port 76 = .ok (.iload_n 1, 1) := by decide +kernel
theorem dX8_port_77 : decode cX8_port 77 = .ok (.aload_n 0, 1) := by decide +kernel
theorem dX8_port_78 : decode cX8_port 78 = .ok (.getfield 22, 3) := by decide +kernel
theorem dX8_port_81 : decode cX8_port 81 = .ok (.iload_n 1, 1) := by decide +kernel
theorem dX8_port_82 : decode cX8_port 82 = .ok (.iaload, 1) := by decide +kernel
theorem dX8_port_83 : decode cX8_port 83 = .ok (.iastore, 1) := by decide +kernel
theorem dX8_port_84 : decode cX8_port 84 = .ok (.iinc 1 1, 3) := by decide +kernel
theorem dX8_port_87 : decode cX8_port 87 = .ok (.goto (-23), 3) := by decide +kernel
theorem dX8_port_90 : decode cX8_port 90 = .ok (.iconst 0, 1) := by decide +kernel
theorem dX8_port_91 : decode cX8_port 91 = .ok (.istore_n 1, 1) := by decide +kernel
theorem dX8_port_92 : decode cX8_port 92 = .ok (.iload_n 1, 1) := by decide +kernel
theorem dX8_port_93 : decode cX8_port 93 = .ok (.aload_n 0, 1) := by decide +kernel
theorem dX8_port_94 : decode cX8_port 94 = .ok (.getfield 66, 3) := by decide +kernel
theorem dX8_port_97 : decode cX8_port 97 = .ok (.if_icmp .ge 42, 3) := by decide +kernel
theorem dX8_port_100 : decode cX8_port 100 = .ok (.aload_n 0, 1) := by decide +kernel
theorem dX8_port_101 : decode cX8_port 101 = .ok (.getfield 31, 3) := by decide +kernel
theorem dX8_port_104 : decode cX8_port 104 = .ok (.bipush 15, 2) := by decide +kernel
theorem dX8_port_106 : decode cX8_port 106 = .ok (.iload_n 1, 1) := by decide +kernel
theorem dX8_port_107 : decode cX8_port 107 = .ok (.iadd, 1) := by decide +kernel
theorem dX8_port_108 : decode cX8_port 108 = .ok (.aload_n 0, 1) := by decide +kernel
theorem dX8_port_109 : decode cX8_port 109 = .ok (.getfield 25, 3) := by decide +kernel
theorem dX8_port_112 : decode cX8_port 112 = .ok (.iconst 2, 1) := by decide +kernel
theorem dX8_port_113 : decode cX8_port 113 = .ok (.iload_n 1, 1) := by decide +kernel
theorem dX8_port_114 : decode cX8_port 114 = .ok (.imul, 1) := by decide +kernel
theorem dX8_port_115 : decode cX8_port 115 = .ok (.iaload, 1) := by decide +kernel
theorem dX8_port_116 : decode cX8_port 116 = .ok (.iastore, 1) := by decide +kernel
theorem dX8_port_117 : decode cX8_port 117 = .ok (.aload_n 0, 1) := by decide +kernel
theorem dX8_port_118 : decode cX8_port 118 = .ok (.getfield 16, 3) := by decide +kernel
theorem dX8_port_121 : decode cX8_port 121 = .ok (.iload_n 1, 1) := by decide +kernel
theorem dX8_port_122 : decode cX8_port 122 = .ok (.aload_n 0, 1) := by decide +kernel
theorem dX8_port_123 : decode cX8_port 123 = .ok (.getfield 25, 3) := by decide +kernel
theorem dX8_port_126 : decode cX8_port 126 = .ok (.iconst 2, 1) := by decide +kernel
theorem dX8_port_127 : decode cX8_port 127 = .ok (.iload_n 1, 1) := by decide +kernel
theorem dX8_port_128 : decode cX8_port 128 = .ok (.imul, 1) := by decide +kernel
theorem dX8_port_129 : decode cX8_port 129 = .ok (.iconst 1, 1) := by decide +kernel
theorem dX8_port_130 : decode cX8_port 130 = .ok (.iadd, 1) := by decide +kernel
theorem dX8_port_131 : decode cX8_port 131 = .ok (.iaload, 1) := by decide +kernel
theorem dX8_port_132 : decode cX8_port 132 = .ok (.iastore, 1) := by decide +kernel
theorem dX8_port_133 : decode cX8_port 133 = .ok (.iinc 1 1, 3) := by decide +kernel
theorem dX8_port_136 : decode cX8_port 136 = .ok (.goto (-44), 3) := by decide +kernel
theorem dX8_port_139 : decode cX8_port 139 = .ok (.iconst 0, 1) := by decide +kernel
theorem dX8_port_140 : decode cX8_port 140 = .ok (.istore_n 1, 1) := by decide +kernel
theorem dX8_port_141 : decode cX8_port 141 = .ok (.iload_n 1, 1) := by decide +kernel
theorem dX8_port_142 : decode cX8_port 142 = .ok (.aload_n 0, 1) := by decide +kernel
theorem dX8_port_143 : decode cX8_port 143 = .ok (.getfield 73, 3) := by decide +kernel
theorem dX8_port_146 : decode cX8_port 146 = .ok (.if_icmp .ge 50, 3) := by decide +kernel
theorem dX8_port_149 : decode cX8_port 149 = .ok (.aload_n 0, 1) := by decide +kernel
theorem dX8_port_150 : decode cX8_port 150 = .ok (.getfield 31, 3) := by decide +kernel
theorem dX8_port_153 : decode cX8_port 153 = .ok (.iload_n 1, 1) := by decide +kernel
theorem dX8_port_154 : decode cX8_port 154 = .ok (.bipush 8, 2) := by decide +kernel
theorem dX8_port_156 : decode cX8_port 156 = .ok (.iastore, 1) := by decide +kernel
theorem dX8_port_157 : decode cX8_port 157 = .ok (.aload_n 0, 1) := by decide +kernel
theorem dX8_port_158 : decode cX8_port 158 = .ok (.getfield 31, 3) := by decide +kernel
theorem dX8_port_161 : decode cX8_port 161 = .ok (.bipush 10, 2) := by decide +kernel
theorem dX8_port_163 : decode cX8_port 163 = .ok (.iload_n 1, 1) := by decide +kernel
theorem dX8_port_164 : decode cX8_port 164 = .ok (.iadd, 1) := by decide +kernel
theorem dX8_port_165 : decode cX8_port 165 = .ok (.aload_n 0, 1) := by decide +kernel
theorem dX8_port_166 : decode cX8_port 166 = .ok (.getfield 28, 3) := by decide +kernel
theorem dX8_port_169 : decode cX8_port 169 = .ok (.iconst 2, 1) := by decide +kernel
theorem dX8_port_170 : decode cX8_port 170 = .ok (.iload_n 1, 1) := by decide +kernel
theorem dX8_port_171 : decode cX8_port 171 = .ok (.imul, 1) := by decide +kernel
theorem dX8_port_172 : decode cX8_port 172 = .ok (.iaload, 1) := by decide +kernel
theorem dX8_port_173 : decode cX8_port 173 = .ok (.iastore, 1) := by decide +kernel
theorem dX8_port_174 : decode cX8_port 174 = .ok (.aload_n 0, 1) := by decide +kernel
theorem dX8_port_175 : decode cX8_port 175 = .ok (.getfield 19, 3) := by decide +kernel
theorem dX8_port_178 : decode cX8_port 178 = .ok (.iload_n 1, 1) := by decide +kernel
theorem dX8_port_179 : decode cX8_port 179 = .ok (.aload_n 0, 1) := by decide +kernel
theorem dX8_port_180 : decode cX8_port 180 = .ok (.getfield 28, 3) := by decide +kernel
theorem dX8_port_183 : decode cX8_port 183 = .ok (.iconst 2, 1) := by decide +kernel
theorem dX8_port_184 : decode cX8_port 184 = .ok (.iload_n 1, 1) := by decide +kernel
theorem dX8_port_185 : decode cX8_port 185 = .ok (.imul, 1) := by decide +kernel
theorem dX8_port_186 : decode cX8_port 186 = .ok (.iconst 1, 1) := by decide +kernel
theorem dX8_port_187 : decode cX8_port 187 = .ok (.iadd, 1) := by decide +kernel
theorem dX8_port_188 : decode cX8_port 188 = .ok (.iaload, 1) := by decide +kernel
theorem dX8_port_189 : decode cX8_port 189 = .ok (.iastore, 1) := by decide +kernel
theorem dX8_port_190 : decode cX8_port 190 = .ok (.iinc 1 1, 3) := by decide +kernel
theorem dX8_port_193 : decode cX8_port 193 = .ok (.goto (-52), 3) := by decide +kernel
theorem dX8_port_196 : decode cX8_port 196 = .ok (.aload_n 0, 1) := by decide +kernel
theorem dX8_port_197 : decode cX8_port 197 = .ok (.iconst 0, 1) := by decide +kernel
theorem dX8_port_198 : decode cX8_port 198 = .ok (.putfield 117, 3) := by decide +kernel
theorem dX8_port_201 : decode cX8_port 201 = .ok (.aload_n 0, 1) := by decide +kernel
theorem dX8_port_202 : decode cX8_port 202 = .ok (.getfield 43, 3) := by decide +kernel
theorem dX8_port_205 : decode cX8_port 205 = .ok (.iconst 0, 1) := by decide +kernel
theorem dX8_port_206 : decode cX8_port 206 = .ok (.iconst 0, 1) := by decide +kernel
theorem dX8_port_207 : decode cX8_port 207 = .ok (.bastore, 1) := by decide +kernel
theorem dX8_port_208 : decode cX8_port 208 = .ok (.aload_n 0, 1) := by decide +kernel
theorem dX8_port_209 : decode cX8_port 209 = .ok (.getfield 43, 3) := by decide +kernel
theorem dX8_port_212 : decode cX8_port 212 = .ok (.iconst 1, 1) := by decide +kernel
theorem dX8_port_213 : decode cX8_port 213 = .ok (.iconst 0, 1) := by decide +kernel
theorem dX8_port_214 : decode cX8_port 214 = .ok (.bastore, 1) := by decide +kernel
theorem dX8_port_215 : decode cX8_port 215 = .ok (.bipush 100, 2) := by decide +kernel
theorem dX8_port_217 : decode cX8_port 217 = .ok (.aload_n 0, 1) := by decide +kernel
theorem dX8_port_218 : decode cX8_port 218 = .ok (.getfield 114, 3) := by decide +kernel
theorem dX8_port_221 : decode cX8_port 221 = .ok (.imul, 1) := by decide +kernel
theorem dX8_port_222 : decode cX8_port 222 = .ok (.bipush 10, 2) := by decide +kernel
theorem dX8_port_224 : decode cX8_port 224 = .ok (.aload_n 0, 1) := by decide +kernel
theorem dX8_port_225 : decode cX8_port 225 = .ok (.getfield 66, 3) := by decide +kernel
theorem dX8_port_228 : decode cX8_port 228 = .ok (.imul, 1) := by decide +kernel
theorem dX8_port_229 : decode cX8_port 229 = .ok (.iadd, 1) := by decide +kernel
theorem dX8_port_230 : decode cX8_port 230 = .ok (.aload_n 0, 1) := by decide +kernel
theorem dX8_port_231 : decode cX8_port 231 = .ok (.getfield 73, 3) := by decide +kernel
theorem dX8_port_234 : decode cX8_port 234 = .ok (.iadd, 1) := by decide +kernel
theorem dX8_port_235 : decode cX8_port 235 = .ok (.ireturn, 1) := by decide +kernel
theorem dX8_tideOf_0 : decode cX8_tideOf 0 = .ok (.aload_n 0, 1) := by decide +kernel
theorem dX8_tideOf_1 : decode cX8_tideOf 1 = .ok (.getfield 114, 3) := by decide +kernel
theorem dX8_tideOf_4 : decode cX8_tideOf 4 = .ok (.ifCond .ne 7, 3) := by decide +kernel
theorem dX8_tideOf_7 : decode cX8_tideOf 7 = .ok (.iconst 0, 1) := by decide +kernel
theorem dX8_tideOf_8 : decode cX8_tideOf 8 = .ok (.goto 14, 3) := by decide +kernel
theorem dX8_tideOf_11 : decode cX8_tideOf 11 = .ok (.aload_n 0, 1) := by decide +kernel
theorem dX8_tideOf_12 : decode cX8_tideOf 12 = .ok (.getfield 13, 3) := by decide +kernel
theorem dX8_tideOf_15 : decode cX8_tideOf 15 = .ok (.iload_n 1, 1) := by decide +kernel
theorem dX8_tideOf_16 : decode cX8_tideOf 16 = .ok (.aload_n 0, 1) := by decide +kernel
theorem dX8_tideOf_17 : decode cX8_tideOf 17 = .ok (.getfield 114, 3) := by decide +kernel
theorem dX8_tideOf_20 : decode cX8_tideOf 20 = .ok (.irem, 1) := by decide +kernel
theorem dX8_tideOf_21 : decode cX8_tideOf 21 = .ok (.iaload, 1) := by decide +kernel
theorem dX8_tideOf_22 : decode cX8_tideOf 22 = .ok (.ireturn, 1) := by decide +kernel
theorem dX8_waterOf_0 : decode cX8_waterOf 0 = .ok (.aload_n 1, 1) := by decide +kernel
theorem dX8_waterOf_1 : decode cX8_waterOf 1 = .ok (.bipush 15, 2) := by decide +kernel
theorem dX8_waterOf_3 : decode cX8_waterOf 3 = .ok (.iload_n 2, 1) := by decide +kernel
theorem dX8_waterOf_4 : decode cX8_waterOf 4 = .ok (.iadd, 1) := by decide +kernel
theorem dX8_waterOf_5 : decode cX8_waterOf 5 = .ok (.iaload, 1) := by decide +kernel
theorem dX8_waterOf_6 : decode cX8_waterOf 6 = .ok (.aload_n 0, 1) := by decide +kernel
theorem dX8_waterOf_7 : decode cX8_waterOf 7 = .ok (.getfield 120, 3) := by decide +kernel
theorem dX8_waterOf_10 : decode cX8_waterOf 10 = .ok (.iload_n 2, 1) := by decide +kernel
theorem dX8_waterOf_11 : decode cX8_waterOf 11 = .ok (.invokestatic 123, 3) := by decide +kernel
theorem dX8_waterOf_14 : decode cX8_waterOf 14 = .ok (.ifCond .eq 7, 3) := by decide +kernel
theorem dX8_waterOf_17 : decode cX8_waterOf 17 = .ok (.iconst 0, 1) := by decide +kernel
theorem dX8_waterOf_18 : decode cX8_waterOf 18 = .ok (.goto 11, 3) := by decide +kernel
theorem dX8_waterOf_21 : decode cX8_waterOf 21 = .ok (.aload_n 0, 1) := by decide +kernel
theorem dX8_waterOf_22 : decode cX8_waterOf 22 = .ok (.aload_n 1, 1) := by decide +kernel
theorem dX8_waterOf_23 : decode cX8_waterOf 23 = .ok (.bipush 23, 2) := by decide +kernel
theorem dX8_waterOf_25 : decode cX8_waterOf 25 = .ok (.iaload, 1) := by decide +kernel
theorem dX8_waterOf_26 : decode cX8_waterOf 26 = .ok (.invokevirtual 127, 3) := by decide +kernel
theorem dX8_waterOf_29 : decode cX8_waterOf 29 = .ok (.iadd, 1) := by decide +kernel
theorem dX8_waterOf_30 : decode cX8_waterOf 30 = .ok (.ireturn, 1) := by decide +kernel
theorem dX8_dreamsAt_0 : decode cX8_dreamsAt 0 = .ok (.iconst 0, 1) := by decide +kernel
theorem dX8_dreamsAt_1 : decode cX8_dreamsAt 1 = .ok (.istore_n 3, 1) := by decide +kernel
theorem dX8_dreamsAt_2 : decode cX8_dreamsAt 2 = .ok (.iconst 0, 1) := by decide +kernel
theorem dX8_dreamsAt_3 : decode cX8_dreamsAt 3 = .ok (.istore 4, 2) := by decide +kernel
theorem dX8_dreamsAt_5 : decode cX8_dreamsAt 5 = .ok (.iload 4, 2) := by decide +kernel
theorem dX8_dreamsAt_7 : decode cX8_dreamsAt 7 = .ok (.aload_n 0, 1) := by decide +kernel
theorem dX8_dreamsAt_8 : decode cX8_dreamsAt 8 = .ok (.getfield 73, 3) := by decide +kernel
theorem dX8_dreamsAt_11 : decode cX8_dreamsAt 11 = .ok (.if_icmp .ge 28, 3) := by decide +kernel
theorem dX8_dreamsAt_14 : decode cX8_dreamsAt 14 = .ok (.iload_n 3, 1) := by decide +kernel
theorem dX8_dreamsAt_15 : decode cX8_dreamsAt 15 = .ok (.aload_n 1, 1) := by decide +kernel
theorem dX8_dreamsAt_16 : decode cX8_dreamsAt 16 = .ok (.iload 4, 2) := by decide +kernel
theorem dX8_dreamsAt_18 : decode cX8_dreamsAt 18 = .ok (.iaload, 1) := by decide +kernel
theorem dX8_dreamsAt_19 : decode cX8_dreamsAt 19 = .ok (.iload_n 2, 1) := by decide +kernel
theorem dX8_dreamsAt_20 : decode cX8_dreamsAt 20 = .ok (.if_icmp .ne 10, 3) := by decide +kernel
theorem dX8_dreamsAt_23 : decode cX8_dreamsAt 23 = .ok (.iconst 1, 1) := by decide +kernel
theorem dX8_dreamsAt_24 : decode cX8_dreamsAt 24 = .ok (.iload 4, 2) := by decide +kernel
theorem dX8_dreamsAt_26 : decode cX8_dreamsAt 26 = .ok (.ishl, 1) := by decide +kernel
theorem dX8_dreamsAt_27 : decode cX8_dreamsAt 27 = .ok (.goto 4, 3) := by decide +kernel
theorem dX8_dreamsAt_30 : decode cX8_dreamsAt 30 = .ok (.iconst 0, 1) := by decide +kernel
theorem dX8_dreamsAt_31 : decode cX8_dreamsAt 31 = .ok (.ior, 1) := by decide +kernel
theorem dX8_dreamsAt_32 : decode cX8_dreamsAt 32 = .ok (.istore_n 3, 1) := by decide +kernel
theorem dX8_dreamsAt_33 : decode cX8_dreamsAt 33 = .ok (.iinc 4 1, 3) := by decide +kernel
theorem dX8_dreamsAt_36 : decode cX8_dreamsAt 36 = .ok (.goto (-31), 3) := by decide +kernel
theorem dX8_dreamsAt_39 : decode cX8_dreamsAt 39 = .ok (.iload_n 3, 1) := by decide +kernel
theorem dX8_dreamsAt_40 : decode cX8_dreamsAt 40 = .ok (.ireturn, 1) := by decide +kernel
theorem dX8_berthed_0 : decode cX8_berthed 0 = .ok (.iconst 0, 1) := by decide +kernel
theorem dX8_berthed_1 : decode cX8_berthed 1 = .ok (.istore_n 2, 1) := by decide +kernel
theorem dX8_berthed_2 : decode cX8_berthed 2 = .ok (.iconst 0, 1) := by decide +kernel
theorem dX8_berthed_3 : decode cX8_berthed 3 = .ok (.istore_n 3, 1) := by decide +kernel
theorem dX8_berthed_4 : decode cX8_berthed 4 = .ok (.iload_n 3, 1) := by decide +kernel
theorem dX8_berthed_5 : decode cX8_berthed 5 = .ok (.aload_n 0, 1) := by decide +kernel
theorem dX8_berthed_6 : decode cX8_berthed 6 = .ok (.getfield 66, 3) := by decide +kernel
theorem dX8_berthed_9 : decode cX8_berthed 9 = .ok (.if_icmp .ge 18, 3) := by decide +kernel
theorem dX8_berthed_12 : decode cX8_berthed 12 = .ok (.iload_n 2, 1) := by decide +kernel
theorem dX8_berthed_13 : decode cX8_berthed 13 = .ok (.aload_n 0, 1) := by decide +kernel
theorem dX8_berthed_14 : decode cX8_berthed 14 = .ok (.aload_n 1, 1) := by decide +kernel
theorem dX8_berthed_15 : decode cX8_berthed 15 = .ok (.iload_n 3, 1) := by decide +kernel
theorem dX8_berthed_16 : decode cX8_berthed 16 = .ok (.invokevirtual 131, 3) := by decide +kernel
theorem dX8_berthed_19 : decode cX8_berthed 19 = .ok (.ior, 1) := by decide +kernel
theorem dX8_berthed_20 : decode cX8_berthed 20 = .ok (.istore_n 2, 1) := by decide +kernel
theorem dX8_berthed_21 : decode cX8_berthed 21 = .ok (.iinc 3 1, 3) := by decide +kernel
theorem dX8_berthed_24 : decode cX8_berthed 24 = .ok (.goto (-20), 3) := by decide +kernel
theorem dX8_berthed_27 : decode cX8_berthed 27 = .ok (.iload_n 2, 1) := by decide +kernel
theorem dX8_berthed_28 : decode cX8_berthed 28 = .ok (.ireturn, 1) := by decide +kernel
theorem dX8_suits_0 : decode cX8_suits 0 = .ok (.aload_n 0, 1) := by decide +kernel
theorem dX8_suits_1 : decode cX8_suits 1 = .ok (.getfield 16, 3) := by decide +kernel
theorem dX8_suits_4 : decode cX8_suits 4 = .ok (.iload_n 3, 1) := by decide +kernel
theorem dX8_suits_5 : decode cX8_suits 5 = .ok (.iaload, 1) := by decide +kernel
theorem dX8_suits_6 : decode cX8_suits 6 = .ok (.iconst 1, 1) := by decide +kernel
theorem dX8_suits_7 : decode cX8_suits 7 = .ok (.if_icmp .ne 23, 3) := by decide +kernel
theorem dX8_suits_10 : decode cX8_suits 10 = .ok (.aload_n 1, 1) := by decide +kernel
theorem dX8_suits_11 : decode cX8_suits 11 = .ok (.bipush 10, 2) := by decide +kernel
theorem dX8_suits_13 : decode cX8_suits 13 = .ok (.iload_n 2, 1) := by decide +kernel
theorem dX8_suits_14 : decode cX8_suits 14 = .ok (.iadd, 1) := by decide +kernel
theorem dX8_suits_15 : decode cX8_suits 15 = .ok (.iaload, 1) := by decide +kernel
theorem dX8_suits_16 : decode cX8_suits 16 = .ok (.iconst 3, 1) := by decide +kernel
theorem dX8_suits_17 : decode cX8_suits 17 = .ok (.if_icmp .gt 17, 3) := by decide +kernel
theorem dX8_suits_20 : decode cX8_suits 20 = .ok (.aload_n 0, 1) := by decide +kernel
theorem dX8_suits_21 : decode cX8_suits 21 = .ok (.getfield 19, 3) := by decide +kernel
theorem dX8_suits_24 : decode cX8_suits 24 = .ok (.iload_n 2, 1) := by decide +kernel
theorem dX8_suits_25 : decode cX8_suits 25 = .ok (.iaload, 1) := by decide +kernel
theorem dX8_suits_26 : decode cX8_suits 26 = .ok (.iconst 1, 1) := by decide +kernel
theorem dX8_suits_27 : decode cX8_suits 27 = .ok (.if_icmp .eq 7, 3) := by decide +kernel
theorem dX8_suits_30 : decode cX8_suits 30 = .ok (.iconst 1, 1) := by decide +kernel
theorem dX8_suits_31 : decode cX8_suits 31 = .ok (.goto 4, 3) := by decide +kernel
theorem dX8_suits_34 : decode cX8_suits 34 = .ok (.iconst 0, 1) := by decide +kernel
theorem dX8_suits_35 : decode cX8_suits 35 = .ok (.ireturn, 1) := by decide +kernel
theorem dX8_canBe_0 : decode cX8_canBe 0 = .ok (.aload_n 0, 1) := by decide +kernel
theorem dX8_canBe_1 : decode cX8_canBe 1 = .ok (.getfield 135, 3) := by decide +kernel
theorem dX8_canBe_4 : decode cX8_canBe 4 = .ok (.iload_n 3, 1) := by decide +kernel
theorem dX8_canBe_5 : decode cX8_canBe 5 = .ok (.invokestatic 123, 3) := by decide +kernel
theorem dX8_canBe_8 : decode cX8_canBe 8 = .ok (.ifCond .eq 44, 3) := by decide +kernel
theorem dX8_canBe_11 : decode cX8_canBe 11 = .ok (.aload_n 0, 1) := by decide +kernel
theorem dX8_canBe_12 : decode cX8_canBe 12 = .ok (.aload_n 1, 1) := by decide +kernel
theorem dX8_canBe_13 : decode cX8_canBe 13 = .ok (.iload_n 2, 1) := by decide +kernel
theorem dX8_canBe_14 : decode cX8_canBe 14 = .ok (.iload_n 3, 1) := by decide +kernel
theorem dX8_canBe_15 : decode cX8_canBe 15 = .ok (.invokevirtual 138, 3) := by decide +kernel
theorem dX8_canBe_18 : decode cX8_canBe 18 = .ok (.ifCond .eq 34, 3) := by decide +kernel
theorem dX8_canBe_21 : decode cX8_canBe 21 = .ok (.aload_n 0, 1) := by decide +kernel
theorem dX8_canBe_22 : decode cX8_canBe 22 = .ok (.aload_n 1, 1) := by decide +kernel
theorem dX8_canBe_23 : decode cX8_canBe 23 = .ok (.iload_n 3, 1) := by decide +kernel
theorem dX8_canBe_24 : decode cX8_canBe 24 = .ok (.invokevirtual 131, 3) := by decide +kernel
theorem dX8_canBe_27 : decode cX8_canBe 27 = .ok (.invokestatic 142, 3) := by decide +kernel
theorem dX8_canBe_30 : decode cX8_canBe 30 = .ok (.aload_n 0, 1) := by decide +kernel
theorem dX8_canBe_31 : decode cX8_canBe 31 = .ok (.getfield 16, 3) := by decide +kernel
theorem dX8_canBe_34 : decode cX8_canBe 34 = .ok (.iload_n 3, 1) := by decide +kernel
theorem dX8_canBe_35 : decode cX8_canBe 35 = .ok (.iaload, 1) := by decide +kernel
theorem dX8_canBe_36 : decode cX8_canBe 36 = .ok (.iconst 2, 1) := by decide +kernel
theorem dX8_canBe_37 : decode cX8_canBe 37 = .ok (.if_icmp .ne 7, 3) := by decide +kernel
theorem dX8_canBe_40 : decode cX8_canBe 40 = .ok (.iconst 2, 1) := by decide +kernel
theorem dX8_canBe_41 : decode cX8_canBe 41 = .ok (.goto 4, 3) := by decide +kernel
theorem dX8_canBe_44 : decode cX8_canBe 44 = .ok (.iconst 1, 1) := by decide +kernel
theorem dX8_canBe_45 : decode cX8_canBe 45 = .ok (.if_icmp .ge 7, 3) := by decide +kernel
theorem dX8_canBe_48 : decode cX8_canBe 48 = .ok (.iconst 1, 1) := by decide +kernel
theorem dX8_canBe_49 : decode cX8_canBe 49 = .ok (.goto 4, 3) := by decide +kernel
theorem dX8_canBe_52 : decode cX8_canBe 52 = .ok (.iconst 0, 1) := by decide +kernel
theorem dX8_canBe_53 : decode cX8_canBe 53 = .ok (.ireturn, 1) := by decide +kernel
theorem dX8_mayBe_0 : decode cX8_mayBe 0 = .ok (.iconst 0, 1) := by decide +kernel
theorem dX8_mayBe_1 : decode cX8_mayBe 1 = .ok (.istore_n 3, 1) := by decide +kernel
theorem dX8_mayBe_2 : decode cX8_mayBe 2 = .ok (.iconst 0, 1) := by decide +kernel
theorem dX8_mayBe_3 : decode cX8_mayBe 3 = .ok (.istore 4, 2) := by decide +kernel
theorem dX8_mayBe_5 : decode cX8_mayBe 5 = .ok (.iload 4, 2) := by decide +kernel
theorem dX8_mayBe_7 : decode cX8_mayBe 7 = .ok (.aload_n 0, 1) := by decide +kernel
theorem dX8_mayBe_8 : decode cX8_mayBe 8 = .ok (.getfield 66, 3) := by decide +kernel
theorem dX8_mayBe_11 : decode cX8_mayBe 11 = .ok (.if_icmp .ge 31, 3) := by decide +kernel
theorem dX8_mayBe_14 : decode cX8_mayBe 14 = .ok (.iload_n 3, 1) := by decide +kernel
theorem dX8_mayBe_15 : decode cX8_mayBe 15 = .ok (.aload_n 0, 1) := by decide +kernel
theorem dX8_mayBe_16 : decode cX8_mayBe 16 = .ok (.aload_n 1, 1) := by decide +kernel
theorem dX8_mayBe_17 : decode cX8_mayBe 17 = .ok (.iload_n 2, 1) := by decide +kernel
theorem dX8_mayBe_18 : decode cX8_mayBe 18 = .ok (.iload 4, 2) := by decide +kernel
theorem dX8_mayBe_20 : decode cX8_mayBe 20 = .ok (.invokevirtual 145, 3) := by decide +kernel
theorem dX8_mayBe_23 : decode cX8_mayBe 23 = .ok (.ifCond .eq 10, 3) := by decide +kernel
theorem dX8_mayBe_26 : decode cX8_mayBe 26 = .ok (.iconst 1, 1) := by decide +kernel
theorem dX8_mayBe_27 : decode cX8_mayBe 27 = .ok (.iload 4, 2) := by decide +kernel
theorem dX8_mayBe_29 : decode cX8_mayBe 29 = .ok (.ishl, 1) := by decide +kernel
theorem dX8_mayBe_30 : decode cX8_mayBe 30 = .ok (.goto 4, 3) := by decide +kernel
theorem dX8_mayBe_33 : decode cX8_mayBe 33 = .ok (.iconst 0, 1) := by decide +kernel
theorem dX8_mayBe_34 : decode cX8_mayBe 34 = .ok (.ior, 1) := by decide +kernel
theorem dX8_mayBe_35 : decode cX8_mayBe 35 = .ok (.istore_n 3, 1) := by decide +kernel
theorem dX8_mayBe_36 : decode cX8_mayBe 36 = .ok (.iinc 4 1, 3) := by decide +kernel
theorem dX8_mayBe_39 : decode cX8_mayBe 39 = .ok (.goto (-34), 3) := by decide +kernel
theorem dX8_mayBe_42 : decode cX8_mayBe 42 = .ok (.iload_n 3, 1) := by decide +kernel
theorem dX8_mayBe_43 : decode cX8_mayBe 43 = .ok (.ireturn, 1) := by decide +kernel
theorem dX8_goSleep_0 : decode cX8_goSleep 0 = .ok (.iconst 0, 1) := by decide +kernel
theorem dX8_goSleep_1 : decode cX8_goSleep 1 = .ok (.istore_n 2, 1) := by decide +kernel
theorem dX8_goSleep_2 : decode cX8_goSleep 2 = .ok (.iconst 0, 1) := by decide +kernel
theorem dX8_goSleep_3 : decode cX8_goSleep 3 = .ok (.istore_n 3, 1) := by decide +kernel
theorem dX8_goSleep_4 : decode cX8_goSleep 4 = .ok (.iload_n 3, 1) := by decide +kernel
theorem dX8_goSleep_5 : decode cX8_goSleep 5 = .ok (.aload_n 0, 1) := by decide +kernel
theorem dX8_goSleep_6 : decode cX8_goSleep 6 = .ok (.getfield 73, 3) := by decide +kernel
theorem dX8_goSleep_9 : decode cX8_goSleep 9 = .ok (.if_icmp .ge 145, 3) := by decide +kernel
theorem dX8_goSleep_12 : decode cX8_goSleep 12 = .ok (.aload_n 1, 1) := by decide +kernel
theorem dX8_goSleep_13 : decode cX8_goSleep 13 = .ok (.iload_n 3, 1) := by decide +kernel
theorem dX8_goSleep_14 : decode cX8_goSleep 14 = .ok (.iaload, 1) := by decide +kernel
theorem dX8_goSleep_15 : decode cX8_goSleep 15 = .ok (.istore 4, 2) := by decide +kernel
theorem dX8_goSleep_17 : decode cX8_goSleep 17 = .ok (.iload 4, 2) := by decide +kernel
theorem dX8_goSleep_19 : decode cX8_goSleep 19 = .ok (.iconst 4, 1) := by decide +kernel
theorem dX8_goSleep_20 : decode cX8_goSleep 20 = .ok (.if_icmp .ge 128, 3) := by decide +kernel
theorem dX8_goSleep_23 : decode cX8_goSleep 23 = .ok (.aload_n 0, 1) := by decide +kernel
theorem dX8_goSleep_24 : decode cX8_goSleep 24 = .ok (.getfield 135, 3) := by decide +kernel
theorem dX8_goSleep_27 : decode cX8_goSleep 27 = .ok (.iload 4, 2) := by decide +kernel
theorem dX8_goSleep_29 : decode cX8_goSleep 29 = .ok (.invokestatic 123, 3) := by decide +kernel
theorem dX8_goSleep_32 : decode cX8_goSleep 32 = .ok (.ifCond .eq 116, 3) := by decide +kernel
theorem dX8_goSleep_35 : decode cX8_goSleep 35 = .ok (.aload_n 1, 1) := by decide +kernel
theorem dX8_goSleep_36 : decode cX8_goSleep 36 = .ok (.bipush 10, 2) := by decide +kernel
theorem dX8_goSleep_38 : decode cX8_goSleep 38 = .ok (.iload_n 3, 1) := by decide +kernel
theorem dX8_goSleep_39 : decode cX8_goSleep 39 = .ok (.iadd, 1) := by decide +kernel
theorem dX8_goSleep_40 : decode cX8_goSleep 40 = .ok (.iaload, 1) := by decide +kernel
end
section
theorem dX8_goSleep_41 : decode cX8_goSleep 41 = .ok (.aload_n 0, 1) := by decide +kernel
theorem dX8_goSleep_42 : decode cX8_goSleep 42 = .ok (.aload_n 1, 1) := by decide +kernel
theorem dX8_goSleep_43 : decode cX8_goSleep 43 = .ok (.iload 4, 2) := by decide +kernel
theorem dX8_goSleep_45 : decode cX8_goSleep 45 = .ok (.invokevirtual 148, 3) := by decide +kernel
theorem dX8_goSleep_48 : decode cX8_goSleep 48 = .ok (.if_icmp .gt 7, 3) := by decide +kernel
theorem dX8_goSleep_51 : decode cX8_goSleep 51 = .ok (.iconst 1, 1) := by decide +kernel
theorem dX8_goSleep_52 : decode cX8_goSleep 52 = .ok (.goto 4, 3) := by decide +kernel
theorem dX8_goSleep_55 : decode cX8_goSleep 55 = .ok (.iconst 0, 1) := by decide +kernel
theorem dX8_goSleep_56 : decode cX8_goSleep 56 = .ok (.istore 5, 2) := by decide +kernel
theorem dX8_goSleep_58 : decode cX8_goSleep 58 = .ok (.iload_n 2, 1) := by decide +kernel
theorem dX8_goSleep_59 : decode cX8_goSleep 59 = .ok (.iload 5, 2) := by decide +kernel
theorem dX8_goSleep_61 : decode cX8_goSleep 61 = .ok (.ifCond .eq 9, 3) := by decide +kernel
theorem dX8_goSleep_64 : decode cX8_goSleep 64 = .ok (.iconst 1, 1) := by decide +kernel
theorem dX8_goSleep_65 : decode cX8_goSleep 65 = .ok (.iload_n 3, 1) := by decide +kernel
theorem dX8_goSleep_66 : decode cX8_goSleep 66 = .ok (.ishl, 1) := by decide +kernel
theorem dX8_goSleep_67 : decode cX8_goSleep 67 = .ok (.goto 4, 3) := by decide +kernel
theorem dX8_goSleep_70 : decode cX8_goSleep 70 = .ok (.iconst 0, 1) := by decide +kernel
theorem dX8_goSleep_71 : decode cX8_goSleep 71 = .ok (.ior, 1) := by decide +kernel
theorem dX8_goSleep_72 : decode cX8_goSleep 72 = .ok (.istore_n 2, 1) := by decide +kernel
theorem dX8_goSleep_73 : decode cX8_goSleep 73 = .ok (.aload_n 1, 1) := by decide +kernel
theorem dX8_goSleep_74 : decode cX8_goSleep 74 = .ok (.iload_n 3, 1) := by decide +kernel
theorem dX8_goSleep_75 : decode cX8_goSleep 75 = .ok (.iload 5, 2) := by decide +kernel
theorem dX8_goSleep_77 : decode cX8_goSleep 77 = .ok (.ifCond .eq 8, 3) := by decide +kernel
theorem dX8_goSleep_80 : decode cX8_goSleep 80 = .ok (.bipush 9, 2) := by decide +kernel
theorem dX8_goSleep_82 : decode cX8_goSleep 82 = .ok (.goto 5, 3) := by decide +kernel
theorem dX8_goSleep_85 : decode cX8_goSleep 85 = .ok (.iload 4, 2) := by decide +kernel
theorem dX8_goSleep_87 : decode cX8_goSleep 87 = .ok (.iastore, 1) := by decide +kernel
theorem dX8_goSleep_88 : decode cX8_goSleep 88 = .ok (.aload_n 1, 1) := by decide +kernel
theorem dX8_goSleep_89 : decode cX8_goSleep 89 = .ok (.bipush 19, 2) := by decide +kernel
theorem dX8_goSleep_91 : decode cX8_goSleep 91 = .ok (.iload 4, 2) := by decide +kernel
theorem dX8_goSleep_93 : decode cX8_goSleep 93 = .ok (.iadd, 1) := by decide +kernel
theorem dX8_goSleep_94 : decode cX8_goSleep 94 = .ok (.dup2, 1) := by decide +kernel
theorem dX8_goSleep_95 : decode cX8_goSleep 95 = .ok (.iaload, 1) := by decide +kernel
theorem dX8_goSleep_96 : decode cX8_goSleep 96 = .ok (.iload 5, 2) := by decide +kernel
theorem dX8_goSleep_98 : decode cX8_goSleep 98 = .ok (.ifCond .eq 7, 3) := by decide +kernel
theorem dX8_goSleep_101 : decode cX8_goSleep 101 = .ok (.iconst 0, 1) := by decide +kernel
theorem dX8_goSleep_102 : decode cX8_goSleep 102 = .ok (.goto 4, 3) := by decide +kernel
theorem dX8_goSleep_105 : decode cX8_goSleep 105 = .ok (.iconst 1, 1) := by decide +kernel
theorem dX8_goSleep_106 : decode cX8_goSleep 106 = .ok (.iadd, 1) := by decide +kernel
theorem dX8_goSleep_107 : decode cX8_goSleep 107 = .ok (.iastore, 1) := by decide +kernel
theorem dX8_goSleep_108 : decode cX8_goSleep 108 = .ok (.aload_n 1, 1) := by decide +kernel
theorem dX8_goSleep_109 : decode cX8_goSleep 109 = .ok (.bipush 15, 2) := by decide +kernel
theorem dX8_goSleep_111 : decode cX8_goSleep 111 = .ok (.iload 4, 2) := by decide +kernel
theorem dX8_goSleep_113 : decode cX8_goSleep 113 = .ok (.iadd, 1) := by decide +kernel
theorem dX8_goSleep_114 : decode cX8_goSleep 114 = .ok (.dup2, 1) := by decide +kernel
theorem dX8_goSleep_115 : decode cX8_goSleep 115 = .ok (.iaload, 1) := by decide +kernel
theorem dX8_goSleep_116 : decode cX8_goSleep 116 = .ok (.iload 5, 2) := by decide +kernel
theorem dX8_goSleep_118 : decode cX8_goSleep 118 = .ok (.ifCond .ne 27, 3) := by decide +kernel
theorem dX8_goSleep_121 : decode cX8_goSleep 121 = .ok (.aload_n 0, 1) := by decide +kernel
theorem dX8_goSleep_122 : decode cX8_goSleep 122 = .ok (.getfield 19, 3) := by decide +kernel
theorem dX8_goSleep_125 : decode cX8_goSleep 125 = .ok (.iload_n 3, 1) := by decide +kernel
theorem dX8_goSleep_126 : decode cX8_goSleep 126 = .ok (.iaload, 1) := by decide +kernel
theorem dX8_goSleep_127 : decode cX8_goSleep 127 = .ok (.iconst 3, 1) := by decide +kernel
theorem dX8_goSleep_128 : decode cX8_goSleep 128 = .ok (.if_icmp .ne 17, 3) := by decide +kernel
theorem dX8_goSleep_131 : decode cX8_goSleep 131 = .ok (.aload_n 1, 1) := by decide +kernel
theorem dX8_goSleep_132 : decode cX8_goSleep 132 = .ok (.bipush 15, 2) := by decide +kernel
theorem dX8_goSleep_134 : decode cX8_goSleep 134 = .ok (.iload 4, 2) := by decide +kernel
theorem dX8_goSleep_136 : decode cX8_goSleep 136 = .ok (.iadd, 1) := by decide +kernel
theorem dX8_goSleep_137 : decode cX8_goSleep 137 = .ok (.iaload, 1) := by decide +kernel
theorem dX8_goSleep_138 : decode cX8_goSleep 138 = .ok (.ifCond .le 7, 3) := by decide +kernel
theorem dX8_goSleep_141 : decode cX8_goSleep 141 = .ok (.iconst 1, 1) := by decide +kernel
theorem dX8_goSleep_142 : decode cX8_goSleep 142 = .ok (.goto 4, 3) := by decide +kernel
theorem dX8_goSleep_145 : decode cX8_goSleep 145 = .ok (.iconst 0, 1) := by decide +kernel
theorem dX8_goSleep_146 : decode cX8_goSleep 146 = .ok (.isub, 1) := by decide +kernel
theorem dX8_goSleep_147 : decode cX8_goSleep 147 = .ok (.iastore, 1) := by decide +kernel
theorem dX8_goSleep_148 : decode cX8_goSleep 148 = .ok (.iinc 3 1, 3) := by decide +kernel
theorem dX8_goSleep_151 : decode cX8_goSleep 151 = .ok (.goto (-147), 3) := by decide +kernel
theorem dX8_goSleep_154 : decode cX8_goSleep 154 = .ok (.iload_n 2, 1) := by decide +kernel
theorem dX8_goSleep_155 : decode cX8_goSleep 155 = .ok (.ireturn, 1) := by decide +kernel
theorem dX8_goWait_0 : decode cX8_goWait 0 = .ok (.iconst 0, 1) := by decide +kernel
theorem dX8_goWait_1 : decode cX8_goWait 1 = .ok (.istore_n 2, 1) := by decide +kernel
theorem dX8_goWait_2 : decode cX8_goWait 2 = .ok (.iload_n 2, 1) := by decide +kernel
theorem dX8_goWait_3 : decode cX8_goWait 3 = .ok (.aload_n 0, 1) := by decide +kernel
theorem dX8_goWait_4 : decode cX8_goWait 4 = .ok (.getfield 73, 3) := by decide +kernel
theorem dX8_goWait_7 : decode cX8_goWait 7 = .ok (.if_icmp .ge 79, 3) := by decide +kernel
theorem dX8_goWait_10 : decode cX8_goWait 10 = .ok (.aload_n 1, 1) := by decide +kernel
theorem dX8_goWait_11 : decode cX8_goWait 11 = .ok (.iload_n 2, 1) := by decide +kernel
theorem dX8_goWait_12 : decode cX8_goWait 12 = .ok (.iaload, 1) := by decide +kernel
theorem dX8_goWait_13 : decode cX8_goWait 13 = .ok (.bipush 8, 2) := by decide +kernel
theorem dX8_goWait_15 : decode cX8_goWait 15 = .ok (.if_icmp .ne 7, 3) := by decide +kernel
theorem dX8_goWait_18 : decode cX8_goWait 18 = .ok (.iconst 1, 1) := by decide +kernel
theorem dX8_goWait_19 : decode cX8_goWait 19 = .ok (.goto 4, 3) := by decide +kernel
theorem dX8_goWait_22 : decode cX8_goWait 22 = .ok (.iconst 0, 1) := by decide +kernel
theorem dX8_goWait_23 : decode cX8_goWait 23 = .ok (.istore_n 3, 1) := by decide +kernel
theorem dX8_goWait_24 : decode cX8_goWait 24 = .ok (.aload_n 1, 1) := by decide +kernel
theorem dX8_goWait_25 : decode cX8_goWait 25 = .ok (.iconst 5, 1) := by decide +kernel
theorem dX8_goWait_26 : decode cX8_goWait 26 = .ok (.iload_n 2, 1) := by decide +kernel
theorem dX8_goWait_27 : decode cX8_goWait 27 = .ok (.iadd, 1) := by decide +kernel
theorem dX8_goWait_28 : decode cX8_goWait 28 = .ok (.dup2, 1) := by decide +kernel
theorem dX8_goWait_29 : decode cX8_goWait 29 = .ok (.iaload, 1) := by decide +kernel
theorem dX8_goWait_30 : decode cX8_goWait 30 = .ok (.iload_n 3, 1) := by decide +kernel
theorem dX8_goWait_31 : decode cX8_goWait 31 = .ok (.ifCond .eq 7, 3) := by decide +kernel
theorem dX8_goWait_34 : decode cX8_goWait 34 = .ok (.iconst 1, 1) := by decide +kernel
theorem dX8_goWait_35 : decode cX8_goWait 35 = .ok (.goto 4, 3) := by decide +kernel
theorem dX8_goWait_38 : decode cX8_goWait 38 = .ok (.iconst 0, 1) := by decide +kernel
theorem dX8_goWait_39 : decode cX8_goWait 39 = .ok (.iadd, 1) := by decide +kernel
theorem dX8_goWait_40 : decode cX8_goWait 40 = .ok (.iastore, 1) := by decide +kernel
theorem dX8_goWait_41 : decode cX8_goWait 41 = .ok (.aload_n 1, 1) := by decide +kernel
theorem dX8_goWait_42 : decode cX8_goWait 42 = .ok (.bipush 10, 2) := by decide +kernel
theorem dX8_goWait_44 : decode cX8_goWait 44 = .ok (.iload_n 2, 1) := by decide +kernel
theorem dX8_goWait_45 : decode cX8_goWait 45 = .ok (.iadd, 1) := by decide +kernel
theorem dX8_goWait_46 : decode cX8_goWait 46 = .ok (.dup2, 1) := by decide +kernel
theorem dX8_goWait_47 : decode cX8_goWait 47 = .ok (.iaload, 1) := by decide +kernel
theorem dX8_goWait_48 : decode cX8_goWait 48 = .ok (.iload_n 3, 1) := by decide +kernel
theorem dX8_goWait_49 : decode cX8_goWait 49 = .ok (.ifCond .eq 28, 3) := by decide +kernel
theorem dX8_goWait_52 : decode cX8_goWait 52 = .ok (.aload_n 0, 1) := by decide +kernel
theorem dX8_goWait_53 : decode cX8_goWait 53 = .ok (.getfield 19, 3) := by decide +kernel
theorem dX8_goWait_56 : decode cX8_goWait 56 = .ok (.iload_n 2, 1) := by decide +kernel
theorem dX8_goWait_57 : decode cX8_goWait 57 = .ok (.iaload, 1) := by decide +kernel
theorem dX8_goWait_58 : decode cX8_goWait 58 = .ok (.iconst 2, 1) := by decide +kernel
theorem dX8_goWait_59 : decode cX8_goWait 59 = .ok (.if_icmp .ne 18, 3) := by decide +kernel
theorem dX8_goWait_62 : decode cX8_goWait 62 = .ok (.aload_n 1, 1) := by decide +kernel
theorem dX8_goWait_63 : decode cX8_goWait 63 = .ok (.bipush 10, 2) := by decide +kernel
theorem dX8_goWait_65 : decode cX8_goWait 65 = .ok (.iload_n 2, 1) := by decide +kernel
theorem dX8_goWait_66 : decode cX8_goWait 66 = .ok (.iadd, 1) := by decide +kernel
theorem dX8_goWait_67 : decode cX8_goWait 67 = .ok (.iaload, 1) := by decide +kernel
theorem dX8_goWait_68 : decode cX8_goWait 68 = .ok (.bipush 9, 2) := by decide +kernel
theorem dX8_goWait_70 : decode cX8_goWait 70 = .ok (.if_icmp .ge 7, 3) := by decide +kernel
theorem dX8_goWait_73 : decode cX8_goWait 73 = .ok (.iconst 1, 1) := by decide +kernel
theorem dX8_goWait_74 : decode cX8_goWait 74 = .ok (.goto 4, 3) := by decide +kernel
theorem dX8_goWait_77 : decode cX8_goWait 77 = .ok (.iconst 0, 1) := by decide +kernel
theorem dX8_goWait_78 : decode cX8_goWait 78 = .ok (.iadd, 1) := by decide +kernel
theorem dX8_goWait_79 : decode cX8_goWait 79 = .ok (.iastore, 1) := by decide +kernel
theorem dX8_goWait_80 : decode cX8_goWait 80 = .ok (.iinc 2 1, 3) := by decide +kernel
theorem dX8_goWait_83 : decode cX8_goWait 83 = .ok (.goto (-81), 3) := by decide +kernel
theorem dX8_goWait_86 : decode cX8_goWait 86 = .ok (.iconst 0, 1) := by decide +kernel
theorem dX8_goWait_87 : decode cX8_goWait 87 = .ok (.istore_n 2, 1) := by decide +kernel
theorem dX8_goWait_88 : decode cX8_goWait 88 = .ok (.iload_n 2, 1) := by decide +kernel
theorem dX8_goWait_89 : decode cX8_goWait 89 = .ok (.aload_n 0, 1) := by decide +kernel
theorem dX8_goWait_90 : decode cX8_goWait 90 = .ok (.getfield 73, 3) := by decide +kernel
theorem dX8_goWait_93 : decode cX8_goWait 93 = .ok (.if_icmp .ge 93, 3) := by decide +kernel
theorem dX8_goWait_96 : decode cX8_goWait 96 = .ok (.aload_n 1, 1) := by decide +kernel
theorem dX8_goWait_97 : decode cX8_goWait 97 = .ok (.iload_n 2, 1) := by decide +kernel
theorem dX8_goWait_98 : decode cX8_goWait 98 = .ok (.iaload, 1) := by decide +kernel
theorem dX8_goWait_99 : decode cX8_goWait 99 = .ok (.bipush 8, 2) := by decide +kernel
theorem dX8_goWait_101 : decode cX8_goWait 101 = .ok (.if_icmp .ne 26, 3) := by decide +kernel
theorem dX8_goWait_104 : decode cX8_goWait 104 = .ok (.aload_n 0, 1) := by decide +kernel
theorem dX8_goWait_105 : decode cX8_goWait 105 = .ok (.getfield 19, 3) := by decide +kernel
theorem dX8_goWait_108 : decode cX8_goWait 108 = .ok (.iload_n 2, 1) := by decide +kernel
theorem dX8_goWait_109 : decode cX8_goWait 109 = .ok (.iaload, 1) := by decide +kernel
theorem dX8_goWait_110 : decode cX8_goWait 110 = .ok (.iconst 1, 1) := by decide +kernel
theorem dX8_goWait_111 : decode cX8_goWait 111 = .ok (.if_icmp .ne 16, 3) := by decide +kernel
theorem dX8_goWait_114 : decode cX8_goWait 114 = .ok (.aload_n 1, 1) := by decide +kernel
theorem dX8_goWait_115 : decode cX8_goWait 115 = .ok (.iconst 5, 1) := by decide +kernel
theorem dX8_goWait_116 : decode cX8_goWait 116 = .ok (.iload_n 2, 1) := by decide +kernel
theorem dX8_goWait_117 : decode cX8_goWait 117 = .ok (.iadd, 1) := by decide +kernel
theorem dX8_goWait_118 : decode cX8_goWait 118 = .ok (.iaload, 1) := by decide +kernel
theorem dX8_goWait_119 : decode cX8_goWait 119 = .ok (.iconst 3, 1) := by decide +kernel
theorem dX8_goWait_120 : decode cX8_goWait 120 = .ok (.if_icmp .lt 7, 3) := by decide +kernel
theorem dX8_goWait_123 : decode cX8_goWait 123 = .ok (.iconst 1, 1) := by decide +kernel
theorem dX8_goWait_124 : decode cX8_goWait 124 = .ok (.goto 4, 3) := by decide +kernel
theorem dX8_goWait_127 : decode cX8_goWait 127 = .ok (.iconst 0, 1) := by decide +kernel
theorem dX8_goWait_128 : decode cX8_goWait 128 = .ok (.istore_n 3, 1) := by decide +kernel
theorem dX8_goWait_129 : decode cX8_goWait 129 = .ok (.iload_n 3, 1) := by decide +kernel
theorem dX8_goWait_130 : decode cX8_goWait 130 = .ok (.ifCond .eq 12, 3) := by decide +kernel
theorem dX8_goWait_133 : decode cX8_goWait 133 = .ok (.aload_n 0, 1) := by decide +kernel
theorem dX8_goWait_134 : decode cX8_goWait 134 = .ok (.aload_n 1, 1) := by decide +kernel
theorem dX8_goWait_135 : decode cX8_goWait 135 = .ok (.iload_n 2, 1) := by decide +kernel
theorem dX8_goWait_136 : decode cX8_goWait 136 = .ok (.invokevirtual 151, 3) := by decide +kernel
theorem dX8_goWait_139 : decode cX8_goWait 139 = .ok (.goto 4, 3) := by decide +kernel
theorem dX8_goWait_142 : decode cX8_goWait 142 = .ok (.iconst 0, 1) := by decide +kernel
theorem dX8_goWait_143 : decode cX8_goWait 143 = .ok (.istore 4, 2) := by decide +kernel
theorem dX8_goWait_145 : decode cX8_goWait 145 = .ok (.iconst 3, 1) := by decide +kernel
theorem dX8_goWait_146 : decode cX8_goWait 146 = .ok (.istore 5, 2) := by decide +kernel
theorem dX8_goWait_148 : decode cX8_goWait 148 = .ok (.iload 5, 2) := by decide +kernel
theorem dX8_goWait_150 : decode cX8_goWait 150 = .ok (.ifCond .lt 30, 3) := by decide +kernel
theorem dX8_goWait_153 : decode cX8_goWait 153 = .ok (.aload_n 1, 1) := by decide +kernel
theorem dX8_goWait_154 : decode cX8_goWait 154 = .ok (.iload_n 2, 1) := by decide +kernel
theorem dX8_goWait_155 : decode cX8_goWait 155 = .ok (.iload 4, 2) := by decide +kernel
theorem dX8_goWait_157 : decode cX8_goWait 157 = .ok (.iload 5, 2) := by decide +kernel
theorem dX8_goWait_159 : decode cX8_goWait 159 = .ok (.invokestatic 123, 3) := by decide +kernel
theorem dX8_goWait_162 : decode cX8_goWait 162 = .ok (.ifCond .eq 8, 3) := by decide +kernel
theorem dX8_goWait_165 : decode cX8_goWait 165 = .ok (.iload 5, 2) := by decide +kernel
theorem dX8_goWait_167 : decode cX8_goWait 167 = .ok (.goto 6, 3) := by decide +kernel
theorem dX8_goWait_170 : decode cX8_goWait 170 = .ok (.aload_n 1, 1) := by decide +kernel
theorem dX8_goWait_171 : decode cX8_goWait 171 = .ok (.iload_n 2, 1) := by decide +kernel
theorem dX8_goWait_172 : decode cX8_goWait 172 = .ok (.iaload, 1) := by decide +kernel
theorem dX8_goWait_173 : decode cX8_goWait 173 = .ok (.iastore, 1) := by decide +kernel
theorem dX8_goWait_174 : decode cX8_goWait 174 = .ok (.iinc 5 (-1), 3) := by decide +kernel
theorem dX8_goWait_177 : decode cX8_goWait 177 = .ok (.goto (-29), 3) := by decide +kernel
theorem dX8_goWait_180 : decode cX8_goWait 180 = .ok (.iinc 2 1, 3) := by decide +kernel
theorem dX8_goWait_183 : decode cX8_goWait 183 = .ok (.goto (-95), 3) := by decide +kernel
theorem dX8_goWait_186 : decode cX8_goWait 186 = .ok (.return_, 1) := by decide +kernel
theorem dX8_goNight_0 : decode cX8_goNight 0 = .ok (.aload_n 0, 1) := by decide +kernel
theorem dX8_goNight_1 : decode cX8_goNight 1 = .ok (.aload_n 1, 1) := by decide +kernel
theorem dX8_goNight_2 : decode cX8_goNight 2 = .ok (.invokevirtual 154, 3) := by decide +kernel
theorem dX8_goNight_5 : decode cX8_goNight 5 = .ok (.istore_n 2, 1) := by decide +kernel
theorem dX8_goNight_6 : decode cX8_goNight 6 = .ok (.aload_n 0, 1) := by decide +kernel
theorem dX8_goNight_7 : decode cX8_goNight 7 = .ok (.aload_n 1, 1) := by decide +kernel
theorem dX8_goNight_8 : decode cX8_goNight 8 = .ok (.invokevirtual 158, 3) := by decide +kernel
theorem dX8_goNight_11 : decode cX8_goNight 11 = .ok (.iconst 0, 1) := by decide +kernel
theorem dX8_goNight_12 : decode cX8_goNight 12 = .ok (.istore_n 3, 1) := by decide +kernel
theorem dX8_goNight_13 : decode cX8_goNight 13 = .ok (.iload_n 3, 1) := by decide +kernel
theorem dX8_goNight_14 : decode cX8_goNight 14 = .ok (.aload_n 0, 1) := by decide +kernel
theorem dX8_goNight_15 : decode cX8_goNight 15 = .ok (.getfield 66, 3) := by decide +kernel
theorem dX8_goNight_18 : decode cX8_goNight 18 = .ok (.if_icmp .ge 44, 3) := by decide +kernel
theorem dX8_goNight_21 : decode cX8_goNight 21 = .ok (.aload_n 1, 1) := by decide +kernel
theorem dX8_goNight_22 : decode cX8_goNight 22 = .ok (.bipush 15, 2) := by decide +kernel
theorem dX8_goNight_24 : decode cX8_goNight 24 = .ok (.iload_n 3, 1) := by decide +kernel
theorem dX8_goNight_25 : decode cX8_goNight 25 = .ok (.iadd, 1) := by decide +kernel
theorem dX8_goNight_26 : decode cX8_goNight 26 = .ok (.dup2, 1) := by decide +kernel
theorem dX8_goNight_27 : decode cX8_goNight 27 = .ok (.iaload, 1) := by decide +kernel
theorem dX8_goNight_28 : decode cX8_goNight 28 = .ok (.aload_n 0, 1) := by decide +kernel
theorem dX8_goNight_29 : decode cX8_goNight 29 = .ok (.getfield 16, 3) := by decide +kernel
theorem dX8_goNight_32 : decode cX8_goNight 32 = .ok (.iload_n 3, 1) := by decide +kernel
theorem dX8_goNight_33 : decode cX8_goNight 33 = .ok (.iaload, 1) := by decide +kernel
theorem dX8_goNight_34 : decode cX8_goNight 34 = .ok (.iconst 3, 1) := by decide +kernel
theorem dX8_goNight_35 : decode cX8_goNight 35 = .ok (.if_icmp .ne 18, 3) := by decide +kernel
theorem dX8_goNight_38 : decode cX8_goNight 38 = .ok (.aload_n 1, 1) := by decide +kernel
theorem dX8_goNight_39 : decode cX8_goNight 39 = .ok (.bipush 15, 2) := by decide +kernel
theorem dX8_goNight_41 : decode cX8_goNight 41 = .ok (.iload_n 3, 1) := by decide +kernel
theorem dX8_goNight_42 : decode cX8_goNight 42 = .ok (.iadd, 1) := by decide +kernel
theorem dX8_goNight_43 : decode cX8_goNight 43 = .ok (.iaload, 1) := by decide +kernel
theorem dX8_goNight_44 : decode cX8_goNight 44 = .ok (.bipush 9, 2) := by decide +kernel
theorem dX8_goNight_46 : decode cX8_goNight 46 = .ok (.if_icmp .ge 7, 3) := by decide +kernel
theorem dX8_goNight_49 : decode cX8_goNight 49 = .ok (.iconst 1, 1) := by decide +kernel
theorem dX8_goNight_50 : decode cX8_goNight 50 = .ok (.goto 4, 3) := by decide +kernel
theorem dX8_goNight_53 : decode cX8_goNight 53 = .ok (.iconst 0, 1) := by decide +kernel
theorem dX8_goNight_54 : decode cX8_goNight 54 = .ok (.iadd, 1) := by decide +kernel
theorem dX8_goNight_55 : decode cX8_goNight 55 = .ok (.iastore, 1) := by decide +kernel
theorem dX8_goNight_56 : decode cX8_goNight 56 = .ok (.iinc 3 1, 3) := by decide +kernel
theorem dX8_goNight_59 : decode cX8_goNight 59 = .ok (.goto (-46), 3) := by decide +kernel
theorem dX8_goNight_62 : decode cX8_goNight 62 = .ok (.aload_n 1, 1) := by decide +kernel
theorem dX8_goNight_63 : decode cX8_goNight 63 = .ok (.bipush 23, 2) := by decide +kernel
theorem dX8_goNight_65 : decode cX8_goNight 65 = .ok (.dup2, 1) := by decide +kernel
theorem dX8_goNight_66 : decode cX8_goNight 66 = .ok (.iaload, 1) := by decide +kernel
theorem dX8_goNight_67 : decode cX8_goNight 67 = .ok (.iconst 1, 1) := by decide +kernel
theorem dX8_goNight_68 : decode cX8_goNight 68 = .ok (.iadd, 1) := by decide +kernel
theorem dX8_goNight_69 : decode cX8_goNight 69 = .ok (.iastore, 1) := by decide +kernel
theorem dX8_goNight_70 : decode cX8_goNight 70 = .ok (.iload_n 2, 1) := by decide +kernel
theorem dX8_goNight_71 : decode cX8_goNight 71 = .ok (.invokestatic 142, 3) := by decide +kernel
theorem dX8_goNight_74 : decode cX8_goNight 74 = .ok (.ireturn, 1) := by decide +kernel
theorem dX8_woke_0 : decode cX8_woke 0 = .ok (.iconst 0, 1) := by decide +kernel
theorem dX8_woke_1 : decode cX8_woke 1 = .ok (.istore_n 1, 1) := by decide +kernel
theorem dX8_woke_2 : decode cX8_woke 2 = .ok (.iconst 0, 1) := by decide +kernel
theorem dX8_woke_3 : decode cX8_woke 3 = .ok (.istore_n 2, 1) := by decide +kernel
theorem dX8_woke_4 : decode cX8_woke 4 = .ok (.iload_n 2, 1) := by decide +kernel
theorem dX8_woke_5 : decode cX8_woke 5 = .ok (.aload_n 0, 1) := by decide +kernel
theorem dX8_woke_6 : decode cX8_woke 6 = .ok (.getfield 66, 3) := by decide +kernel
theorem dX8_woke_9 : decode cX8_woke 9 = .ok (.if_icmp .ge 21, 3) := by decide +kernel
theorem dX8_woke_12 : decode cX8_woke 12 = .ok (.iload_n 1, 1) := by decide +kernel
theorem dX8_woke_13 : decode cX8_woke 13 = .ok (.aload_n 0, 1) := by decide +kernel
theorem dX8_woke_14 : decode cX8_woke 14 = .ok (.getfield 31, 3) := by decide +kernel
theorem dX8_woke_17 : decode cX8_woke 17 = .ok (.bipush 19, 2) := by decide +kernel
theorem dX8_woke_19 : decode cX8_woke 19 = .ok (.iload_n 2, 1) := by decide +kernel
theorem dX8_woke_20 : decode cX8_woke 20 = .ok (.iadd, 1) := by decide +kernel
theorem dX8_woke_21 : decode cX8_woke 21 = .ok (.iaload, 1) := by decide +kernel
theorem dX8_woke_22 : decode cX8_woke 22 = .ok (.iadd, 1) := by decide +kernel
theorem dX8_woke_23 : decode cX8_woke 23 = .ok (.istore_n 1, 1) := by decide +kernel
theorem dX8_woke_24 : decode cX8_woke 24 = .ok (.iinc 2 1, 3) := by decide +kernel
theorem dX8_woke_27 : decode cX8_woke 27 = .ok (.goto (-23), 3) := by decide +kernel
theorem dX8_woke_30 : decode cX8_woke 30 = .ok (.iload_n 1, 1) := by decide +kernel
theorem dX8_woke_31 : decode cX8_woke 31 = .ok (.ireturn, 1) := by decide +kernel
theorem dX8_plainly_0 : decode cX8_plainly 0 = .ok (.aload_n 0, 1) := by decide +kernel
theorem dX8_plainly_1 : decode cX8_plainly 1 = .ok (.bipush 15, 2) := by decide +kernel
theorem dX8_plainly_3 : decode cX8_plainly 3 = .ok (.putfield 135, 3) := by decide +kernel
theorem dX8_plainly_6 : decode cX8_plainly 6 = .ok (.aload_n 0, 1) := by decide +kernel
theorem dX8_plainly_7 : decode cX8_plainly 7 = .ok (.iconst 0, 1) := by decide +kernel
theorem dX8_plainly_8 : decode cX8_plainly 8 = .ok (.putfield 120, 3) := by decide +kernel
theorem dX8_plainly_11 : decode cX8_plainly 11 = .ok (.return_, 1) := by decide +kernel
theorem dX8_about_0 : decode cX8_about 0 = .ok (.aload_n 0, 1) := by decide +kernel
theorem dX8_about_1 : decode cX8_about 1 = .ok (.iconst 0, 1) := by decide +kernel
theorem dX8_about_2 : decode cX8_about 2 = .ok (.putfield 62, 3) := by decide +kernel
theorem dX8_about_5 : decode cX8_about 5 = .ok (.iload_n 1, 1) := by decide +kernel
theorem dX8_about_6 : decode cX8_about 6 = .ok (.tableswitch 148 0 11 #[62, 67, 72, 77, 85, 97, 108, 117, 128, 133, 138, 143], 62) := by decide +kernel
theorem dX8_about_68 : decode cX8_about 68 = .ok (.aload_n 0, 1) := by decide +kernel
theorem dX8_about_69 : decode cX8_about 69 = .ok (.getfield 114, 3) := by decide +kernel
theorem dX8_about_72 : decode cX8_about 72 = .ok (.ireturn, 1) := by decide +kernel
theorem dX8_about_73 : decode cX8_about 73 = .ok (.aload_n 0, 1) := by decide +kernel
theorem dX8_about_74 : decode cX8_about 74 = .ok (.getfield 66, 3) := by decide +kernel
theorem dX8_about_77 : decode cX8_about 77 = .ok (.ireturn, 1) := by decide +kernel
theorem dX8_about_78 : decode cX8_about 78 = .ok (.aload_n 0, 1) := by decide +kernel
theorem dX8_about_79 : decode cX8_about 79 = .ok (.getfield 73, 3) := by decide +kernel
theorem dX8_about_82 : decode cX8_about 82 = .ok (.ireturn, 1) := by decide +kernel
theorem dX8_about_83 : decode cX8_about 83 = .ok (.aload_n 0, 1) := by decide +kernel
theorem dX8_about_84 : decode cX8_about 84 = .ok (.getfield 31, 3) := by decide +kernel
theorem dX8_about_87 : decode cX8_about 87 = .ok (.bipush 23, 2) := by decide +kernel
theorem dX8_about_89 : decode cX8_about 89 = .ok (.iaload, 1) := by decide +kernel
theorem dX8_about_90 : decode cX8_about 90 = .ok (.ireturn, 1) := by decide +kernel
theorem dX8_about_91 : decode cX8_about 91 = .ok (.aload_n 0, 1) := by decide +kernel
theorem dX8_about_92 : decode cX8_about 92 = .ok (.aload_n 0, 1) := by decide +kernel
theorem dX8_about_93 : decode cX8_about 93 = .ok (.getfield 31, 3) := by decide +kernel
theorem dX8_about_96 : decode cX8_about 96 = .ok (.bipush 23, 2) := by decide +kernel
theorem dX8_about_98 : decode cX8_about 98 = .ok (.iaload, 1) := by decide +kernel
theorem dX8_about_99 : decode cX8_about 99 = .ok (.invokevirtual 127, 3) := by decide +kernel
theorem dX8_about_102 : decode cX8_about 102 = .ok (.ireturn, 1) := by decide +kernel
theorem dX8_about_103 : decode cX8_about 103 = .ok (.aload_n 0, 1) := by decide +kernel
theorem dX8_about_104 : decode cX8_about 104 = .ok (.aload_n 0, 1) := by decide +kernel
theorem dX8_about_105 : decode cX8_about 105 = .ok (.getfield 31, 3) := by decide +kernel
theorem dX8_about_108 : decode cX8_about 108 = .ok (.bipush 8, 2) := by decide +kernel
theorem dX8_about_110 : decode cX8_about 110 = .ok (.invokevirtual 131, 3) := by decide +kernel
theorem dX8_about_113 : decode cX8_about 113 = .ok (.ireturn, 1) := by decide +kernel
theorem dX8_about_114 : decode cX8_about 114 = .ok (.aload_n 0, 1) := by decide +kernel
theorem dX8_about_115 : decode cX8_about 115 = .ok (.aload_n 0, 1) := by decide +kernel
theorem dX8_about_116 : decode cX8_about 116 = .ok (.getfield 31, 3) := by decide +kernel
theorem dX8_about_119 : decode cX8_about 119 = .ok (.invokevirtual 162, 3) := by decide +kernel
theorem dX8_about_122 : decode cX8_about 122 = .ok (.ireturn, 1) := by decide +kernel
theorem dX8_about_123 : decode cX8_about 123 = .ok (.aload_n 0, 1) := by decide +kernel
theorem dX8_about_124 : decode cX8_about 124 = .ok (.aload_n 0, 1) := by decide +kernel
theorem dX8_about_125 : decode cX8_about 125 = .ok (.getfield 31, 3) := by decide +kernel
theorem dX8_about_128 : decode cX8_about 128 = .ok (.bipush 9, 2) := by decide +kernel
theorem dX8_about_130 : decode cX8_about 130 = .ok (.invokevirtual 131, 3) := by decide +kernel
theorem dX8_about_133 : decode cX8_about 133 = .ok (.ireturn, 1) := by decide +kernel
theorem dX8_about_134 : decode cX8_about 134 = .ok (.aload_n 0, 1) := by decide +kernel
theorem dX8_about_135 : decode cX8_about 135 = .ok (.invokevirtual 165, 3) := by decide +kernel
theorem dX8_about_138 : decode cX8_about 138 = .ok (.ireturn, 1) := by decide +kernel
theorem dX8_about_139 : decode cX8_about 139 = .ok (.aload_n 0, 1) := by decide +kernel
theorem dX8_about_140 : decode cX8_about 140 = .ok (.getfield 117, 3) := by decide +kernel
theorem dX8_about_143 : decode cX8_about 143 = .ok (.ireturn, 1) := by decide +kernel
theorem dX8_about_144 : decode cX8_about 144 = .ok (.aload_n 0, 1) := by decide +kernel
theorem dX8_about_145 : decode cX8_about 145 = .ok (.getfield 168, 3) := by decide +kernel
theorem dX8_about_148 : decode cX8_about 148 = .ok (.ireturn, 1) := by decide +kernel
theorem dX8_about_149 : decode cX8_about 149 = .ok (.aload_n 0, 1) := by decide +kernel
theorem dX8_about_150 : decode cX8_about 150 = .ok (.getfield 78, 3) := by decide +kernel
theorem dX8_about_153 : decode cX8_about 153 = .ok (.ireturn, 1) := by decide +kernel
theorem dX8_about_154 : decode cX8_about 154 = .ok (.bipush (-2), 2) := by decide +kernel
theorem dX8_about_156 : decode cX8_about 156 = .ok (.ireturn, 1) := by decide +kernel
theorem dX8_berth_0 : decode cX8_berth 0 = .ok (.aload_n 0, 1) := by decide +kernel
theorem dX8_berth_1 : decode cX8_berth 1 = .ok (.iconst 0, 1) := by decide +kernel
theorem dX8_berth_2 : decode cX8_berth 2 = .ok (.putfield 62, 3) := by decide +kernel
theorem dX8_berth_5 : decode cX8_berth 5 = .ok (.aload_n 0, 1) := by decide +kernel
theorem dX8_berth_6 : decode cX8_berth 6 = .ok (.invokevirtual 171, 3) := by decide +kernel
theorem dX8_berth_9 : decode cX8_berth 9 = .ok (.aload_n 0, 1) := by decide +kernel
theorem dX8_berth_10 : decode cX8_berth 10 = .ok (.iload_n 1, 1) := by decide +kernel
theorem dX8_berth_11 : decode cX8_berth 11 = .ok (.invokevirtual 174, 3) := by decide +kernel
theorem dX8_berth_14 : decode cX8_berth 14 = .ok (.ifCond .eq 5, 3) := by decide +kernel
theorem dX8_berth_17 : decode cX8_berth 17 = .ok (.iconst (-1), 1) := by decide +kernel
theorem dX8_berth_18 : decode cX8_berth 18 = .ok (.ireturn, 1) := by decide +kernel
theorem dX8_berth_19 : decode cX8_berth 19 = .ok (.iload_n 2, 1) := by decide +kernel
theorem dX8_berth_20 : decode cX8_berth 20 = .ok (.tableswitch 83 0 4 #[36, 46, 53, 63, 73], 36) := by decide +kernel
theorem dX8_berth_56 : decode cX8_berth 56 = .ok (.aload_n 0, 1) := by decide +kernel
theorem dX8_berth_57 : decode cX8_berth 57 = .ok (.getfield 31, 3) := by decide +kernel
theorem dX8_berth_60 : decode cX8_berth 60 = .ok (.bipush 15, 2) := by decide +kernel
theorem dX8_berth_62 : decode cX8_berth 62 = .ok (.iload_n 1, 1) := by decide +kernel
theorem dX8_berth_63 : decode cX8_berth 63 = .ok (.iadd, 1) := by decide +kernel
theorem dX8_berth_64 : decode cX8_berth 64 = .ok (.iaload, 1) := by decide +kernel
theorem dX8_berth_65 : decode cX8_berth 65 = .ok (.ireturn, 1) := by decide +kernel
theorem dX8_berth_66 : decode cX8_berth 66 = .ok (.aload_n 0, 1) := by decide +kernel
theorem dX8_berth_67 : decode cX8_berth 67 = .ok (.getfield 16, 3) := by decide +kernel
theorem dX8_berth_70 : decode cX8_berth 70 = .ok (.iload_n 1, 1) := by decide +kernel
theorem dX8_berth_71 : decode cX8_berth 71 = .ok (.iaload, 1) := by decide +kernel
theorem dX8_berth_72 : decode cX8_berth 72 = .ok (.ireturn, 1) := by decide +kernel
theorem dX8_berth_73 : decode cX8_berth 73 = .ok (.aload_n 0, 1) := by decide +kernel
theorem dX8_berth_74 : decode cX8_berth 74 = .ok (.aload_n 0, 1) := by decide +kernel
theorem dX8_berth_75 : decode cX8_berth 75 = .ok (.getfield 31, 3) := by decide +kernel
theorem dX8_berth_78 : decode cX8_berth 78 = .ok (.iload_n 1, 1) := by decide +kernel
theorem dX8_berth_79 : decode cX8_berth 79 = .ok (.invokevirtual 148, 3) := by decide +kernel
theorem dX8_berth_82 : decode cX8_berth 82 = .ok (.ireturn, 1) := by decide +kernel
theorem dX8_berth_83 : decode cX8_berth 83 = .ok (.aload_n 0, 1) := by decide +kernel
theorem dX8_berth_84 : decode cX8_berth 84 = .ok (.aload_n 0, 1) := by decide +kernel
theorem dX8_berth_85 : decode cX8_berth 85 = .ok (.getfield 31, 3) := by decide +kernel
theorem dX8_berth_88 : decode cX8_berth 88 = .ok (.iload_n 1, 1) := by decide +kernel
theorem dX8_berth_89 : decode cX8_berth 89 = .ok (.invokevirtual 131, 3) := by decide +kernel
theorem dX8_berth_92 : decode cX8_berth 92 = .ok (.ireturn, 1) := by decide +kernel
theorem dX8_berth_93 : decode cX8_berth 93 = .ok (.aload_n 0, 1) := by decide +kernel
theorem dX8_berth_94 : decode cX8_berth 94 = .ok (.getfield 31, 3) := by decide +kernel
theorem dX8_berth_97 : decode cX8_berth 97 = .ok (.bipush 19, 2) := by decide +kernel
theorem dX8_berth_99 : decode cX8_berth 99 = .ok (.iload_n 1, 1) := by decide +kernel
theorem dX8_berth_100 : decode cX8_berth 100 = .ok (.iadd, 1) := by decide +kernel
theorem dX8_berth_101 : decode cX8_berth 101 = .ok (.iaload, 1) := by decide +kernel
theorem dX8_berth_102 : decode cX8_berth 102 = .ok (.ireturn, 1) := by decide +kernel
theorem dX8_berth_103 : decode cX8_berth 103 = .ok (.bipush (-2), 2) := by decide +kernel
theorem dX8_berth_105 : decode cX8_berth 105 = .ok (.ireturn, 1) := by decide +kernel
theorem dX8_dream_0 : decode cX8_dream 0 = .ok (.aload_n 0, 1) := by decide +kernel
theorem dX8_dream_1 : decode cX8_dream 1 = .ok (.iconst 0, 1) := by decide +kernel
theorem dX8_dream_2 : decode cX8_dream 2 = .ok (.putfield 62, 3) := by decide +kernel
theorem dX8_dream_5 : decode cX8_dream 5 = .ok (.aload_n 0, 1) := by decide +kernel
theorem dX8_dream_6 : decode cX8_dream 6 = .ok (.invokevirtual 171, 3) := by decide +kernel
theorem dX8_dream_9 : decode cX8_dream 9 = .ok (.aload_n 0, 1) := by decide +kernel
theorem dX8_dream_10 : decode cX8_dream 10 = .ok (.iload_n 1, 1) := by decide +kernel
theorem dX8_dream_11 : decode cX8_dream 11 = .ok (.invokevirtual 178, 3) := by decide +kernel
theorem dX8_dream_14 : decode cX8_dream 14 = .ok (.ifCond .eq 5, 3) := by decide +kernel
theorem dX8_dream_17 : decode cX8_dream 17 = .ok (.iconst (-1), 1) := by decide +kernel
theorem dX8_dream_18 : decode cX8_dream 18 = .ok (.ireturn, 1) := by decide +kernel
theorem dX8_dream_19 : decode cX8_dream 19 = .ok (.iload_n 2, 1) := by decide +kernel
theorem dX8_dream_20 : decode cX8_dream 20 = .ok (.tableswitch 110 0 4 #[36, 46, 53, 60, 85], 36) := by decide +kernel
theorem dX8_dream_56 : decode cX8_dream 56 = .ok (.aload_n 0, 1) := by decide +kernel
theorem dX8_dream_57 : decode cX8_dream 57 = .ok (.getfield 31, 3) := by decide +kernel
theorem dX8_dream_60 : decode cX8_dream 60 = .ok (.bipush 10, 2) := by decide +kernel
theorem dX8_dream_62 : decode cX8_dream 62 = .ok (.iload_n 1, 1) := by decide +kernel
theorem dX8_dream_63 : decode cX8_dream 63 = .ok (.iadd, 1) := by decide +kernel
theorem dX8_dream_64 : decode cX8_dream 64 = .ok (.iaload, 1) := by decide +kernel
theorem dX8_dream_65 : decode cX8_dream 65 = .ok (.ireturn, 1) := by decide +kernel
theorem dX8_dream_66 : decode cX8_dream 66 = .ok (.aload_n 0, 1) := by decide +kernel
theorem dX8_dream_67 : decode cX8_dream 67 = .ok (.getfield 19, 3) := by decide +kernel
theorem dX8_dream_70 : decode cX8_dream 70 = .ok (.iload_n 1, 1) := by decide +kernel
theorem dX8_dream_71 : decode cX8_dream 71 = .ok (.iaload, 1) := by decide +kernel
theorem dX8_dream_72 : decode cX8_dream 72 = .ok (.ireturn, 1) := by decide +kernel
theorem dX8_dream_73 : decode cX8_dream 73 = .ok (.aload_n 0, 1) := by decide +kernel
theorem dX8_dream_74 : decode cX8_dream 74 = .ok (.getfield 31, 3) := by decide +kernel
theorem dX8_dream_77 : decode cX8_dream 77 = .ok (.iload_n 1, 1) := by decide +kernel
theorem dX8_dream_78 : decode cX8_dream 78 = .ok (.iaload, 1) := by decide +kernel
theorem dX8_dream_79 : decode cX8_dream 79 = .ok (.ireturn, 1) := by decide +kernel
theorem dX8_dream_80 : decode cX8_dream 80 = .ok (.aload_n 0, 1) := by decide +kernel
theorem dX8_dream_81 : decode cX8_dream 81 = .ok (.getfield 31, 3) := by decide +kernel
theorem dX8_dream_84 : decode cX8_dream 84 = .ok (.iload_n 1, 1) := by decide +kernel
theorem dX8_dream_85 : decode cX8_dream 85 = .ok (.iaload, 1) := by decide +kernel
theorem dX8_dream_86 : decode cX8_dream 86 = .ok (.bipush 8, 2) := by decide +kernel
theorem dX8_dream_88 : decode cX8_dream 88 = .ok (.if_icmp .ne 14, 3) := by decide +kernel
theorem dX8_dream_91 : decode cX8_dream 91 = .ok (.aload_n 0, 1) := by decide +kernel
theorem dX8_dream_92 : decode cX8_dream 92 = .ok (.getfield 31, 3) := by decide +kernel
theorem dX8_dream_95 : decode cX8_dream 95 = .ok (.iconst 5, 1) := by decide +kernel
theorem dX8_dream_96 : decode cX8_dream 96 = .ok (.iload_n 1, 1) := by decide +kernel
theorem dX8_dream_97 : decode cX8_dream 97 = .ok (.iadd, 1) := by decide +kernel
theorem dX8_dream_98 : decode cX8_dream 98 = .ok (.iaload, 1) := by decide +kernel
theorem dX8_dream_99 : decode cX8_dream 99 = .ok (.goto 5, 3) := by decide +kernel
theorem dX8_dream_102 : decode cX8_dream 102 = .ok (.bipush (-9), 2) := by decide +kernel
theorem dX8_dream_104 : decode cX8_dream 104 = .ok (.ireturn, 1) := by decide +kernel
theorem dX8_dream_105 : decode cX8_dream 105 = .ok (.aload_n 0, 1) := by decide +kernel
theorem dX8_dream_106 : decode cX8_dream 106 = .ok (.getfield 31, 3) := by decide +kernel
theorem dX8_dream_109 : decode cX8_dream 109 = .ok (.iload_n 1, 1) := by decide +kernel
theorem dX8_dream_110 : decode cX8_dream 110 = .ok (.iaload, 1) := by decide +kernel
theorem dX8_dream_111 : decode cX8_dream 111 = .ok (.bipush 8, 2) := by decide +kernel
theorem dX8_dream_113 : decode cX8_dream 113 = .ok (.if_icmp .ne 15, 3) := by decide +kernel
theorem dX8_dream_116 : decode cX8_dream 116 = .ok (.aload_n 0, 1) := by decide +kernel
theorem dX8_dream_117 : decode cX8_dream 117 = .ok (.aload_n 0, 1) := by decide +kernel
theorem dX8_dream_118 : decode cX8_dream 118 = .ok (.getfield 31, 3) := by decide +kernel
theorem dX8_dream_121 : decode cX8_dream 121 = .ok (.iload_n 1, 1) := by decide +kernel
theorem dX8_dream_122 : decode cX8_dream 122 = .ok (.invokevirtual 151, 3) := by decide +kernel
theorem dX8_dream_125 : decode cX8_dream 125 = .ok (.goto 4, 3) := by decide +kernel
theorem dX8_dream_128 : decode cX8_dream 128 = .ok (.iconst 0, 1) := by decide +kernel
theorem dX8_dream_129 : decode cX8_dream 129 = .ok (.ireturn, 1) := by decide +kernel
theorem dX8_dream_130 : decode cX8_dream 130 = .ok (.bipush (-2), 2) := by decide +kernel
theorem dX8_dream_132 : decode cX8_dream 132 = .ok (.ireturn, 1) := by decide +kernel
theorem dX8_note_0 : decode cX8_note 0 = .ok (.aload_n 0, 1) := by decide +kernel
theorem dX8_note_1 : decode cX8_note 1 = .ok (.getfield 117, 3) := by decide +kernel
theorem dX8_note_4 : decode cX8_note 4 = .ok (.bipush 14, 2) := by decide +kernel
theorem dX8_note_6 : decode cX8_note 6 = .ok (.if_icmp .ne 43, 3) := by decide +kernel
theorem dX8_note_9 : decode cX8_note 9 = .ok (.iconst 0, 1) := by decide +kernel
theorem dX8_note_10 : decode cX8_note 10 = .ok (.istore_n 1, 1) := by decide +kernel
theorem dX8_note_11 : decode cX8_note 11 = .ok (.iload_n 1, 1) := by decide +kernel
theorem dX8_note_12 : decode cX8_note 12 = .ok (.sipush 312, 3) := by decide +kernel
theorem dX8_note_15 : decode cX8_note 15 = .ok (.if_icmp .ge 24, 3) := by decide +kernel
theorem dX8_note_18 : decode cX8_note 18 = .ok (.aload_n 0, 1) := by decide +kernel
theorem dX8_note_19 : decode cX8_note 19 = .ok (.getfield 37, 3) := by decide +kernel
theorem dX8_note_22 : decode cX8_note 22 = .ok (.iload_n 1, 1) := by decide +kernel
theorem dX8_note_23 : decode cX8_note 23 = .ok (.aload_n 0, 1) := by decide +kernel
theorem dX8_note_24 : decode cX8_note 24 = .ok (.getfield 37, 3) := by decide +kernel
theorem dX8_note_27 : decode cX8_note 27 = .ok (.iload_n 1, 1) := by decide +kernel
theorem dX8_note_28 : decode cX8_note 28 = .ok (.bipush 24, 2) := by decide +kernel
theorem dX8_note_30 : decode cX8_note 30 = .ok (.iadd, 1) := by decide +kernel
theorem dX8_note_31 : decode cX8_note 31 = .ok (.iaload, 1) := by decide +kernel
theorem dX8_note_32 : decode cX8_note 32 = .ok (.iastore, 1) := by decide +kernel
theorem dX8_note_33 : decode cX8_note 33 = .ok (.iinc 1 1, 3) := by decide +kernel
theorem dX8_note_36 : decode cX8_note 36 = .ok (.goto (-25), 3) := by decide +kernel
theorem dX8_note_39 : decode cX8_note 39 = .ok (.aload_n 0, 1) := by decide +kernel
theorem dX8_note_40 : decode cX8_note 40 = .ok (.dup, 1) := by decide +kernel
theorem dX8_note_41 : decode cX8_note 41 = .ok (.getfield 117, 3) := by decide +kernel
theorem dX8_note_44 : decode cX8_note 44 = .ok (.iconst 1, 1) := by decide +kernel
theorem dX8_note_45 : decode cX8_note 45 = .ok (.isub, 1) := by decide +kernel
theorem dX8_note_46 : decode cX8_note 46 = .ok (.putfield 117, 3) := by decide +kernel
theorem dX8_note_49 : decode cX8_note 49 = .ok (.iconst 0, 1) := by decide +kernel
theorem dX8_note_50 : decode cX8_note 50 = .ok (.istore_n 1, 1) := by decide +kernel
theorem dX8_note_51 : decode cX8_note 51 = .ok (.iload_n 1, 1) := by decide +kernel
theorem dX8_note_52 : decode cX8_note 52 = .ok (.bipush 24, 2) := by decide +kernel
theorem dX8_note_54 : decode cX8_note 54 = .ok (.if_icmp .ge 29, 3) := by decide +kernel
theorem dX8_note_57 : decode cX8_note 57 = .ok (.aload_n 0, 1) := by decide +kernel
theorem dX8_note_58 : decode cX8_note 58 = .ok (.getfield 37, 3) := by decide +kernel
theorem dX8_note_61 : decode cX8_note 61 = .ok (.bipush 24, 2) := by decide +kernel
theorem dX8_note_63 : decode cX8_note 63 = .ok (.aload_n 0, 1) := by decide +kernel
theorem dX8_note_64 : decode cX8_note 64 = .ok (.getfield 117, 3) := by decide +kernel
theorem dX8_note_67 : decode cX8_note 67 = .ok (.imul, 1) := by decide +kernel
theorem dX8_note_68 : decode cX8_note 68 = .ok (.iload_n 1, 1) := by decide +kernel
theorem dX8_note_69 : decode cX8_note 69 = .ok (.iadd, 1) := by decide +kernel
theorem dX8_note_70 : decode cX8_note 70 = .ok (.aload_n 0, 1) := by decide +kernel
theorem dX8_note_71 : decode cX8_note 71 = .ok (.getfield 31, 3) := by decide +kernel
theorem dX8_note_74 : decode cX8_note 74 = .ok (.iload_n 1, 1) := by decide +kernel
theorem dX8_note_75 : decode cX8_note 75 = .ok (.iaload, 1) := by decide +kernel
theorem dX8_note_76 : decode cX8_note 76 = .ok (.iastore, 1) := by decide +kernel
theorem dX8_note_77 : decode cX8_note 77 = .ok (.iinc 1 1, 3) := by decide +kernel
theorem dX8_note_80 : decode cX8_note 80 = .ok (.goto (-29), 3) := by decide +kernel
theorem dX8_note_83 : decode cX8_note 83 = .ok (.aload_n 0, 1) := by decide +kernel
theorem dX8_note_84 : decode cX8_note 84 = .ok (.dup, 1) := by decide +kernel
theorem dX8_note_85 : decode cX8_note 85 = .ok (.getfield 117, 3) := by decide +kernel
theorem dX8_note_88 : decode cX8_note 88 = .ok (.iconst 1, 1) := by decide +kernel
theorem dX8_note_89 : decode cX8_note 89 = .ok (.iadd, 1) := by decide +kernel
theorem dX8_note_90 : decode cX8_note 90 = .ok (.putfield 117, 3) := by decide +kernel
theorem dX8_note_93 : decode cX8_note 93 = .ok (.return_, 1) := by decide +kernel
theorem dX8_night_0 : decode cX8_night 0 = .ok (.aload_n 0, 1) := by decide +kernel
theorem dX8_night_1 : decode cX8_night 1 = .ok (.iconst 0, 1) := by decide +kernel
theorem dX8_night_2 : decode cX8_night 2 = .ok (.putfield 62, 3) := by decide +kernel
theorem dX8_night_5 : decode cX8_night 5 = .ok (.aload_n 0, 1) := by decide +kernel
theorem dX8_night_6 : decode cX8_night 6 = .ok (.invokevirtual 171, 3) := by decide +kernel
theorem dX8_night_9 : decode cX8_night 9 = .ok (.aload_n 0, 1) := by decide +kernel
theorem dX8_night_10 : decode cX8_night 10 = .ok (.invokevirtual 181, 3) := by decide +kernel
theorem dX8_night_13 : decode cX8_night 13 = .ok (.aload_n 0, 1) := by decide +kernel
theorem dX8_night_14 : decode cX8_night 14 = .ok (.aload_n 0, 1) := by decide +kernel
theorem dX8_night_15 : decode cX8_night 15 = .ok (.getfield 31, 3) := by decide +kernel
theorem dX8_night_18 : decode cX8_night 18 = .ok (.invokevirtual 184, 3) := by decide +kernel
theorem dX8_night_21 : decode cX8_night 21 = .ok (.ireturn, 1) := by decide +kernel
theorem dX8_moor_0 : decode cX8_moor 0 = .ok (.aload_n 0, 1) := by decide +kernel
theorem dX8_moor_1 : decode cX8_moor 1 = .ok (.iconst 0, 1) := by decide +kernel
theorem dX8_moor_2 : decode cX8_moor 2 = .ok (.putfield 62, 3) := by decide +kernel
theorem dX8_moor_5 : decode cX8_moor 5 = .ok (.aload_n 0, 1) := by decide +kernel
theorem dX8_moor_6 : decode cX8_moor 6 = .ok (.invokevirtual 171, 3) := by decide +kernel
theorem dX8_moor_9 : decode cX8_moor 9 = .ok (.aload_n 0, 1) := by decide +kernel
theorem dX8_moor_10 : decode cX8_moor 10 = .ok (.iload_n 1, 1) := by decide +kernel
theorem dX8_moor_11 : decode cX8_moor 11 = .ok (.invokevirtual 178, 3) := by decide +kernel
theorem dX8_moor_14 : decode cX8_moor 14 = .ok (.ifCond .ne 11, 3) := by decide +kernel
theorem dX8_moor_17 : decode cX8_moor 17 = .ok (.aload_n 0, 1) := by decide +kernel
theorem dX8_moor_18 : decode cX8_moor 18 = .ok (.iload_n 2, 1) := by decide +kernel
theorem dX8_moor_19 : decode cX8_moor 19 = .ok (.invokevirtual 174, 3) := by decide +kernel
theorem dX8_moor_22 : decode cX8_moor 22 = .ok (.ifCond .eq 5, 3) := by decide +kernel
theorem dX8_moor_25 : decode cX8_moor 25 = .ok (.iconst (-1), 1) := by decide +kernel
theorem dX8_moor_26 : decode cX8_moor 26 = .ok (.ireturn, 1) := by decide +kernel
theorem dX8_moor_27 : decode cX8_moor 27 = .ok (.aload_n 0, 1) := by decide +kernel
theorem dX8_moor_28 : decode cX8_moor 28 = .ok (.getfield 31, 3) := by decide +kernel
theorem dX8_moor_31 : decode cX8_moor 31 = .ok (.iload_n 1, 1) := by decide +kernel
theorem dX8_moor_32 : decode cX8_moor 32 = .ok (.iaload, 1) := by decide +kernel
theorem dX8_moor_33 : decode cX8_moor 33 = .ok (.bipush 8, 2) := by decide +kernel
theorem dX8_moor_35 : decode cX8_moor 35 = .ok (.if_icmp .ne 16, 3) := by decide +kernel
theorem dX8_moor_38 : decode cX8_moor 38 = .ok (.aload_n 0, 1) := by decide +kernel
theorem dX8_moor_39 : decode cX8_moor 39 = .ok (.aload_n 0, 1) := by decide +kernel
theorem dX8_moor_40 : decode cX8_moor 40 = .ok (.getfield 31, 3) := by decide +kernel
theorem dX8_moor_43 : decode cX8_moor 43 = .ok (.iload_n 1, 1) := by decide +kernel
theorem dX8_moor_44 : decode cX8_moor 44 = .ok (.iload_n 2, 1) := by decide +kernel
theorem dX8_moor_45 : decode cX8_moor 45 = .ok (.invokevirtual 145, 3) := by decide +kernel
theorem dX8_moor_48 : decode cX8_moor 48 = .ok (.ifCond .ne 6, 3) := by decide +kernel
theorem dX8_moor_51 : decode cX8_moor 51 = .ok (.bipush (-3), 2) := by decide +kernel
theorem dX8_moor_53 : decode cX8_moor 53 = .ok (.ireturn, 1) := by decide +kernel
theorem dX8_moor_54 : decode cX8_moor 54 = .ok (.aload_n 0, 1) := by decide +kernel
theorem dX8_moor_55 : decode cX8_moor 55 = .ok (.invokevirtual 181, 3) := by decide +kernel
theorem dX8_moor_58 : decode cX8_moor 58 = .ok (.aload_n 0, 1) := by decide +kernel
theorem dX8_moor_59 : decode cX8_moor 59 = .ok (.getfield 31, 3) := by decide +kernel
theorem dX8_moor_62 : decode cX8_moor 62 = .ok (.iload_n 1, 1) := by decide +kernel
theorem dX8_moor_63 : decode cX8_moor 63 = .ok (.iload_n 2, 1) := by decide +kernel
theorem dX8_moor_64 : decode cX8_moor 64 = .ok (.iastore, 1) := by decide +kernel
theorem dX8_moor_65 : decode cX8_moor 65 = .ok (.aload_n 0, 1) := by decide +kernel
theorem dX8_moor_66 : decode cX8_moor 66 = .ok (.aload_n 0, 1) := by decide +kernel
theorem dX8_moor_67 : decode cX8_moor 67 = .ok (.getfield 31, 3) := by decide +kernel
theorem dX8_moor_70 : decode cX8_moor 70 = .ok (.iload_n 2, 1) := by decide +kernel
theorem dX8_moor_71 : decode cX8_moor 71 = .ok (.invokevirtual 131, 3) := by decide +kernel
theorem dX8_moor_74 : decode cX8_moor 74 = .ok (.invokestatic 142, 3) := by decide +kernel
theorem dX8_moor_77 : decode cX8_moor 77 = .ok (.ireturn, 1) := by decide +kernel
theorem dX8_goTow_0 : decode cX8_goTow 0 = .ok (.aload_n 0, 1) := by decide +kernel
theorem dX8_goTow_1 : decode cX8_goTow 1 = .ok (.iload_n 1, 1) := by decide +kernel
theorem dX8_goTow_2 : decode cX8_goTow 2 = .ok (.bipush 8, 2) := by decide +kernel
theorem dX8_goTow_4 : decode cX8_goTow 4 = .ok (.iastore, 1) := by decide +kernel
theorem dX8_goTow_5 : decode cX8_goTow 5 = .ok (.aload_n 0, 1) := by decide +kernel
theorem dX8_goTow_6 : decode cX8_goTow 6 = .ok (.iconst 5, 1) := by decide +kernel
theorem dX8_goTow_7 : decode cX8_goTow 7 = .ok (.iload_n 1, 1) := by decide +kernel
theorem dX8_goTow_8 : decode cX8_goTow 8 = .ok (.iadd, 1) := by decide +kernel
theorem dX8_goTow_9 : decode cX8_goTow 9 = .ok (.iconst 0, 1) := by decide +kernel
theorem dX8_goTow_10 : decode cX8_goTow 10 = .ok (.iastore, 1) := by decide +kernel
theorem dX8_goTow_11 : decode cX8_goTow 11 = .ok (.return_, 1) := by decide +kernel
theorem dX8_tow_0 : decode cX8_tow 0 = .ok (.aload_n 0, 1) := by decide +kernel
theorem dX8_tow_1 : decode cX8_tow 1 = .ok (.iconst 0, 1) := by decide +kernel
theorem dX8_tow_2 : decode cX8_tow 2 = .ok (.putfield 62, 3) := by decide +kernel
theorem dX8_tow_5 : decode cX8_tow 5 = .ok (.aload_n 0, 1) := by decide +kernel
theorem dX8_tow_6 : decode cX8_tow 6 = .ok (.iload_n 1, 1) := by decide +kernel
theorem dX8_tow_7 : decode cX8_tow 7 = .ok (.invokevirtual 178, 3) := by decide +kernel
theorem dX8_tow_10 : decode cX8_tow 10 = .ok (.ifCond .eq 5, 3) := by decide +kernel
theorem dX8_tow_13 : decode cX8_tow 13 = .ok (.iconst (-1), 1) := by decide +kernel
theorem dX8_tow_14 : decode cX8_tow 14 = .ok (.ireturn, 1) := by decide +kernel
theorem dX8_tow_15 : decode cX8_tow 15 = .ok (.aload_n 0, 1) := by decide +kernel
theorem dX8_tow_16 : decode cX8_tow 16 = .ok (.getfield 31, 3) := by decide +kernel
theorem dX8_tow_19 : decode cX8_tow 19 = .ok (.iload_n 1, 1) := by decide +kernel
theorem dX8_tow_20 : decode cX8_tow 20 = .ok (.iaload, 1) := by decide +kernel
theorem dX8_tow_21 : decode cX8_tow 21 = .ok (.istore_n 2, 1) := by decide +kernel
theorem dX8_tow_22 : decode cX8_tow 22 = .ok (.iload_n 2, 1) := by decide +kernel
theorem dX8_tow_23 : decode cX8_tow 23 = .ok (.iconst 4, 1) := by decide +kernel
theorem dX8_tow_24 : decode cX8_tow 24 = .ok (.if_icmp .lt 6, 3) := by decide +kernel
theorem dX8_tow_27 : decode cX8_tow 27 = .ok (.bipush (-3), 2) := by decide +kernel
theorem dX8_tow_29 : decode cX8_tow 29 = .ok (.ireturn, 1) := by decide +kernel
theorem dX8_tow_30 : decode cX8_tow 30 = .ok (.aload_n 0, 1) := by decide +kernel
theorem dX8_tow_31 : decode cX8_tow 31 = .ok (.invokevirtual 181, 3) := by decide +kernel
theorem dX8_tow_34 : decode cX8_tow 34 = .ok (.aload_n 0, 1) := by decide +kernel
theorem dX8_tow_35 : decode cX8_tow 35 = .ok (.getfield 31, 3) := by decide +kernel
theorem dX8_tow_38 : decode cX8_tow 38 = .ok (.iload_n 1, 1) := by decide +kernel
theorem dX8_tow_39 : decode cX8_tow 39 = .ok (.invokestatic 187, 3) := by decide +kernel
theorem dX8_tow_42 : decode cX8_tow 42 = .ok (.iload_n 2, 1) := by decide +kernel
theorem dX8_tow_43 : decode cX8_tow 43 = .ok (.ireturn, 1) := by decide +kernel
theorem dX8_undo_0 : decode cX8_undo 0 = .ok (.aload_n 0, 1) := by decide +kernel
theorem dX8_undo_1 : decode cX8_undo 1 = .ok (.iconst 0, 1) := by decide +kernel
theorem dX8_undo_2 : decode cX8_undo 2 = .ok (.putfield 62, 3) := by decide +kernel
theorem dX8_undo_5 : decode cX8_undo 5 = .ok (.aload_n 0, 1) := by decide +kernel
theorem dX8_undo_6 : decode cX8_undo 6 = .ok (.getfield 117, 3) := by decide +kernel
theorem dX8_undo_9 : decode cX8_undo 9 = .ok (.ifCond .ne 6, 3) := by decide +kernel
theorem dX8_undo_12 : decode cX8_undo 12 = .ok (.bipush (-3), 2) := by decide +kernel
theorem dX8_undo_14 : decode cX8_undo 14 = .ok (.ireturn, 1) := by decide +kernel
theorem dX8_undo_15 : decode cX8_undo 15 = .ok (.aload_n 0, 1) := by decide +kernel
theorem dX8_undo_16 : decode cX8_undo 16 = .ok (.dup, 1) := by decide +kernel
theorem dX8_undo_17 : decode cX8_undo 17 = .ok (.getfield 117, 3) := by decide +kernel
theorem dX8_undo_20 : decode cX8_undo 20 = .ok (.iconst 1, 1) := by decide +kernel
theorem dX8_undo_21 : decode cX8_undo 21 = .ok (.isub, 1) := by decide +kernel
theorem dX8_undo_22 : decode cX8_undo 22 = .ok (.putfield 117, 3) := by decide +kernel
theorem dX8_undo_25 : decode cX8_undo 25 = .ok (.iconst 0, 1) := by decide +kernel
theorem dX8_undo_26 : decode cX8_undo 26 = .ok (.istore_n 1, 1) := by decide +kernel
theorem dX8_undo_27 : decode cX8_undo 27 = .ok (.iload_n 1, 1) := by decide +kernel
theorem dX8_undo_28 : decode cX8_undo 28 = .ok (.bipush 24, 2) := by decide +kernel
theorem dX8_undo_30 : decode cX8_undo 30 = .ok (.if_icmp .ge 29, 3) := by decide +kernel
theorem dX8_undo_33 : decode cX8_undo 33 = .ok (.aload_n 0, 1) := by decide +kernel
theorem dX8_undo_34 : decode cX8_undo 34 = .ok (.getfield 31, 3) := by decide +kernel
theorem dX8_undo_37 : decode cX8_undo 37 = .ok (.iload_n 1, 1) := by decide +kernel
theorem dX8_undo_38 : decode cX8_undo 38 = .ok (.aload_n 0, 1) := by decide +kernel
theorem dX8_undo_39 : decode cX8_undo 39 = .ok (.getfield 37, 3) := by decide +kernel
theorem dX8_undo_42 : decode cX8_undo 42 = .ok (.bipush 24, 2) := by decide +kernel
theorem dX8_undo_44 : decode cX8_undo 44 = .ok (.aload_n 0, 1) := by decide +kernel
theorem dX8_undo_45 : decode cX8_undo 45 = .ok (.getfield 117, 3) := by decide +kernel
theorem dX8_undo_48 : decode cX8_undo 48 = .ok (.imul, 1) := by decide +kernel
theorem dX8_undo_49 : decode cX8_undo 49 = .ok (.iload_n 1, 1) := by decide +kernel
theorem dX8_undo_50 : decode cX8_undo 50 = .ok (.iadd, 1) := by decide +kernel
theorem dX8_undo_51 : decode cX8_undo 51 = .ok (.iaload, 1) := by decide +kernel
theorem dX8_undo_52 : decode cX8_undo 52 = .ok (.iastore, 1) := by decide +kernel
theorem dX8_undo_53 : decode cX8_undo 53 = .ok (.iinc 1 1, 3) := by decide +kernel
theorem dX8_undo_56 : decode cX8_undo 56 = .ok (.goto (-29), 3) := by decide +kernel
theorem dX8_undo_59 : decode cX8_undo 59 = .ok (.aload_n 0, 1) := by decide +kernel
theorem dX8_undo_60 : decode cX8_undo 60 = .ok (.getfield 117, 3) := by decide +kernel
theorem dX8_undo_63 : decode cX8_undo 63 = .ok (.ireturn, 1) := by decide +kernel
theorem dX8_begin_0 : decode cX8_begin 0 = .ok (.iconst 0, 1) := by decide +kernel
theorem dX8_begin_1 : decode cX8_begin 1 = .ok (.istore_n 1, 1) := by decide +kernel
theorem dX8_begin_2 : decode cX8_begin 2 = .ok (.iload_n 1, 1) := by decide +kernel
theorem dX8_begin_3 : decode cX8_begin 3 = .ok (.bipush 24, 2) := by decide +kernel
theorem dX8_begin_5 : decode cX8_begin 5 = .ok (.if_icmp .ge 21, 3) := by decide +kernel
theorem dX8_begin_8 : decode cX8_begin 8 = .ok (.aload_n 0, 1) := by decide +kernel
theorem dX8_begin_9 : decode cX8_begin 9 = .ok (.getfield 34, 3) := by decide +kernel
theorem dX8_begin_12 : decode cX8_begin 12 = .ok (.iload_n 1, 1) := by decide +kernel
theorem dX8_begin_13 : decode cX8_begin 13 = .ok (.aload_n 0, 1) := by decide +kernel
theorem dX8_begin_14 : decode cX8_begin 14 = .ok (.getfield 31, 3) := by decide +kernel
theorem dX8_begin_17 : decode cX8_begin 17 = .ok (.iload_n 1, 1) := by decide +kernel
theorem dX8_begin_18 : decode cX8_begin 18 = .ok (.iaload, 1) := by decide +kernel
theorem dX8_begin_19 : decode cX8_begin 19 = .ok (.iastore, 1) := by decide +kernel
theorem dX8_begin_20 : decode cX8_begin 20 = .ok (.iinc 1 1, 3) := by decide +kernel
theorem dX8_begin_23 : decode cX8_begin 23 = .ok (.goto (-21), 3) := by decide +kernel
theorem dX8_begin_26 : decode cX8_begin 26 = .ok (.return_, 1) := by decide +kernel
theorem dX8_goNights_0 : decode cX8_goNights 0 = .ok (.aload_n 0, 1) := by decide +kernel
theorem dX8_goNights_1 : decode cX8_goNights 1 = .ok (.invokevirtual 171, 3) := by decide +kernel
theorem dX8_goNights_4 : decode cX8_goNights 4 = .ok (.aload_n 0, 1) := by decide +kernel
theorem dX8_goNights_5 : decode cX8_goNights 5 = .ok (.invokevirtual 191, 3) := by decide +kernel
theorem dX8_goNights_8 : decode cX8_goNights 8 = .ok (.iconst 0, 1) := by decide +kernel
theorem dX8_goNights_9 : decode cX8_goNights 9 = .ok (.istore_n 2, 1) := by decide +kernel
theorem dX8_goNights_10 : decode cX8_goNights 10 = .ok (.iload_n 2, 1) := by decide +kernel
theorem dX8_goNights_11 : decode cX8_goNights 11 = .ok (.iload_n 1, 1) := by decide +kernel
theorem dX8_goNights_12 : decode cX8_goNights 12 = .ok (.if_icmp .ge 18, 3) := by decide +kernel
theorem dX8_goNights_15 : decode cX8_goNights 15 = .ok (.aload_n 0, 1) := by decide +kernel
theorem dX8_goNights_16 : decode cX8_goNights 16 = .ok (.aload_n 0, 1) := by decide +kernel
theorem dX8_goNights_17 : decode cX8_goNights 17 = .ok (.getfield 34, 3) := by decide +kernel
theorem dX8_goNights_20 : decode cX8_goNights 20 = .ok (.invokevirtual 184, 3) := by decide +kernel
theorem dX8_goNights_23 : decode cX8_goNights 23 = .ok (.pop, 1) := by decide +kernel
theorem dX8_goNights_24 : decode cX8_goNights 24 = .ok (.iinc 2 1, 3) := by decide +kernel
theorem dX8_goNights_27 : decode cX8_goNights 27 = .ok (.goto (-17), 3) := by decide +kernel
theorem dX8_goNights_30 : decode cX8_goNights 30 = .ok (.return_, 1) := by decide +kernel
theorem dX8_later_0 : decode cX8_later 0 = .ok (.aload_n 0, 1) := by decide +kernel
theorem dX8_later_1 : decode cX8_later 1 = .ok (.iconst 0, 1) := by decide +kernel
theorem dX8_later_2 : decode cX8_later 2 = .ok (.putfield 62, 3) := by decide +kernel
theorem dX8_later_5 : decode cX8_later 5 = .ok (.aload_n 0, 1) := by decide +kernel
theorem dX8_later_6 : decode cX8_later 6 = .ok (.iload_n 1, 1) := by decide +kernel
theorem dX8_later_7 : decode cX8_later 7 = .ok (.invokevirtual 178, 3) := by decide +kernel
theorem dX8_later_10 : decode cX8_later 10 = .ok (.ifCond .eq 5, 3) := by decide +kernel
theorem dX8_later_13 : decode cX8_later 13 = .ok (.iconst (-1), 1) := by decide +kernel
theorem dX8_later_14 : decode cX8_later 14 = .ok (.ireturn, 1) := by decide +kernel
theorem dX8_later_15 : decode cX8_later 15 = .ok (.iload_n 2, 1) := by decide +kernel
theorem dX8_later_16 : decode cX8_later 16 = .ok (.i2l, 1) := by decide +kernel
theorem dX8_later_17 : decode cX8_later 17 = .ok (.lconst 0, 1) := by decide +kernel
theorem dX8_later_18 : decode cX8_later 18 = .ok (.ldc2_w 194, 3) := by decide +kernel
theorem dX8_later_21 : decode cX8_later 21 = .ok (.invokestatic 69, 3) := by decide +kernel
theorem dX8_later_24 : decode cX8_later 24 = .ok (.ifCond .ne 6, 3) := by decide +kernel
theorem dX8_later_27 : decode cX8_later 27 = .ok (.bipush (-2), 2) := by decide +kernel
theorem dX8_later_29 : decode cX8_later 29 = .ok (.ireturn, 1) := by decide +kernel
theorem dX8_later_30 : decode cX8_later 30 = .ok (.aload_n 0, 1) := by decide +kernel
theorem dX8_later_31 : decode cX8_later 31 = .ok (.iload_n 2, 1) := by decide +kernel
theorem dX8_later_32 : decode cX8_later 32 = .ok (.invokevirtual 196, 3) := by decide +kernel
theorem dX8_later_35 : decode cX8_later 35 = .ok (.aload_n 0, 1) := by decide +kernel
theorem dX8_later_36 : decode cX8_later 36 = .ok (.getfield 34, 3) := by decide +kernel
theorem dX8_later_39 : decode cX8_later 39 = .ok (.iload_n 1, 1) := by decide +kernel
theorem dX8_later_40 : decode cX8_later 40 = .ok (.iaload, 1) := by decide +kernel
theorem dX8_later_41 : decode cX8_later 41 = .ok (.ireturn, 1) := by decide +kernel
theorem dX8_wakes_0 : decode cX8_wakes 0 = .ok (.aload_n 0, 1) := by decide +kernel
theorem dX8_wakes_1 : decode cX8_wakes 1 = .ok (.iconst 0, 1) := by decide +kernel
theorem dX8_wakes_2 : decode cX8_wakes 2 = .ok (.putfield 62, 3) := by decide +kernel
theorem dX8_wakes_5 : decode cX8_wakes 5 = .ok (.aload_n 0, 1) := by decide +kernel
theorem dX8_wakes_6 : decode cX8_wakes 6 = .ok (.iload_n 1, 1) := by decide +kernel
theorem dX8_wakes_7 : decode cX8_wakes 7 = .ok (.invokevirtual 174, 3) := by decide +kernel
theorem dX8_wakes_10 : decode cX8_wakes 10 = .ok (.ifCond .eq 5, 3) := by decide +kernel
theorem dX8_wakes_13 : decode cX8_wakes 13 = .ok (.iconst (-1), 1) := by decide +kernel
theorem dX8_wakes_14 : decode cX8_wakes 14 = .ok (.ireturn, 1) := by decide +kernel
theorem dX8_wakes_15 : decode cX8_wakes 15 = .ok (.iload_n 2, 1) := by decide +kernel
theorem dX8_wakes_16 : decode cX8_wakes 16 = .ok (.i2l, 1) := by decide +kernel
theorem dX8_wakes_17 : decode cX8_wakes 17 = .ok (.lconst 0, 1) := by decide +kernel
theorem dX8_wakes_18 : decode cX8_wakes 18 = .ok (.ldc2_w 194, 3) := by decide +kernel
theorem dX8_wakes_21 : decode cX8_wakes 21 = .ok (.invokestatic 69, 3) := by decide +kernel
theorem dX8_wakes_24 : decode cX8_wakes 24 = .ok (.ifCond .ne 6, 3) := by decide +kernel
theorem dX8_wakes_27 : decode cX8_wakes 27 = .ok (.bipush (-2), 2) := by decide +kernel
theorem dX8_wakes_29 : decode cX8_wakes 29 = .ok (.ireturn, 1) := by decide +kernel
theorem dX8_wakes_30 : decode cX8_wakes 30 = .ok (.aload_n 0, 1) := by decide +kernel
theorem dX8_wakes_31 : decode cX8_wakes 31 = .ok (.iload_n 2, 1) := by decide +kernel
theorem dX8_wakes_32 : decode cX8_wakes 32 = .ok (.invokevirtual 196, 3) := by decide +kernel
theorem dX8_wakes_35 : decode cX8_wakes 35 = .ok (.aload_n 0, 1) := by decide +kernel
theorem dX8_wakes_36 : decode cX8_wakes 36 = .ok (.getfield 34, 3) := by decide +kernel
theorem dX8_wakes_39 : decode cX8_wakes 39 = .ok (.bipush 19, 2) := by decide +kernel
theorem dX8_wakes_41 : decode cX8_wakes 41 = .ok (.iload_n 1, 1) := by decide +kernel
theorem dX8_wakes_42 : decode cX8_wakes 42 = .ok (.iadd, 1) := by decide +kernel
theorem dX8_wakes_43 : decode cX8_wakes 43 = .ok (.iaload, 1) := by decide +kernel
theorem dX8_wakes_44 : decode cX8_wakes 44 = .ok (.ireturn, 1) := by decide +kernel
theorem dX8_fitsThen_0 : decode cX8_fitsThen 0 = .ok (.iconst 0, 1) := by decide +kernel
theorem dX8_fitsThen_1 : decode cX8_fitsThen 1 = .ok (.istore_n 2, 1) := by decide +kernel
theorem dX8_fitsThen_2 : decode cX8_fitsThen 2 = .ok (.iconst 0, 1) := by decide +kernel
theorem dX8_fitsThen_3 : decode cX8_fitsThen 3 = .ok (.istore_n 3, 1) := by decide +kernel
theorem dX8_fitsThen_4 : decode cX8_fitsThen 4 = .ok (.iload_n 3, 1) := by decide +kernel
theorem dX8_fitsThen_5 : decode cX8_fitsThen 5 = .ok (.aload_n 0, 1) := by decide +kernel
end
section
theorem dX8_fitsThen_6 : decode cX8_fitsThen 6 = .ok (.getfield 66, 3) := by decide +kernel
theorem dX8_fitsThen_9 : decode cX8_fitsThen 9 = .ok (.if_icmp .ge 53, 3) := by decide +kernel
theorem dX8_fitsThen_12 : decode cX8_fitsThen 12 = .ok (.iload_n 2, 1) := by decide +kernel
theorem dX8_fitsThen_13 : decode cX8_fitsThen 13 = .ok (.aload_n 0, 1) := by decide +kernel
theorem dX8_fitsThen_14 : decode cX8_fitsThen 14 = .ok (.aload_n 0, 1) := by decide +kernel
theorem dX8_fitsThen_15 : decode cX8_fitsThen 15 = .ok (.getfield 34, 3) := by decide +kernel
theorem dX8_fitsThen_18 : decode cX8_fitsThen 18 = .ok (.iload_n 1, 1) := by decide +kernel
theorem dX8_fitsThen_19 : decode cX8_fitsThen 19 = .ok (.iload_n 3, 1) := by decide +kernel
theorem dX8_fitsThen_20 : decode cX8_fitsThen 20 = .ok (.invokevirtual 138, 3) := by decide +kernel
theorem dX8_fitsThen_23 : decode cX8_fitsThen 23 = .ok (.ifCond .eq 30, 3) := by decide +kernel
theorem dX8_fitsThen_26 : decode cX8_fitsThen 26 = .ok (.aload_n 0, 1) := by decide +kernel
theorem dX8_fitsThen_27 : decode cX8_fitsThen 27 = .ok (.aload_n 0, 1) := by decide +kernel
theorem dX8_fitsThen_28 : decode cX8_fitsThen 28 = .ok (.getfield 34, 3) := by decide +kernel
theorem dX8_fitsThen_31 : decode cX8_fitsThen 31 = .ok (.iload_n 3, 1) := by decide +kernel
theorem dX8_fitsThen_32 : decode cX8_fitsThen 32 = .ok (.invokevirtual 148, 3) := by decide +kernel
theorem dX8_fitsThen_35 : decode cX8_fitsThen 35 = .ok (.aload_n 0, 1) := by decide +kernel
theorem dX8_fitsThen_36 : decode cX8_fitsThen 36 = .ok (.getfield 34, 3) := by decide +kernel
theorem dX8_fitsThen_39 : decode cX8_fitsThen 39 = .ok (.bipush 10, 2) := by decide +kernel
theorem dX8_fitsThen_41 : decode cX8_fitsThen 41 = .ok (.iload_n 1, 1) := by decide +kernel
theorem dX8_fitsThen_42 : decode cX8_fitsThen 42 = .ok (.iadd, 1) := by decide +kernel
theorem dX8_fitsThen_43 : decode cX8_fitsThen 43 = .ok (.iaload, 1) := by decide +kernel
theorem dX8_fitsThen_44 : decode cX8_fitsThen 44 = .ok (.if_icmp .lt 9, 3) := by decide +kernel
theorem dX8_fitsThen_47 : decode cX8_fitsThen 47 = .ok (.iconst 1, 1) := by decide +kernel
theorem dX8_fitsThen_48 : decode cX8_fitsThen 48 = .ok (.iload_n 3, 1) := by decide +kernel
theorem dX8_fitsThen_49 : decode cX8_fitsThen 49 = .ok (.ishl, 1) := by decide +kernel
theorem dX8_fitsThen_50 : decode cX8_fitsThen 50 = .ok (.goto 4, 3) := by decide +kernel
theorem dX8_fitsThen_53 : decode cX8_fitsThen 53 = .ok (.iconst 0, 1) := by decide +kernel
theorem dX8_fitsThen_54 : decode cX8_fitsThen 54 = .ok (.ior, 1) := by decide +kernel
theorem dX8_fitsThen_55 : decode cX8_fitsThen 55 = .ok (.istore_n 2, 1) := by decide +kernel
theorem dX8_fitsThen_56 : decode cX8_fitsThen 56 = .ok (.iinc 3 1, 3) := by decide +kernel
theorem dX8_fitsThen_59 : decode cX8_fitsThen 59 = .ok (.goto (-55), 3) := by decide +kernel
theorem dX8_fitsThen_62 : decode cX8_fitsThen 62 = .ok (.iload_n 2, 1) := by decide +kernel
theorem dX8_fitsThen_63 : decode cX8_fitsThen 63 = .ok (.ireturn, 1) := by decide +kernel
theorem dX8_fits_0 : decode cX8_fits 0 = .ok (.aload_n 0, 1) := by decide +kernel
theorem dX8_fits_1 : decode cX8_fits 1 = .ok (.iconst 0, 1) := by decide +kernel
theorem dX8_fits_2 : decode cX8_fits 2 = .ok (.putfield 62, 3) := by decide +kernel
theorem dX8_fits_5 : decode cX8_fits 5 = .ok (.aload_n 0, 1) := by decide +kernel
theorem dX8_fits_6 : decode cX8_fits 6 = .ok (.iload_n 1, 1) := by decide +kernel
theorem dX8_fits_7 : decode cX8_fits 7 = .ok (.invokevirtual 178, 3) := by decide +kernel
theorem dX8_fits_10 : decode cX8_fits 10 = .ok (.ifCond .eq 5, 3) := by decide +kernel
theorem dX8_fits_13 : decode cX8_fits 13 = .ok (.iconst (-1), 1) := by decide +kernel
theorem dX8_fits_14 : decode cX8_fits 14 = .ok (.ireturn, 1) := by decide +kernel
theorem dX8_fits_15 : decode cX8_fits 15 = .ok (.iload_n 2, 1) := by decide +kernel
theorem dX8_fits_16 : decode cX8_fits 16 = .ok (.i2l, 1) := by decide +kernel
theorem dX8_fits_17 : decode cX8_fits 17 = .ok (.lconst 0, 1) := by decide +kernel
theorem dX8_fits_18 : decode cX8_fits 18 = .ok (.ldc2_w 194, 3) := by decide +kernel
theorem dX8_fits_21 : decode cX8_fits 21 = .ok (.invokestatic 69, 3) := by decide +kernel
theorem dX8_fits_24 : decode cX8_fits 24 = .ok (.ifCond .ne 6, 3) := by decide +kernel
theorem dX8_fits_27 : decode cX8_fits 27 = .ok (.bipush (-2), 2) := by decide +kernel
theorem dX8_fits_29 : decode cX8_fits 29 = .ok (.ireturn, 1) := by decide +kernel
theorem dX8_fits_30 : decode cX8_fits 30 = .ok (.aload_n 0, 1) := by decide +kernel
theorem dX8_fits_31 : decode cX8_fits 31 = .ok (.iload_n 2, 1) := by decide +kernel
theorem dX8_fits_32 : decode cX8_fits 32 = .ok (.invokevirtual 196, 3) := by decide +kernel
theorem dX8_fits_35 : decode cX8_fits 35 = .ok (.aload_n 0, 1) := by decide +kernel
theorem dX8_fits_36 : decode cX8_fits 36 = .ok (.iload_n 1, 1) := by decide +kernel
theorem dX8_fits_37 : decode cX8_fits 37 = .ok (.invokevirtual 200, 3) := by decide +kernel
theorem dX8_fits_40 : decode cX8_fits 40 = .ok (.ireturn, 1) := by decide +kernel
theorem dX8_soonest_0 : decode cX8_soonest 0 = .ok (.aload_n 0, 1) := by decide +kernel
theorem dX8_soonest_1 : decode cX8_soonest 1 = .ok (.iconst 0, 1) := by decide +kernel
theorem dX8_soonest_2 : decode cX8_soonest 2 = .ok (.putfield 62, 3) := by decide +kernel
theorem dX8_soonest_5 : decode cX8_soonest 5 = .ok (.aload_n 0, 1) := by decide +kernel
theorem dX8_soonest_6 : decode cX8_soonest 6 = .ok (.iload_n 1, 1) := by decide +kernel
theorem dX8_soonest_7 : decode cX8_soonest 7 = .ok (.invokevirtual 178, 3) := by decide +kernel
theorem dX8_soonest_10 : decode cX8_soonest 10 = .ok (.ifCond .eq 5, 3) := by decide +kernel
theorem dX8_soonest_13 : decode cX8_soonest 13 = .ok (.iconst (-1), 1) := by decide +kernel
theorem dX8_soonest_14 : decode cX8_soonest 14 = .ok (.ireturn, 1) := by decide +kernel
theorem dX8_soonest_15 : decode cX8_soonest 15 = .ok (.aload_n 0, 1) := by decide +kernel
theorem dX8_soonest_16 : decode cX8_soonest 16 = .ok (.getfield 31, 3) := by decide +kernel
theorem dX8_soonest_19 : decode cX8_soonest 19 = .ok (.iload_n 1, 1) := by decide +kernel
theorem dX8_soonest_20 : decode cX8_soonest 20 = .ok (.iaload, 1) := by decide +kernel
theorem dX8_soonest_21 : decode cX8_soonest 21 = .ok (.bipush 9, 2) := by decide +kernel
theorem dX8_soonest_23 : decode cX8_soonest 23 = .ok (.if_icmp .ne 6, 3) := by decide +kernel
theorem dX8_soonest_26 : decode cX8_soonest 26 = .ok (.bipush (-3), 2) := by decide +kernel
theorem dX8_soonest_28 : decode cX8_soonest 28 = .ok (.ireturn, 1) := by decide +kernel
theorem dX8_soonest_29 : decode cX8_soonest 29 = .ok (.aload_n 0, 1) := by decide +kernel
theorem dX8_soonest_30 : decode cX8_soonest 30 = .ok (.iconst 0, 1) := by decide +kernel
theorem dX8_soonest_31 : decode cX8_soonest 31 = .ok (.invokevirtual 196, 3) := by decide +kernel
theorem dX8_soonest_34 : decode cX8_soonest 34 = .ok (.iconst 0, 1) := by decide +kernel
theorem dX8_soonest_35 : decode cX8_soonest 35 = .ok (.istore_n 2, 1) := by decide +kernel
theorem dX8_soonest_36 : decode cX8_soonest 36 = .ok (.iload_n 2, 1) := by decide +kernel
theorem dX8_soonest_37 : decode cX8_soonest 37 = .ok (.bipush 20, 2) := by decide +kernel
theorem dX8_soonest_39 : decode cX8_soonest 39 = .ok (.if_icmp .gt 28, 3) := by decide +kernel
theorem dX8_soonest_42 : decode cX8_soonest 42 = .ok (.aload_n 0, 1) := by decide +kernel
theorem dX8_soonest_43 : decode cX8_soonest 43 = .ok (.iload_n 1, 1) := by decide +kernel
theorem dX8_soonest_44 : decode cX8_soonest 44 = .ok (.invokevirtual 200, 3) := by decide +kernel
theorem dX8_soonest_47 : decode cX8_soonest 47 = .ok (.ifCond .eq 5, 3) := by decide +kernel
theorem dX8_soonest_50 : decode cX8_soonest 50 = .ok (.iload_n 2, 1) := by decide +kernel
theorem dX8_soonest_51 : decode cX8_soonest 51 = .ok (.ireturn, 1) := by decide +kernel
theorem dX8_soonest_52 : decode cX8_soonest 52 = .ok (.aload_n 0, 1) := by decide +kernel
theorem dX8_soonest_53 : decode cX8_soonest 53 = .ok (.aload_n 0, 1) := by decide +kernel
theorem dX8_soonest_54 : decode cX8_soonest 54 = .ok (.getfield 34, 3) := by decide +kernel
theorem dX8_soonest_57 : decode cX8_soonest 57 = .ok (.invokevirtual 184, 3) := by decide +kernel
theorem dX8_soonest_60 : decode cX8_soonest 60 = .ok (.pop, 1) := by decide +kernel
theorem dX8_soonest_61 : decode cX8_soonest 61 = .ok (.iinc 2 1, 3) := by decide +kernel
theorem dX8_soonest_64 : decode cX8_soonest 64 = .ok (.goto (-28), 3) := by decide +kernel
theorem dX8_soonest_67 : decode cX8_soonest 67 = .ok (.bipush (-9), 2) := by decide +kernel
theorem dX8_soonest_69 : decode cX8_soonest 69 = .ok (.ireturn, 1) := by decide +kernel
theorem dX8_berthsBy_0 : decode cX8_berthsBy 0 = .ok (.iload_n 2, 1) := by decide +kernel
theorem dX8_berthsBy_1 : decode cX8_berthsBy 1 = .ok (.istore_n 3, 1) := by decide +kernel
theorem dX8_berthsBy_2 : decode cX8_berthsBy 2 = .ok (.aload_n 0, 1) := by decide +kernel
theorem dX8_berthsBy_3 : decode cX8_berthsBy 3 = .ok (.iconst 0, 1) := by decide +kernel
theorem dX8_berthsBy_4 : decode cX8_berthsBy 4 = .ok (.putfield 203, 3) := by decide +kernel
theorem dX8_berthsBy_7 : decode cX8_berthsBy 7 = .ok (.iconst 0, 1) := by decide +kernel
theorem dX8_berthsBy_8 : decode cX8_berthsBy 8 = .ok (.istore 4, 2) := by decide +kernel
theorem dX8_berthsBy_10 : decode cX8_berthsBy 10 = .ok (.iload 4, 2) := by decide +kernel
theorem dX8_berthsBy_12 : decode cX8_berthsBy 12 = .ok (.aload_n 0, 1) := by decide +kernel
theorem dX8_berthsBy_13 : decode cX8_berthsBy 13 = .ok (.getfield 73, 3) := by decide +kernel
theorem dX8_berthsBy_16 : decode cX8_berthsBy 16 = .ok (.if_icmp .ge 93, 3) := by decide +kernel
theorem dX8_berthsBy_19 : decode cX8_berthsBy 19 = .ok (.aload_n 0, 1) := by decide +kernel
theorem dX8_berthsBy_20 : decode cX8_berthsBy 20 = .ok (.getfield 31, 3) := by decide +kernel
theorem dX8_berthsBy_23 : decode cX8_berthsBy 23 = .ok (.iload 4, 2) := by decide +kernel
theorem dX8_berthsBy_25 : decode cX8_berthsBy 25 = .ok (.iaload, 1) := by decide +kernel
theorem dX8_berthsBy_26 : decode cX8_berthsBy 26 = .ok (.bipush 8, 2) := by decide +kernel
theorem dX8_berthsBy_28 : decode cX8_berthsBy 28 = .ok (.if_icmp .ne 75, 3) := by decide +kernel
theorem dX8_berthsBy_31 : decode cX8_berthsBy 31 = .ok (.iinc 3 (-1), 3) := by decide +kernel
theorem dX8_berthsBy_34 : decode cX8_berthsBy 34 = .ok (.iload_n 1, 1) := by decide +kernel
theorem dX8_berthsBy_35 : decode cX8_berthsBy 35 = .ok (.iconst 5, 1) := by decide +kernel
theorem dX8_berthsBy_36 : decode cX8_berthsBy 36 = .ok (.iload_n 3, 1) := by decide +kernel
theorem dX8_berthsBy_37 : decode cX8_berthsBy 37 = .ok (.invokestatic 206, 3) := by decide +kernel
theorem dX8_berthsBy_40 : decode cX8_berthsBy 40 = .ok (.idiv, 1) := by decide +kernel
theorem dX8_berthsBy_41 : decode cX8_berthsBy 41 = .ok (.iconst 5, 1) := by decide +kernel
theorem dX8_berthsBy_42 : decode cX8_berthsBy 42 = .ok (.irem, 1) := by decide +kernel
theorem dX8_berthsBy_43 : decode cX8_berthsBy 43 = .ok (.iconst 1, 1) := by decide +kernel
theorem dX8_berthsBy_44 : decode cX8_berthsBy 44 = .ok (.isub, 1) := by decide +kernel
theorem dX8_berthsBy_45 : decode cX8_berthsBy 45 = .ok (.istore 5, 2) := by decide +kernel
theorem dX8_berthsBy_47 : decode cX8_berthsBy 47 = .ok (.aload_n 0, 1) := by decide +kernel
theorem dX8_berthsBy_48 : decode cX8_berthsBy 48 = .ok (.bipush 10, 2) := by decide +kernel
theorem dX8_berthsBy_50 : decode cX8_berthsBy 50 = .ok (.aload_n 0, 1) := by decide +kernel
theorem dX8_berthsBy_51 : decode cX8_berthsBy 51 = .ok (.getfield 203, 3) := by decide +kernel
theorem dX8_berthsBy_54 : decode cX8_berthsBy 54 = .ok (.imul, 1) := by decide +kernel
theorem dX8_berthsBy_55 : decode cX8_berthsBy 55 = .ok (.iload 5, 2) := by decide +kernel
theorem dX8_berthsBy_57 : decode cX8_berthsBy 57 = .ok (.iadd, 1) := by decide +kernel
theorem dX8_berthsBy_58 : decode cX8_berthsBy 58 = .ok (.iconst 1, 1) := by decide +kernel
theorem dX8_berthsBy_59 : decode cX8_berthsBy 59 = .ok (.iadd, 1) := by decide +kernel
theorem dX8_berthsBy_60 : decode cX8_berthsBy 60 = .ok (.putfield 203, 3) := by decide +kernel
theorem dX8_berthsBy_63 : decode cX8_berthsBy 63 = .ok (.iload 5, 2) := by decide +kernel
theorem dX8_berthsBy_65 : decode cX8_berthsBy 65 = .ok (.ifCond .lt 38, 3) := by decide +kernel
theorem dX8_berthsBy_68 : decode cX8_berthsBy 68 = .ok (.aload_n 0, 1) := by decide +kernel
theorem dX8_berthsBy_69 : decode cX8_berthsBy 69 = .ok (.iload 5, 2) := by decide +kernel
theorem dX8_berthsBy_71 : decode cX8_berthsBy 71 = .ok (.invokevirtual 174, 3) := by decide +kernel
theorem dX8_berthsBy_74 : decode cX8_berthsBy 74 = .ok (.ifCond .ne 18, 3) := by decide +kernel
theorem dX8_berthsBy_77 : decode cX8_berthsBy 77 = .ok (.aload_n 0, 1) := by decide +kernel
theorem dX8_berthsBy_78 : decode cX8_berthsBy 78 = .ok (.aload_n 0, 1) := by decide +kernel
theorem dX8_berthsBy_79 : decode cX8_berthsBy 79 = .ok (.getfield 34, 3) := by decide +kernel
theorem dX8_berthsBy_82 : decode cX8_berthsBy 82 = .ok (.iload 4, 2) := by decide +kernel
theorem dX8_berthsBy_84 : decode cX8_berthsBy 84 = .ok (.iload 5, 2) := by decide +kernel
theorem dX8_berthsBy_86 : decode cX8_berthsBy 86 = .ok (.invokevirtual 145, 3) := by decide +kernel
theorem dX8_berthsBy_89 : decode cX8_berthsBy 89 = .ok (.ifCond .ne 5, 3) := by decide +kernel
theorem dX8_berthsBy_92 : decode cX8_berthsBy 92 = .ok (.iconst 0, 1) := by decide +kernel
theorem dX8_berthsBy_93 : decode cX8_berthsBy 93 = .ok (.ireturn, 1) := by decide +kernel
theorem dX8_berthsBy_94 : decode cX8_berthsBy 94 = .ok (.aload_n 0, 1) := by decide +kernel
theorem dX8_berthsBy_95 : decode cX8_berthsBy 95 = .ok (.getfield 34, 3) := by decide +kernel
theorem dX8_berthsBy_98 : decode cX8_berthsBy 98 = .ok (.iload 4, 2) := by decide +kernel
theorem dX8_berthsBy_100 : decode cX8_berthsBy 100 = .ok (.iload 5, 2) := by decide +kernel
theorem dX8_berthsBy_102 : decode cX8_berthsBy 102 = .ok (.iastore, 1) := by decide +kernel
theorem dX8_berthsBy_103 : decode cX8_berthsBy 103 = .ok (.iinc 4 1, 3) := by decide +kernel
theorem dX8_berthsBy_106 : decode cX8_berthsBy 106 = .ok (.goto (-96), 3) := by decide +kernel
theorem dX8_berthsBy_109 : decode cX8_berthsBy 109 = .ok (.iconst 1, 1) := by decide +kernel
theorem dX8_berthsBy_110 : decode cX8_berthsBy 110 = .ok (.ireturn, 1) := by decide +kernel
theorem dX8_findPlan_0 : decode cX8_findPlan 0 = .ok (.aload_n 0, 1) := by decide +kernel
theorem dX8_findPlan_1 : decode cX8_findPlan 1 = .ok (.aload_n 0, 1) := by decide +kernel
theorem dX8_findPlan_2 : decode cX8_findPlan 2 = .ok (.getfield 31, 3) := by decide +kernel
theorem dX8_findPlan_5 : decode cX8_findPlan 5 = .ok (.bipush 8, 2) := by decide +kernel
theorem dX8_findPlan_7 : decode cX8_findPlan 7 = .ok (.invokevirtual 131, 3) := by decide +kernel
theorem dX8_findPlan_10 : decode cX8_findPlan 10 = .ok (.invokestatic 142, 3) := by decide +kernel
theorem dX8_findPlan_13 : decode cX8_findPlan 13 = .ok (.istore_n 1, 1) := by decide +kernel
theorem dX8_findPlan_14 : decode cX8_findPlan 14 = .ok (.bipush (-9), 2) := by decide +kernel
theorem dX8_findPlan_16 : decode cX8_findPlan 16 = .ok (.istore_n 2, 1) := by decide +kernel
theorem dX8_findPlan_17 : decode cX8_findPlan 17 = .ok (.iconst 0, 1) := by decide +kernel
theorem dX8_findPlan_18 : decode cX8_findPlan 18 = .ok (.istore_n 3, 1) := by decide +kernel
theorem dX8_findPlan_19 : decode cX8_findPlan 19 = .ok (.iconst 0, 1) := by decide +kernel
theorem dX8_findPlan_20 : decode cX8_findPlan 20 = .ok (.istore 4, 2) := by decide +kernel
theorem dX8_findPlan_22 : decode cX8_findPlan 22 = .ok (.iload 4, 2) := by decide +kernel
theorem dX8_findPlan_24 : decode cX8_findPlan 24 = .ok (.iconst 5, 1) := by decide +kernel
theorem dX8_findPlan_25 : decode cX8_findPlan 25 = .ok (.iload_n 1, 1) := by decide +kernel
theorem dX8_findPlan_26 : decode cX8_findPlan 26 = .ok (.invokestatic 206, 3) := by decide +kernel
theorem dX8_findPlan_29 : decode cX8_findPlan 29 = .ok (.if_icmp .ge 64, 3) := by decide +kernel
theorem dX8_findPlan_32 : decode cX8_findPlan 32 = .ok (.aload_n 0, 1) := by decide +kernel
theorem dX8_findPlan_33 : decode cX8_findPlan 33 = .ok (.invokevirtual 191, 3) := by decide +kernel
theorem dX8_findPlan_36 : decode cX8_findPlan 36 = .ok (.aload_n 0, 1) := by decide +kernel
theorem dX8_findPlan_37 : decode cX8_findPlan 37 = .ok (.iload 4, 2) := by decide +kernel
theorem dX8_findPlan_39 : decode cX8_findPlan 39 = .ok (.iload_n 1, 1) := by decide +kernel
theorem dX8_findPlan_40 : decode cX8_findPlan 40 = .ok (.invokevirtual 209, 3) := by decide +kernel
theorem dX8_findPlan_43 : decode cX8_findPlan 43 = .ok (.ifCond .eq 44, 3) := by decide +kernel
theorem dX8_findPlan_46 : decode cX8_findPlan 46 = .ok (.aload_n 0, 1) := by decide +kernel
theorem dX8_findPlan_47 : decode cX8_findPlan 47 = .ok (.aload_n 0, 1) := by decide +kernel
theorem dX8_findPlan_48 : decode cX8_findPlan 48 = .ok (.getfield 34, 3) := by decide +kernel
theorem dX8_findPlan_51 : decode cX8_findPlan 51 = .ok (.invokevirtual 154, 3) := by decide +kernel
theorem dX8_findPlan_54 : decode cX8_findPlan 54 = .ok (.invokestatic 142, 3) := by decide +kernel
theorem dX8_findPlan_57 : decode cX8_findPlan 57 = .ok (.istore 5, 2) := by decide +kernel
theorem dX8_findPlan_59 : decode cX8_findPlan 59 = .ok (.iload 5, 2) := by decide +kernel
theorem dX8_findPlan_61 : decode cX8_findPlan 61 = .ok (.iload_n 2, 1) := by decide +kernel
theorem dX8_findPlan_62 : decode cX8_findPlan 62 = .ok (.if_icmp .le 10, 3) := by decide +kernel
theorem dX8_findPlan_65 : decode cX8_findPlan 65 = .ok (.aload_n 0, 1) := by decide +kernel
theorem dX8_findPlan_66 : decode cX8_findPlan 66 = .ok (.getfield 203, 3) := by decide +kernel
theorem dX8_findPlan_69 : decode cX8_findPlan 69 = .ok (.goto 4, 3) := by decide +kernel
theorem dX8_findPlan_72 : decode cX8_findPlan 72 = .ok (.iload_n 3, 1) := by decide +kernel
theorem dX8_findPlan_73 : decode cX8_findPlan 73 = .ok (.istore_n 3, 1) := by decide +kernel
theorem dX8_findPlan_74 : decode cX8_findPlan 74 = .ok (.iload 5, 2) := by decide +kernel
theorem dX8_findPlan_76 : decode cX8_findPlan 76 = .ok (.iload_n 2, 1) := by decide +kernel
theorem dX8_findPlan_77 : decode cX8_findPlan 77 = .ok (.if_icmp .le 8, 3) := by decide +kernel
theorem dX8_findPlan_80 : decode cX8_findPlan 80 = .ok (.iload 5, 2) := by decide +kernel
theorem dX8_findPlan_82 : decode cX8_findPlan 82 = .ok (.goto 4, 3) := by decide +kernel
theorem dX8_findPlan_85 : decode cX8_findPlan 85 = .ok (.iload_n 2, 1) := by decide +kernel
theorem dX8_findPlan_86 : decode cX8_findPlan 86 = .ok (.istore_n 2, 1) := by decide +kernel
theorem dX8_findPlan_87 : decode cX8_findPlan 87 = .ok (.iinc 4 1, 3) := by decide +kernel
theorem dX8_findPlan_90 : decode cX8_findPlan 90 = .ok (.goto (-68), 3) := by decide +kernel
theorem dX8_findPlan_93 : decode cX8_findPlan 93 = .ok (.aload_n 0, 1) := by decide +kernel
theorem dX8_findPlan_94 : decode cX8_findPlan 94 = .ok (.iload_n 3, 1) := by decide +kernel
theorem dX8_findPlan_95 : decode cX8_findPlan 95 = .ok (.putfield 203, 3) := by decide +kernel
theorem dX8_findPlan_98 : decode cX8_findPlan 98 = .ok (.iload_n 2, 1) := by decide +kernel
theorem dX8_findPlan_99 : decode cX8_findPlan 99 = .ok (.ireturn, 1) := by decide +kernel
theorem dX8_plan_0 : decode cX8_plan 0 = .ok (.aload_n 0, 1) := by decide +kernel
theorem dX8_plan_1 : decode cX8_plan 1 = .ok (.iconst 0, 1) := by decide +kernel
theorem dX8_plan_2 : decode cX8_plan 2 = .ok (.putfield 62, 3) := by decide +kernel
theorem dX8_plan_5 : decode cX8_plan 5 = .ok (.aload_n 0, 1) := by decide +kernel
theorem dX8_plan_6 : decode cX8_plan 6 = .ok (.invokevirtual 171, 3) := by decide +kernel
theorem dX8_plan_9 : decode cX8_plan 9 = .ok (.aload_n 0, 1) := by decide +kernel
theorem dX8_plan_10 : decode cX8_plan 10 = .ok (.aload_n 0, 1) := by decide +kernel
theorem dX8_plan_11 : decode cX8_plan 11 = .ok (.invokevirtual 212, 3) := by decide +kernel
theorem dX8_plan_14 : decode cX8_plan 14 = .ok (.putfield 215, 3) := by decide +kernel
theorem dX8_plan_17 : decode cX8_plan 17 = .ok (.iload_n 1, 1) := by decide +kernel
theorem dX8_plan_18 : decode cX8_plan 18 = .ok (.ifCond .eq 10, 3) := by decide +kernel
theorem dX8_plan_21 : decode cX8_plan 21 = .ok (.aload_n 0, 1) := by decide +kernel
theorem dX8_plan_22 : decode cX8_plan 22 = .ok (.getfield 203, 3) := by decide +kernel
theorem dX8_plan_25 : decode cX8_plan 25 = .ok (.goto 7, 3) := by decide +kernel
theorem dX8_plan_28 : decode cX8_plan 28 = .ok (.aload_n 0, 1) := by decide +kernel
theorem dX8_plan_29 : decode cX8_plan 29 = .ok (.getfield 215, 3) := by decide +kernel
theorem dX8_plan_32 : decode cX8_plan 32 = .ok (.ireturn, 1) := by decide +kernel
theorem dX8_longPower_0 : decode cX8_longPower 0 = .ok (.lconst 1, 1) := by decide +kernel
theorem dX8_longPower_1 : decode cX8_longPower 1 = .ok (.lstore_n 3, 1) := by decide +kernel
theorem dX8_longPower_2 : decode cX8_longPower 2 = .ok (.iconst 0, 1) := by decide +kernel
theorem dX8_longPower_3 : decode cX8_longPower 3 = .ok (.istore 5, 2) := by decide +kernel
theorem dX8_longPower_5 : decode cX8_longPower 5 = .ok (.iload 5, 2) := by decide +kernel
theorem dX8_longPower_7 : decode cX8_longPower 7 = .ok (.iload_n 2, 1) := by decide +kernel
theorem dX8_longPower_8 : decode cX8_longPower 8 = .ok (.if_icmp .ge 13, 3) := by decide +kernel
theorem dX8_longPower_11 : decode cX8_longPower 11 = .ok (.lload_n 3, 1) := by decide +kernel
theorem dX8_longPower_12 : decode cX8_longPower 12 = .ok (.lload_n 0, 1) := by decide +kernel
theorem dX8_longPower_13 : decode cX8_longPower 13 = .ok (.lmul, 1) := by decide +kernel
theorem dX8_longPower_14 : decode cX8_longPower 14 = .ok (.lstore_n 3, 1) := by decide +kernel
theorem dX8_longPower_15 : decode cX8_longPower 15 = .ok (.iinc 5 1, 3) := by decide +kernel
theorem dX8_longPower_18 : decode cX8_longPower 18 = .ok (.goto (-13), 3) := by decide +kernel
theorem dX8_longPower_21 : decode cX8_longPower 21 = .ok (.lload_n 3, 1) := by decide +kernel
theorem dX8_longPower_22 : decode cX8_longPower 22 = .ok (.lreturn, 1) := by decide +kernel
theorem dX8_does_0 : decode cX8_does 0 = .ok (.iload_n 1, 1) := by decide +kernel
theorem dX8_does_1 : decode cX8_does 1 = .ok (.bipush 100, 2) := by decide +kernel
theorem dX8_does_3 : decode cX8_does 3 = .ok (.idiv, 1) := by decide +kernel
theorem dX8_does_4 : decode cX8_does 4 = .ok (.istore_n 2, 1) := by decide +kernel
theorem dX8_does_5 : decode cX8_does 5 = .ok (.iload_n 1, 1) := by decide +kernel
theorem dX8_does_6 : decode cX8_does 6 = .ok (.bipush 10, 2) := by decide +kernel
theorem dX8_does_8 : decode cX8_does 8 = .ok (.idiv, 1) := by decide +kernel
theorem dX8_does_9 : decode cX8_does 9 = .ok (.bipush 10, 2) := by decide +kernel
theorem dX8_does_11 : decode cX8_does 11 = .ok (.irem, 1) := by decide +kernel
theorem dX8_does_12 : decode cX8_does 12 = .ok (.istore_n 3, 1) := by decide +kernel
theorem dX8_does_13 : decode cX8_does 13 = .ok (.iload_n 1, 1) := by decide +kernel
theorem dX8_does_14 : decode cX8_does 14 = .ok (.bipush 10, 2) := by decide +kernel
theorem dX8_does_16 : decode cX8_does 16 = .ok (.irem, 1) := by decide +kernel
theorem dX8_does_17 : decode cX8_does 17 = .ok (.istore 4, 2) := by decide +kernel
theorem dX8_does_19 : decode cX8_does 19 = .ok (.iload_n 1, 1) := by decide +kernel
theorem dX8_does_20 : decode cX8_does 20 = .ok (.ifCond .ne 14, 3) := by decide +kernel
theorem dX8_does_23 : decode cX8_does 23 = .ok (.aload_n 0, 1) := by decide +kernel
theorem dX8_does_24 : decode cX8_does 24 = .ok (.aload_n 0, 1) := by decide +kernel
theorem dX8_does_25 : decode cX8_does 25 = .ok (.getfield 34, 3) := by decide +kernel
theorem dX8_does_28 : decode cX8_does 28 = .ok (.invokevirtual 184, 3) := by decide +kernel
theorem dX8_does_31 : decode cX8_does 31 = .ok (.pop, 1) := by decide +kernel
theorem dX8_does_32 : decode cX8_does 32 = .ok (.iconst 1, 1) := by decide +kernel
theorem dX8_does_33 : decode cX8_does 33 = .ok (.ireturn, 1) := by decide +kernel
theorem dX8_does_34 : decode cX8_does 34 = .ok (.iload_n 2, 1) := by decide +kernel
theorem dX8_does_35 : decode cX8_does 35 = .ok (.iconst 1, 1) := by decide +kernel
theorem dX8_does_36 : decode cX8_does 36 = .ok (.if_icmp .ne 68, 3) := by decide +kernel
theorem dX8_does_39 : decode cX8_does 39 = .ok (.aload_n 0, 1) := by decide +kernel
theorem dX8_does_40 : decode cX8_does 40 = .ok (.iload_n 3, 1) := by decide +kernel
theorem dX8_does_41 : decode cX8_does 41 = .ok (.invokevirtual 178, 3) := by decide +kernel
theorem dX8_does_44 : decode cX8_does 44 = .ok (.ifCond .ne 41, 3) := by decide +kernel
theorem dX8_does_47 : decode cX8_does 47 = .ok (.aload_n 0, 1) := by decide +kernel
theorem dX8_does_48 : decode cX8_does 48 = .ok (.iload 4, 2) := by decide +kernel
theorem dX8_does_50 : decode cX8_does 50 = .ok (.invokevirtual 174, 3) := by decide +kernel
theorem dX8_does_53 : decode cX8_does 53 = .ok (.ifCond .ne 32, 3) := by decide +kernel
theorem dX8_does_56 : decode cX8_does 56 = .ok (.aload_n 0, 1) := by decide +kernel
theorem dX8_does_57 : decode cX8_does 57 = .ok (.getfield 34, 3) := by decide +kernel
theorem dX8_does_60 : decode cX8_does 60 = .ok (.iload_n 3, 1) := by decide +kernel
theorem dX8_does_61 : decode cX8_does 61 = .ok (.iaload, 1) := by decide +kernel
theorem dX8_does_62 : decode cX8_does 62 = .ok (.bipush 8, 2) := by decide +kernel
theorem dX8_does_64 : decode cX8_does 64 = .ok (.if_icmp .ne 21, 3) := by decide +kernel
theorem dX8_does_67 : decode cX8_does 67 = .ok (.aload_n 0, 1) := by decide +kernel
theorem dX8_does_68 : decode cX8_does 68 = .ok (.aload_n 0, 1) := by decide +kernel
theorem dX8_does_69 : decode cX8_does 69 = .ok (.getfield 34, 3) := by decide +kernel
theorem dX8_does_72 : decode cX8_does 72 = .ok (.iload_n 3, 1) := by decide +kernel
theorem dX8_does_73 : decode cX8_does 73 = .ok (.iload 4, 2) := by decide +kernel
theorem dX8_does_75 : decode cX8_does 75 = .ok (.invokevirtual 145, 3) := by decide +kernel
theorem dX8_does_78 : decode cX8_does 78 = .ok (.ifCond .eq 7, 3) := by decide +kernel
theorem dX8_does_81 : decode cX8_does 81 = .ok (.iconst 1, 1) := by decide +kernel
theorem dX8_does_82 : decode cX8_does 82 = .ok (.goto 4, 3) := by decide +kernel
theorem dX8_does_85 : decode cX8_does 85 = .ok (.iconst 0, 1) := by decide +kernel
theorem dX8_does_86 : decode cX8_does 86 = .ok (.istore 5, 2) := by decide +kernel
theorem dX8_does_88 : decode cX8_does 88 = .ok (.iload 5, 2) := by decide +kernel
theorem dX8_does_90 : decode cX8_does 90 = .ok (.ifCond .eq 11, 3) := by decide +kernel
theorem dX8_does_93 : decode cX8_does 93 = .ok (.aload_n 0, 1) := by decide +kernel
theorem dX8_does_94 : decode cX8_does 94 = .ok (.getfield 34, 3) := by decide +kernel
theorem dX8_does_97 : decode cX8_does 97 = .ok (.iload_n 3, 1) := by decide +kernel
theorem dX8_does_98 : decode cX8_does 98 = .ok (.iload 4, 2) := by decide +kernel
theorem dX8_does_100 : decode cX8_does 100 = .ok (.iastore, 1) := by decide +kernel
theorem dX8_does_101 : decode cX8_does 101 = .ok (.iload 5, 2) := by decide +kernel
theorem dX8_does_103 : decode cX8_does 103 = .ok (.ireturn, 1) := by decide +kernel
theorem dX8_does_104 : decode cX8_does 104 = .ok (.iload_n 2, 1) := by decide +kernel
theorem dX8_does_105 : decode cX8_does 105 = .ok (.iconst 2, 1) := by decide +kernel
theorem dX8_does_106 : decode cX8_does 106 = .ok (.if_icmp .ne 51, 3) := by decide +kernel
theorem dX8_does_109 : decode cX8_does 109 = .ok (.iload_n 3, 1) := by decide +kernel
theorem dX8_does_110 : decode cX8_does 110 = .ok (.ifCond .ne 27, 3) := by decide +kernel
theorem dX8_does_113 : decode cX8_does 113 = .ok (.aload_n 0, 1) := by decide +kernel
theorem dX8_does_114 : decode cX8_does 114 = .ok (.iload 4, 2) := by decide +kernel
theorem dX8_does_116 : decode cX8_does 116 = .ok (.invokevirtual 178, 3) := by decide +kernel
theorem dX8_does_119 : decode cX8_does 119 = .ok (.ifCond .ne 18, 3) := by decide +kernel
theorem dX8_does_122 : decode cX8_does 122 = .ok (.aload_n 0, 1) := by decide +kernel
theorem dX8_does_123 : decode cX8_does 123 = .ok (.getfield 34, 3) := by decide +kernel
theorem dX8_does_126 : decode cX8_does 126 = .ok (.iload 4, 2) := by decide +kernel
theorem dX8_does_128 : decode cX8_does 128 = .ok (.iaload, 1) := by decide +kernel
theorem dX8_does_129 : decode cX8_does 129 = .ok (.iconst 4, 1) := by decide +kernel
theorem dX8_does_130 : decode cX8_does 130 = .ok (.if_icmp .ge 7, 3) := by decide +kernel
theorem dX8_does_133 : decode cX8_does 133 = .ok (.iconst 1, 1) := by decide +kernel
theorem dX8_does_134 : decode cX8_does 134 = .ok (.goto 4, 3) := by decide +kernel
theorem dX8_does_137 : decode cX8_does 137 = .ok (.iconst 0, 1) := by decide +kernel
theorem dX8_does_138 : decode cX8_does 138 = .ok (.istore 5, 2) := by decide +kernel
theorem dX8_does_140 : decode cX8_does 140 = .ok (.iload 5, 2) := by decide +kernel
theorem dX8_does_142 : decode cX8_does 142 = .ok (.ifCond .eq 12, 3) := by decide +kernel
theorem dX8_does_145 : decode cX8_does 145 = .ok (.aload_n 0, 1) := by decide +kernel
theorem dX8_does_146 : decode cX8_does 146 = .ok (.getfield 34, 3) := by decide +kernel
theorem dX8_does_149 : decode cX8_does 149 = .ok (.iload 4, 2) := by decide +kernel
theorem dX8_does_151 : decode cX8_does 151 = .ok (.invokestatic 187, 3) := by decide +kernel
theorem dX8_does_154 : decode cX8_does 154 = .ok (.iload 5, 2) := by decide +kernel
theorem dX8_does_156 : decode cX8_does 156 = .ok (.ireturn, 1) := by decide +kernel
theorem dX8_does_157 : decode cX8_does 157 = .ok (.iload_n 2, 1) := by decide +kernel
theorem dX8_does_158 : decode cX8_does 158 = .ok (.iconst 3, 1) := by decide +kernel
theorem dX8_does_159 : decode cX8_does 159 = .ok (.if_icmp .ne 34, 3) := by decide +kernel
theorem dX8_does_162 : decode cX8_does 162 = .ok (.iload_n 3, 1) := by decide +kernel
theorem dX8_does_163 : decode cX8_does 163 = .ok (.ifCond .ne 28, 3) := by decide +kernel
theorem dX8_does_166 : decode cX8_does 166 = .ok (.aload_n 0, 1) := by decide +kernel
theorem dX8_does_167 : decode cX8_does 167 = .ok (.iload 4, 2) := by decide +kernel
theorem dX8_does_169 : decode cX8_does 169 = .ok (.invokevirtual 178, 3) := by decide +kernel
theorem dX8_does_172 : decode cX8_does 172 = .ok (.ifCond .ne 19, 3) := by decide +kernel
theorem dX8_does_175 : decode cX8_does 175 = .ok (.aload_n 0, 1) := by decide +kernel
theorem dX8_does_176 : decode cX8_does 176 = .ok (.getfield 34, 3) := by decide +kernel
theorem dX8_does_179 : decode cX8_does 179 = .ok (.iload 4, 2) := by decide +kernel
theorem dX8_does_181 : decode cX8_does 181 = .ok (.iaload, 1) := by decide +kernel
theorem dX8_does_182 : decode cX8_does 182 = .ok (.bipush 9, 2) := by decide +kernel
theorem dX8_does_184 : decode cX8_does 184 = .ok (.if_icmp .ne 7, 3) := by decide +kernel
theorem dX8_does_187 : decode cX8_does 187 = .ok (.iconst 1, 1) := by decide +kernel
theorem dX8_does_188 : decode cX8_does 188 = .ok (.goto 4, 3) := by decide +kernel
theorem dX8_does_191 : decode cX8_does 191 = .ok (.iconst 0, 1) := by decide +kernel
theorem dX8_does_192 : decode cX8_does 192 = .ok (.ireturn, 1) := by decide +kernel
theorem dX8_does_193 : decode cX8_does 193 = .ok (.iload_n 2, 1) := by decide +kernel
theorem dX8_does_194 : decode cX8_does 194 = .ok (.iconst 4, 1) := by decide +kernel
theorem dX8_does_195 : decode cX8_does 195 = .ok (.if_icmp .ne 31, 3) := by decide +kernel
theorem dX8_does_198 : decode cX8_does 198 = .ok (.aload_n 0, 1) := by decide +kernel
theorem dX8_does_199 : decode cX8_does 199 = .ok (.iload_n 3, 1) := by decide +kernel
theorem dX8_does_200 : decode cX8_does 200 = .ok (.invokevirtual 178, 3) := by decide +kernel
theorem dX8_does_203 : decode cX8_does 203 = .ok (.ifCond .ne 23, 3) := by decide +kernel
theorem dX8_does_206 : decode cX8_does 206 = .ok (.aload_n 0, 1) := by decide +kernel
theorem dX8_does_207 : decode cX8_does 207 = .ok (.iload 4, 2) := by decide +kernel
theorem dX8_does_209 : decode cX8_does 209 = .ok (.invokevirtual 174, 3) := by decide +kernel
theorem dX8_does_212 : decode cX8_does 212 = .ok (.ifCond .ne 14, 3) := by decide +kernel
theorem dX8_does_215 : decode cX8_does 215 = .ok (.aload_n 0, 1) := by decide +kernel
theorem dX8_does_216 : decode cX8_does 216 = .ok (.getfield 34, 3) := by decide +kernel
theorem dX8_does_219 : decode cX8_does 219 = .ok (.iload_n 3, 1) := by decide +kernel
theorem dX8_does_220 : decode cX8_does 220 = .ok (.iaload, 1) := by decide +kernel
theorem dX8_does_221 : decode cX8_does 221 = .ok (.iload 4, 2) := by decide +kernel
theorem dX8_does_223 : decode cX8_does 223 = .ok (.if_icmp .eq 30, 3) := by decide +kernel
theorem dX8_does_226 : decode cX8_does 226 = .ok (.iload_n 2, 1) := by decide +kernel
theorem dX8_does_227 : decode cX8_does 227 = .ok (.iconst 5, 1) := by decide +kernel
theorem dX8_does_228 : decode cX8_does 228 = .ok (.if_icmp .ne 29, 3) := by decide +kernel
theorem dX8_does_231 : decode cX8_does 231 = .ok (.aload_n 0, 1) := by decide +kernel
theorem dX8_does_232 : decode cX8_does 232 = .ok (.iload_n 3, 1) := by decide +kernel
theorem dX8_does_233 : decode cX8_does 233 = .ok (.invokevirtual 174, 3) := by decide +kernel
theorem dX8_does_236 : decode cX8_does 236 = .ok (.ifCond .ne 21, 3) := by decide +kernel
theorem dX8_does_239 : decode cX8_does 239 = .ok (.aload_n 0, 1) := by decide +kernel
theorem dX8_does_240 : decode cX8_does 240 = .ok (.getfield 34, 3) := by decide +kernel
theorem dX8_does_243 : decode cX8_does 243 = .ok (.bipush 19, 2) := by decide +kernel
theorem dX8_does_245 : decode cX8_does 245 = .ok (.iload_n 3, 1) := by decide +kernel
theorem dX8_does_246 : decode cX8_does 246 = .ok (.iadd, 1) := by decide +kernel
theorem dX8_does_247 : decode cX8_does 247 = .ok (.iaload, 1) := by decide +kernel
theorem dX8_does_248 : decode cX8_does 248 = .ok (.iload 4, 2) := by decide +kernel
theorem dX8_does_250 : decode cX8_does 250 = .ok (.if_icmp .lt 7, 3) := by decide +kernel
theorem dX8_does_253 : decode cX8_does 253 = .ok (.iconst 1, 1) := by decide +kernel
theorem dX8_does_254 : decode cX8_does 254 = .ok (.goto 4, 3) := by decide +kernel
theorem dX8_does_257 : decode cX8_does 257 = .ok (.iconst 0, 1) := by decide +kernel
theorem dX8_does_258 : decode cX8_does 258 = .ok (.ireturn, 1) := by decide +kernel
theorem dX8_judge_0 : decode cX8_judge 0 = .ok (.aload_n 0, 1) := by decide +kernel
theorem dX8_judge_1 : decode cX8_judge 1 = .ok (.iconst 0, 1) := by decide +kernel
theorem dX8_judge_2 : decode cX8_judge 2 = .ok (.putfield 62, 3) := by decide +kernel
theorem dX8_judge_5 : decode cX8_judge 5 = .ok (.iload_n 1, 1) := by decide +kernel
theorem dX8_judge_6 : decode cX8_judge 6 = .ok (.i2l, 1) := by decide +kernel
theorem dX8_judge_7 : decode cX8_judge 7 = .ok (.lconst 1, 1) := by decide +kernel
theorem dX8_judge_8 : decode cX8_judge 8 = .ok (.ldc2_w 218, 3) := by decide +kernel
theorem dX8_judge_11 : decode cX8_judge 11 = .ok (.invokestatic 69, 3) := by decide +kernel
theorem dX8_judge_14 : decode cX8_judge 14 = .ok (.ifCond .eq 20, 3) := by decide +kernel
theorem dX8_judge_17 : decode cX8_judge 17 = .ok (.lload_n 2, 1) := by decide +kernel
theorem dX8_judge_18 : decode cX8_judge 18 = .ok (.lconst 0, 1) := by decide +kernel
theorem dX8_judge_19 : decode cX8_judge 19 = .ok (.ldc2_w 220, 3) := by decide +kernel
theorem dX8_judge_22 : decode cX8_judge 22 = .ok (.iload_n 1, 1) := by decide +kernel
theorem dX8_judge_23 : decode cX8_judge 23 = .ok (.invokestatic 222, 3) := by decide +kernel
theorem dX8_judge_26 : decode cX8_judge 26 = .ok (.lconst 1, 1) := by decide +kernel
theorem dX8_judge_27 : decode cX8_judge 27 = .ok (.lsub, 1) := by decide +kernel
theorem dX8_judge_28 : decode cX8_judge 28 = .ok (.invokestatic 69, 3) := by decide +kernel
theorem dX8_judge_31 : decode cX8_judge 31 = .ok (.ifCond .ne 6, 3) := by decide +kernel
theorem dX8_judge_34 : decode cX8_judge 34 = .ok (.bipush (-2), 2) := by decide +kernel
theorem dX8_judge_36 : decode cX8_judge 36 = .ok (.ireturn, 1) := by decide +kernel
theorem dX8_judge_37 : decode cX8_judge 37 = .ok (.aload_n 0, 1) := by decide +kernel
theorem dX8_judge_38 : decode cX8_judge 38 = .ok (.iconst 0, 1) := by decide +kernel
theorem dX8_judge_39 : decode cX8_judge 39 = .ok (.invokevirtual 196, 3) := by decide +kernel
theorem dX8_judge_42 : decode cX8_judge 42 = .ok (.iconst 0, 1) := by decide +kernel
theorem dX8_judge_43 : decode cX8_judge 43 = .ok (.istore 4, 2) := by decide +kernel
theorem dX8_judge_45 : decode cX8_judge 45 = .ok (.iload 4, 2) := by decide +kernel
theorem dX8_judge_47 : decode cX8_judge 47 = .ok (.iload_n 1, 1) := by decide +kernel
theorem dX8_judge_48 : decode cX8_judge 48 = .ok (.if_icmp .ge 38, 3) := by decide +kernel
theorem dX8_judge_51 : decode cX8_judge 51 = .ok (.aload_n 0, 1) := by decide +kernel
theorem dX8_judge_52 : decode cX8_judge 52 = .ok (.lload_n 2, 1) := by decide +kernel
theorem dX8_judge_53 : decode cX8_judge 53 = .ok (.ldc2_w 220, 3) := by decide +kernel
theorem dX8_judge_56 : decode cX8_judge 56 = .ok (.iload_n 1, 1) := by decide +kernel
theorem dX8_judge_57 : decode cX8_judge 57 = .ok (.iconst 1, 1) := by decide +kernel
theorem dX8_judge_58 : decode cX8_judge 58 = .ok (.isub, 1) := by decide +kernel
theorem dX8_judge_59 : decode cX8_judge 59 = .ok (.iload 4, 2) := by decide +kernel
theorem dX8_judge_61 : decode cX8_judge 61 = .ok (.isub, 1) := by decide +kernel
theorem dX8_judge_62 : decode cX8_judge 62 = .ok (.invokestatic 222, 3) := by decide +kernel
theorem dX8_judge_65 : decode cX8_judge 65 = .ok (.ldiv, 1) := by decide +kernel
theorem dX8_judge_66 : decode cX8_judge 66 = .ok (.ldc2_w 220, 3) := by decide +kernel
theorem dX8_judge_69 : decode cX8_judge 69 = .ok (.lrem, 1) := by decide +kernel
theorem dX8_judge_70 : decode cX8_judge 70 = .ok (.l2i, 1) := by decide +kernel
theorem dX8_judge_71 : decode cX8_judge 71 = .ok (.invokevirtual 226, 3) := by decide +kernel
theorem dX8_judge_74 : decode cX8_judge 74 = .ok (.ifCond .ne 6, 3) := by decide +kernel
theorem dX8_judge_77 : decode cX8_judge 77 = .ok (.iload 4, 2) := by decide +kernel
theorem dX8_judge_79 : decode cX8_judge 79 = .ok (.ireturn, 1) := by decide +kernel
theorem dX8_judge_80 : decode cX8_judge 80 = .ok (.iinc 4 1, 3) := by decide +kernel
theorem dX8_judge_83 : decode cX8_judge 83 = .ok (.goto (-38), 3) := by decide +kernel
theorem dX8_judge_86 : decode cX8_judge 86 = .ok (.bipush (-9), 2) := by decide +kernel
theorem dX8_judge_88 : decode cX8_judge 88 = .ok (.ireturn, 1) := by decide +kernel
theorem dX8_ways_0 : decode cX8_ways 0 = .ok (.iconst 1, 1) := by decide +kernel
theorem dX8_ways_1 : decode cX8_ways 1 = .ok (.istore_n 1, 1) := by decide +kernel
theorem dX8_ways_2 : decode cX8_ways 2 = .ok (.iconst 2, 1) := by decide +kernel
theorem dX8_ways_3 : decode cX8_ways 3 = .ok (.istore_n 2, 1) := by decide +kernel
theorem dX8_ways_4 : decode cX8_ways 4 = .ok (.iload_n 2, 1) := by decide +kernel
theorem dX8_ways_5 : decode cX8_ways 5 = .ok (.iload_n 0, 1) := by decide +kernel
theorem dX8_ways_6 : decode cX8_ways 6 = .ok (.if_icmp .gt 13, 3) := by decide +kernel
theorem dX8_ways_9 : decode cX8_ways 9 = .ok (.iload_n 1, 1) := by decide +kernel
theorem dX8_ways_10 : decode cX8_ways 10 = .ok (.iload_n 2, 1) := by decide +kernel
theorem dX8_ways_11 : decode cX8_ways 11 = .ok (.imul, 1) := by decide +kernel
theorem dX8_ways_12 : decode cX8_ways 12 = .ok (.istore_n 1, 1) := by decide +kernel
theorem dX8_ways_13 : decode cX8_ways 13 = .ok (.iinc 2 1, 3) := by decide +kernel
theorem dX8_ways_16 : decode cX8_ways 16 = .ok (.goto (-12), 3) := by decide +kernel
theorem dX8_ways_19 : decode cX8_ways 19 = .ok (.iload_n 1, 1) := by decide +kernel
theorem dX8_ways_20 : decode cX8_ways 20 = .ok (.ireturn, 1) := by decide +kernel
theorem dX8_divisor_0 : decode cX8_divisor 0 = .ok (.iload_n 0, 1) := by decide +kernel
theorem dX8_divisor_1 : decode cX8_divisor 1 = .ok (.ifCond .ge 8, 3) := by decide +kernel
theorem dX8_divisor_4 : decode cX8_divisor 4 = .ok (.iload_n 0, 1) := by decide +kernel
theorem dX8_divisor_5 : decode cX8_divisor 5 = .ok (.ineg, 1) := by decide +kernel
theorem dX8_divisor_6 : decode cX8_divisor 6 = .ok (.goto 4, 3) := by decide +kernel
theorem dX8_divisor_9 : decode cX8_divisor 9 = .ok (.iload_n 0, 1) := by decide +kernel
theorem dX8_divisor_10 : decode cX8_divisor 10 = .ok (.istore_n 2, 1) := by decide +kernel
theorem dX8_divisor_11 : decode cX8_divisor 11 = .ok (.iload_n 1, 1) := by decide +kernel
theorem dX8_divisor_12 : decode cX8_divisor 12 = .ok (.istore_n 3, 1) := by decide +kernel
theorem dX8_divisor_13 : decode cX8_divisor 13 = .ok (.iload_n 3, 1) := by decide +kernel
theorem dX8_divisor_14 : decode cX8_divisor 14 = .ok (.ifCond .eq 16, 3) := by decide +kernel
theorem dX8_divisor_17 : decode cX8_divisor 17 = .ok (.iload_n 2, 1) := by decide +kernel
theorem dX8_divisor_18 : decode cX8_divisor 18 = .ok (.iload_n 3, 1) := by decide +kernel
theorem dX8_divisor_19 : decode cX8_divisor 19 = .ok (.irem, 1) := by decide +kernel
theorem dX8_divisor_20 : decode cX8_divisor 20 = .ok (.istore 4, 2) := by decide +kernel
theorem dX8_divisor_22 : decode cX8_divisor 22 = .ok (.iload_n 3, 1) := by decide +kernel
theorem dX8_divisor_23 : decode cX8_divisor 23 = .ok (.istore_n 2, 1) := by decide +kernel
theorem dX8_divisor_24 : decode cX8_divisor 24 = .ok (.iload 4, 2) := by decide +kernel
theorem dX8_divisor_26 : decode cX8_divisor 26 = .ok (.istore_n 3, 1) := by decide +kernel
theorem dX8_divisor_27 : decode cX8_divisor 27 = .ok (.goto (-14), 3) := by decide +kernel
theorem dX8_divisor_30 : decode cX8_divisor 30 = .ok (.iload_n 2, 1) := by decide +kernel
theorem dX8_divisor_31 : decode cX8_divisor 31 = .ok (.ireturn, 1) := by decide +kernel
theorem dX8_fraction_0 : decode cX8_fraction 0 = .ok (.iload_n 0, 1) := by decide +kernel
theorem dX8_fraction_1 : decode cX8_fraction 1 = .ok (.iload_n 1, 1) := by decide +kernel
theorem dX8_fraction_2 : decode cX8_fraction 2 = .ok (.invokestatic 229, 3) := by decide +kernel
theorem dX8_fraction_5 : decode cX8_fraction 5 = .ok (.istore_n 3, 1) := by decide +kernel
theorem dX8_fraction_6 : decode cX8_fraction 6 = .ok (.iload_n 2, 1) := by decide +kernel
theorem dX8_fraction_7 : decode cX8_fraction 7 = .ok (.ifCond .eq 9, 3) := by decide +kernel
theorem dX8_fraction_10 : decode cX8_fraction 10 = .ok (.iload_n 0, 1) := by decide +kernel
theorem dX8_fraction_11 : decode cX8_fraction 11 = .ok (.iload_n 3, 1) := by decide +kernel
theorem dX8_fraction_12 : decode cX8_fraction 12 = .ok (.idiv, 1) := by decide +kernel
theorem dX8_fraction_13 : decode cX8_fraction 13 = .ok (.goto 6, 3) := by decide +kernel
theorem dX8_fraction_16 : decode cX8_fraction 16 = .ok (.iload_n 1, 1) := by decide +kernel
theorem dX8_fraction_17 : decode cX8_fraction 17 = .ok (.iload_n 3, 1) := by decide +kernel
theorem dX8_fraction_18 : decode cX8_fraction 18 = .ok (.idiv, 1) := by decide +kernel
theorem dX8_fraction_19 : decode cX8_fraction 19 = .ok (.ireturn, 1) := by decide +kernel
theorem dX8_share_0 : decode cX8_share 0 = .ok (.aload_n 0, 1) := by decide +kernel
theorem dX8_share_1 : decode cX8_share 1 = .ok (.iconst 0, 1) := by decide +kernel
theorem dX8_share_2 : decode cX8_share 2 = .ok (.putfield 62, 3) := by decide +kernel
theorem dX8_share_5 : decode cX8_share 5 = .ok (.aload_n 0, 1) := by decide +kernel
theorem dX8_share_6 : decode cX8_share 6 = .ok (.iload_n 1, 1) := by decide +kernel
theorem dX8_share_7 : decode cX8_share 7 = .ok (.invokevirtual 174, 3) := by decide +kernel
theorem dX8_share_10 : decode cX8_share 10 = .ok (.ifCond .eq 5, 3) := by decide +kernel
theorem dX8_share_13 : decode cX8_share 13 = .ok (.iconst (-1), 1) := by decide +kernel
theorem dX8_share_14 : decode cX8_share 14 = .ok (.ireturn, 1) := by decide +kernel
theorem dX8_share_15 : decode cX8_share 15 = .ok (.aload_n 0, 1) := by decide +kernel
theorem dX8_share_16 : decode cX8_share 16 = .ok (.invokevirtual 171, 3) := by decide +kernel
theorem dX8_share_19 : decode cX8_share 19 = .ok (.iconst 0, 1) := by decide +kernel
theorem dX8_share_20 : decode cX8_share 20 = .ok (.istore_n 3, 1) := by decide +kernel
theorem dX8_share_21 : decode cX8_share 21 = .ok (.iload_n 3, 1) := by decide +kernel
theorem dX8_share_22 : decode cX8_share 22 = .ok (.iconst 1, 1) := by decide +kernel
theorem dX8_share_23 : decode cX8_share 23 = .ok (.aload_n 0, 1) := by decide +kernel
theorem dX8_share_24 : decode cX8_share 24 = .ok (.getfield 66, 3) := by decide +kernel
theorem dX8_share_27 : decode cX8_share 27 = .ok (.ishl, 1) := by decide +kernel
theorem dX8_share_28 : decode cX8_share 28 = .ok (.if_icmp .ge 24, 3) := by decide +kernel
theorem dX8_share_31 : decode cX8_share 31 = .ok (.aload_n 0, 1) := by decide +kernel
theorem dX8_share_32 : decode cX8_share 32 = .ok (.iload_n 3, 1) := by decide +kernel
theorem dX8_share_33 : decode cX8_share 33 = .ok (.putfield 135, 3) := by decide +kernel
theorem dX8_share_36 : decode cX8_share 36 = .ok (.aload_n 0, 1) := by decide +kernel
theorem dX8_share_37 : decode cX8_share 37 = .ok (.getfield 59, 3) := by decide +kernel
theorem dX8_share_40 : decode cX8_share 40 = .ok (.iload_n 3, 1) := by decide +kernel
theorem dX8_share_41 : decode cX8_share 41 = .ok (.aload_n 0, 1) := by decide +kernel
theorem dX8_share_42 : decode cX8_share 42 = .ok (.invokevirtual 212, 3) := by decide +kernel
theorem dX8_share_45 : decode cX8_share 45 = .ok (.iastore, 1) := by decide +kernel
theorem dX8_share_46 : decode cX8_share 46 = .ok (.iinc 3 1, 3) := by decide +kernel
theorem dX8_share_49 : decode cX8_share 49 = .ok (.goto (-28), 3) := by decide +kernel
theorem dX8_share_52 : decode cX8_share 52 = .ok (.aload_n 0, 1) := by decide +kernel
theorem dX8_share_53 : decode cX8_share 53 = .ok (.bipush 15, 2) := by decide +kernel
theorem dX8_share_55 : decode cX8_share 55 = .ok (.putfield 135, 3) := by decide +kernel
theorem dX8_share_58 : decode cX8_share 58 = .ok (.iconst 0, 1) := by decide +kernel
theorem dX8_share_59 : decode cX8_share 59 = .ok (.istore_n 3, 1) := by decide +kernel
theorem dX8_share_60 : decode cX8_share 60 = .ok (.iconst 0, 1) := by decide +kernel
theorem dX8_share_61 : decode cX8_share 61 = .ok (.istore 4, 2) := by decide +kernel
theorem dX8_share_63 : decode cX8_share 63 = .ok (.iload 4, 2) := by decide +kernel
theorem dX8_share_65 : decode cX8_share 65 = .ok (.iconst 1, 1) := by decide +kernel
theorem dX8_share_66 : decode cX8_share 66 = .ok (.aload_n 0, 1) := by decide +kernel
theorem dX8_share_67 : decode cX8_share 67 = .ok (.getfield 66, 3) := by decide +kernel
theorem dX8_share_70 : decode cX8_share 70 = .ok (.ishl, 1) := by decide +kernel
theorem dX8_share_71 : decode cX8_share 71 = .ok (.if_icmp .ge 66, 3) := by decide +kernel
theorem dX8_share_74 : decode cX8_share 74 = .ok (.iload 4, 2) := by decide +kernel
theorem dX8_share_76 : decode cX8_share 76 = .ok (.iload_n 1, 1) := by decide +kernel
theorem dX8_share_77 : decode cX8_share 77 = .ok (.invokestatic 123, 3) := by decide +kernel
theorem dX8_share_80 : decode cX8_share 80 = .ok (.ifCond .ne 51, 3) := by decide +kernel
theorem dX8_share_83 : decode cX8_share 83 = .ok (.iload 4, 2) := by decide +kernel
theorem dX8_share_85 : decode cX8_share 85 = .ok (.invokestatic 142, 3) := by decide +kernel
theorem dX8_share_88 : decode cX8_share 88 = .ok (.istore 5, 2) := by decide +kernel
theorem dX8_share_90 : decode cX8_share 90 = .ok (.iload_n 3, 1) := by decide +kernel
theorem dX8_share_91 : decode cX8_share 91 = .ok (.iload 5, 2) := by decide +kernel
theorem dX8_share_93 : decode cX8_share 93 = .ok (.invokestatic 232, 3) := by decide +kernel
theorem dX8_share_96 : decode cX8_share 96 = .ok (.aload_n 0, 1) := by decide +kernel
theorem dX8_share_97 : decode cX8_share 97 = .ok (.getfield 66, 3) := by decide +kernel
theorem dX8_share_100 : decode cX8_share 100 = .ok (.iconst 1, 1) := by decide +kernel
theorem dX8_share_101 : decode cX8_share 101 = .ok (.isub, 1) := by decide +kernel
theorem dX8_share_102 : decode cX8_share 102 = .ok (.iload 5, 2) := by decide +kernel
theorem dX8_share_104 : decode cX8_share 104 = .ok (.isub, 1) := by decide +kernel
theorem dX8_share_105 : decode cX8_share 105 = .ok (.invokestatic 232, 3) := by decide +kernel
theorem dX8_share_108 : decode cX8_share 108 = .ok (.imul, 1) := by decide +kernel
theorem dX8_share_109 : decode cX8_share 109 = .ok (.aload_n 0, 1) := by decide +kernel
theorem dX8_share_110 : decode cX8_share 110 = .ok (.getfield 59, 3) := by decide +kernel
theorem dX8_share_113 : decode cX8_share 113 = .ok (.iload 4, 2) := by decide +kernel
theorem dX8_share_115 : decode cX8_share 115 = .ok (.iconst 1, 1) := by decide +kernel
theorem dX8_share_116 : decode cX8_share 116 = .ok (.iload_n 1, 1) := by decide +kernel
theorem dX8_share_117 : decode cX8_share 117 = .ok (.ishl, 1) := by decide +kernel
theorem dX8_share_118 : decode cX8_share 118 = .ok (.ior, 1) := by decide +kernel
theorem dX8_share_119 : decode cX8_share 119 = .ok (.iaload, 1) := by decide +kernel
theorem dX8_share_120 : decode cX8_share 120 = .ok (.aload_n 0, 1) := by decide +kernel
theorem dX8_share_121 : decode cX8_share 121 = .ok (.getfield 59, 3) := by decide +kernel
theorem dX8_share_124 : decode cX8_share 124 = .ok (.iload 4, 2) := by decide +kernel
theorem dX8_share_126 : decode cX8_share 126 = .ok (.iaload, 1) := by decide +kernel
theorem dX8_share_127 : decode cX8_share 127 = .ok (.isub, 1) := by decide +kernel
theorem dX8_share_128 : decode cX8_share 128 = .ok (.imul, 1) := by decide +kernel
theorem dX8_share_129 : decode cX8_share 129 = .ok (.iadd, 1) := by decide +kernel
theorem dX8_share_130 : decode cX8_share 130 = .ok (.istore_n 3, 1) := by decide +kernel
theorem dX8_share_131 : decode cX8_share 131 = .ok (.iinc 4 1, 3) := by decide +kernel
theorem dX8_share_134 : decode cX8_share 134 = .ok (.goto (-71), 3) := by decide +kernel
theorem dX8_share_137 : decode cX8_share 137 = .ok (.iload_n 3, 1) := by decide +kernel
theorem dX8_share_138 : decode cX8_share 138 = .ok (.aload_n 0, 1) := by decide +kernel
theorem dX8_share_139 : decode cX8_share 139 = .ok (.getfield 66, 3) := by decide +kernel
theorem dX8_share_142 : decode cX8_share 142 = .ok (.invokestatic 232, 3) := by decide +kernel
theorem dX8_share_145 : decode cX8_share 145 = .ok (.iload_n 2, 1) := by decide +kernel
theorem dX8_share_146 : decode cX8_share 146 = .ok (.invokestatic 235, 3) := by decide +kernel
theorem dX8_share_149 : decode cX8_share 149 = .ok (.ireturn, 1) := by decide +kernel
theorem dX8_sound_0 : decode cX8_sound 0 = .ok (.aload_n 0, 1) := by decide +kernel
theorem dX8_sound_1 : decode cX8_sound 1 = .ok (.iconst 0, 1) := by decide +kernel
theorem dX8_sound_2 : decode cX8_sound 2 = .ok (.putfield 62, 3) := by decide +kernel
theorem dX8_sound_5 : decode cX8_sound 5 = .ok (.iload_n 1, 1) := by decide +kernel
theorem dX8_sound_6 : decode cX8_sound 6 = .ok (.i2l, 1) := by decide +kernel
theorem dX8_sound_7 : decode cX8_sound 7 = .ok (.lconst 1, 1) := by decide +kernel
theorem dX8_sound_8 : decode cX8_sound 8 = .ok (.ldc2_w 239, 3) := by decide +kernel
theorem dX8_sound_11 : decode cX8_sound 11 = .ok (.invokestatic 69, 3) := by decide +kernel
theorem dX8_sound_14 : decode cX8_sound 14 = .ok (.ifCond .eq 25, 3) := by decide +kernel
theorem dX8_sound_17 : decode cX8_sound 17 = .ok (.iload_n 2, 1) := by decide +kernel
theorem dX8_sound_18 : decode cX8_sound 18 = .ok (.i2l, 1) := by decide +kernel
theorem dX8_sound_19 : decode cX8_sound 19 = .ok (.lconst 0, 1) := by decide +kernel
theorem dX8_sound_20 : decode cX8_sound 20 = .ok (.ldc2_w 239, 3) := by decide +kernel
theorem dX8_sound_23 : decode cX8_sound 23 = .ok (.invokestatic 69, 3) := by decide +kernel
theorem dX8_sound_26 : decode cX8_sound 26 = .ok (.ifCond .eq 13, 3) := by decide +kernel
theorem dX8_sound_29 : decode cX8_sound 29 = .ok (.iload_n 3, 1) := by decide +kernel
theorem dX8_sound_30 : decode cX8_sound 30 = .ok (.i2l, 1) := by decide +kernel
theorem dX8_sound_31 : decode cX8_sound 31 = .ok (.lconst 0, 1) := by decide +kernel
theorem dX8_sound_32 : decode cX8_sound 32 = .ok (.lconst 1, 1) := by decide +kernel
theorem dX8_sound_33 : decode cX8_sound 33 = .ok (.invokestatic 69, 3) := by decide +kernel
theorem dX8_sound_36 : decode cX8_sound 36 = .ok (.ifCond .ne 6, 3) := by decide +kernel
theorem dX8_sound_39 : decode cX8_sound 39 = .ok (.bipush (-2), 2) := by decide +kernel
theorem dX8_sound_41 : decode cX8_sound 41 = .ok (.ireturn, 1) := by decide +kernel
theorem dX8_sound_42 : decode cX8_sound 42 = .ok (.aload_n 0, 1) := by decide +kernel
theorem dX8_sound_43 : decode cX8_sound 43 = .ok (.getfield 168, 3) := by decide +kernel
theorem dX8_sound_46 : decode cX8_sound 46 = .ok (.bipush 6, 2) := by decide +kernel
theorem dX8_sound_48 : decode cX8_sound 48 = .ok (.if_icmp .ne 6, 3) := by decide +kernel
theorem dX8_sound_51 : decode cX8_sound 51 = .ok (.bipush (-4), 2) := by decide +kernel
theorem dX8_sound_53 : decode cX8_sound 53 = .ok (.ireturn, 1) := by decide +kernel
theorem dX8_sound_54 : decode cX8_sound 54 = .ok (.aload_n 0, 1) := by decide +kernel
theorem dX8_sound_55 : decode cX8_sound 55 = .ok (.getfield 47, 3) := by decide +kernel
theorem dX8_sound_58 : decode cX8_sound 58 = .ok (.aload_n 0, 1) := by decide +kernel
theorem dX8_sound_59 : decode cX8_sound 59 = .ok (.getfield 168, 3) := by decide +kernel
theorem dX8_sound_62 : decode cX8_sound 62 = .ok (.iload_n 1, 1) := by decide +kernel
theorem dX8_sound_63 : decode cX8_sound 63 = .ok (.iastore, 1) := by decide +kernel
theorem dX8_sound_64 : decode cX8_sound 64 = .ok (.aload_n 0, 1) := by decide +kernel
theorem dX8_sound_65 : decode cX8_sound 65 = .ok (.getfield 50, 3) := by decide +kernel
theorem dX8_sound_68 : decode cX8_sound 68 = .ok (.aload_n 0, 1) := by decide +kernel
theorem dX8_sound_69 : decode cX8_sound 69 = .ok (.getfield 168, 3) := by decide +kernel
theorem dX8_sound_72 : decode cX8_sound 72 = .ok (.iload_n 2, 1) := by decide +kernel
theorem dX8_sound_73 : decode cX8_sound 73 = .ok (.iastore, 1) := by decide +kernel
theorem dX8_sound_74 : decode cX8_sound 74 = .ok (.aload_n 0, 1) := by decide +kernel
theorem dX8_sound_75 : decode cX8_sound 75 = .ok (.getfield 53, 3) := by decide +kernel
theorem dX8_sound_78 : decode cX8_sound 78 = .ok (.aload_n 0, 1) := by decide +kernel
theorem dX8_sound_79 : decode cX8_sound 79 = .ok (.getfield 168, 3) := by decide +kernel
theorem dX8_sound_82 : decode cX8_sound 82 = .ok (.iload_n 3, 1) := by decide +kernel
theorem dX8_sound_83 : decode cX8_sound 83 = .ok (.iastore, 1) := by decide +kernel
theorem dX8_sound_84 : decode cX8_sound 84 = .ok (.aload_n 0, 1) := by decide +kernel
theorem dX8_sound_85 : decode cX8_sound 85 = .ok (.dup, 1) := by decide +kernel
theorem dX8_sound_86 : decode cX8_sound 86 = .ok (.getfield 168, 3) := by decide +kernel
theorem dX8_sound_89 : decode cX8_sound 89 = .ok (.iconst 1, 1) := by decide +kernel
theorem dX8_sound_90 : decode cX8_sound 90 = .ok (.iadd, 1) := by decide +kernel
theorem dX8_sound_91 : decode cX8_sound 91 = .ok (.putfield 168, 3) := by decide +kernel
theorem dX8_sound_94 : decode cX8_sound 94 = .ok (.aload_n 0, 1) := by decide +kernel
theorem dX8_sound_95 : decode cX8_sound 95 = .ok (.getfield 168, 3) := by decide +kernel
theorem dX8_sound_98 : decode cX8_sound 98 = .ok (.ireturn, 1) := by decide +kernel
theorem dX8_unsound_0 : decode cX8_unsound 0 = .ok (.aload_n 0, 1) := by decide +kernel
theorem dX8_unsound_1 : decode cX8_unsound 1 = .ok (.iconst 0, 1) := by decide +kernel
theorem dX8_unsound_2 : decode cX8_unsound 2 = .ok (.putfield 62, 3) := by decide +kernel
theorem dX8_unsound_5 : decode cX8_unsound 5 = .ok (.aload_n 0, 1) := by decide +kernel
theorem dX8_unsound_6 : decode cX8_unsound 6 = .ok (.getfield 168, 3) := by decide +kernel
theorem dX8_unsound_9 : decode cX8_unsound 9 = .ok (.istore_n 1, 1) := by decide +kernel
theorem dX8_unsound_10 : decode cX8_unsound 10 = .ok (.aload_n 0, 1) := by decide +kernel
theorem dX8_unsound_11 : decode cX8_unsound 11 = .ok (.iconst 0, 1) := by decide +kernel
theorem dX8_unsound_12 : decode cX8_unsound 12 = .ok (.putfield 168, 3) := by decide +kernel
theorem dX8_unsound_15 : decode cX8_unsound 15 = .ok (.iload_n 1, 1) := by decide +kernel
theorem dX8_unsound_16 : decode cX8_unsound 16 = .ok (.ireturn, 1) := by decide +kernel
theorem dX8_explains_0 : decode cX8_explains 0 = .ok (.iconst 1, 1) := by decide +kernel
theorem dX8_explains_1 : decode cX8_explains 1 = .ok (.istore_n 3, 1) := by decide +kernel
theorem dX8_explains_2 : decode cX8_explains 2 = .ok (.iconst 0, 1) := by decide +kernel
theorem dX8_explains_3 : decode cX8_explains 3 = .ok (.istore 4, 2) := by decide +kernel
theorem dX8_explains_5 : decode cX8_explains 5 = .ok (.iload 4, 2) := by decide +kernel
theorem dX8_explains_7 : decode cX8_explains 7 = .ok (.aload_n 0, 1) := by decide +kernel
theorem dX8_explains_8 : decode cX8_explains 8 = .ok (.getfield 168, 3) := by decide +kernel
theorem dX8_explains_11 : decode cX8_explains 11 = .ok (.if_icmp .ge 102, 3) := by decide +kernel
theorem dX8_explains_14 : decode cX8_explains 14 = .ok (.iload_n 2, 1) := by decide +kernel
theorem dX8_explains_15 : decode cX8_explains 15 = .ok (.ifCond .eq 15, 3) := by decide +kernel
theorem dX8_explains_18 : decode cX8_explains 18 = .ok (.iload_n 1, 1) := by decide +kernel
theorem dX8_explains_19 : decode cX8_explains 19 = .ok (.aload_n 0, 1) := by decide +kernel
theorem dX8_explains_20 : decode cX8_explains 20 = .ok (.getfield 50, 3) := by decide +kernel
theorem dX8_explains_23 : decode cX8_explains 23 = .ok (.iload 4, 2) := by decide +kernel
theorem dX8_explains_25 : decode cX8_explains 25 = .ok (.iaload, 1) := by decide +kernel
theorem dX8_explains_26 : decode cX8_explains 26 = .ok (.iadd, 1) := by decide +kernel
theorem dX8_explains_27 : decode cX8_explains 27 = .ok (.goto 4, 3) := by decide +kernel
theorem dX8_explains_30 : decode cX8_explains 30 = .ok (.iload_n 1, 1) := by decide +kernel
theorem dX8_explains_31 : decode cX8_explains 31 = .ok (.istore 5, 2) := by decide +kernel
theorem dX8_explains_33 : decode cX8_explains 33 = .ok (.iload 5, 2) := by decide +kernel
theorem dX8_explains_35 : decode cX8_explains 35 = .ok (.bipush 9, 2) := by decide +kernel
theorem dX8_explains_37 : decode cX8_explains 37 = .ok (.if_icmp .le 8, 3) := by decide +kernel
theorem dX8_explains_40 : decode cX8_explains 40 = .ok (.bipush 9, 2) := by decide +kernel
theorem dX8_explains_42 : decode cX8_explains 42 = .ok (.goto 5, 3) := by decide +kernel
theorem dX8_explains_45 : decode cX8_explains 45 = .ok (.iload 5, 2) := by decide +kernel
theorem dX8_explains_47 : decode cX8_explains 47 = .ok (.istore 5, 2) := by decide +kernel
theorem dX8_explains_49 : decode cX8_explains 49 = .ok (.iload_n 3, 1) := by decide +kernel
theorem dX8_explains_50 : decode cX8_explains 50 = .ok (.ifCond .eq 55, 3) := by decide +kernel
theorem dX8_explains_53 : decode cX8_explains 53 = .ok (.aload_n 0, 1) := by decide +kernel
theorem dX8_explains_54 : decode cX8_explains 54 = .ok (.getfield 47, 3) := by decide +kernel
theorem dX8_explains_57 : decode cX8_explains 57 = .ok (.iload 4, 2) := by decide +kernel
theorem dX8_explains_59 : decode cX8_explains 59 = .ok (.iaload, 1) := by decide +kernel
theorem dX8_explains_60 : decode cX8_explains 60 = .ok (.iload 5, 2) := by decide +kernel
theorem dX8_explains_62 : decode cX8_explains 62 = .ok (.aload_n 0, 1) := by decide +kernel
theorem dX8_explains_63 : decode cX8_explains 63 = .ok (.aload_n 0, 1) := by decide +kernel
theorem dX8_explains_64 : decode cX8_explains 64 = .ok (.getfield 50, 3) := by decide +kernel
theorem dX8_explains_67 : decode cX8_explains 67 = .ok (.iload 4, 2) := by decide +kernel
theorem dX8_explains_69 : decode cX8_explains 69 = .ok (.iaload, 1) := by decide +kernel
theorem dX8_explains_70 : decode cX8_explains 70 = .ok (.invokevirtual 127, 3) := by decide +kernel
theorem dX8_explains_73 : decode cX8_explains 73 = .ok (.iadd, 1) := by decide +kernel
theorem dX8_explains_74 : decode cX8_explains 74 = .ok (.if_icmp .le 7, 3) := by decide +kernel
theorem dX8_explains_77 : decode cX8_explains 77 = .ok (.iconst 1, 1) := by decide +kernel
theorem dX8_explains_78 : decode cX8_explains 78 = .ok (.goto 4, 3) := by decide +kernel
theorem dX8_explains_81 : decode cX8_explains 81 = .ok (.iconst 0, 1) := by decide +kernel
theorem dX8_explains_82 : decode cX8_explains 82 = .ok (.aload_n 0, 1) := by decide +kernel
theorem dX8_explains_83 : decode cX8_explains 83 = .ok (.getfield 53, 3) := by decide +kernel
theorem dX8_explains_86 : decode cX8_explains 86 = .ok (.iload 4, 2) := by decide +kernel
theorem dX8_explains_88 : decode cX8_explains 88 = .ok (.iaload, 1) := by decide +kernel
theorem dX8_explains_89 : decode cX8_explains 89 = .ok (.iconst 1, 1) := by decide +kernel
theorem dX8_explains_90 : decode cX8_explains 90 = .ok (.if_icmp .ne 7, 3) := by decide +kernel
theorem dX8_explains_93 : decode cX8_explains 93 = .ok (.iconst 1, 1) := by decide +kernel
theorem dX8_explains_94 : decode cX8_explains 94 = .ok (.goto 4, 3) := by decide +kernel
theorem dX8_explains_97 : decode cX8_explains 97 = .ok (.iconst 0, 1) := by decide +kernel
theorem dX8_explains_98 : decode cX8_explains 98 = .ok (.if_icmp .ne 7, 3) := by decide +kernel
theorem dX8_explains_101 : decode cX8_explains 101 = .ok (.iconst 1, 1) := by decide +kernel
theorem dX8_explains_102 : decode cX8_explains 102 = .ok (.goto 4, 3) := by decide +kernel
theorem dX8_explains_105 : decode cX8_explains 105 = .ok (.iconst 0, 1) := by decide +kernel
theorem dX8_explains_106 : decode cX8_explains 106 = .ok (.istore_n 3, 1) := by decide +kernel
theorem dX8_explains_107 : decode cX8_explains 107 = .ok (.iinc 4 1, 3) := by decide +kernel
theorem dX8_explains_110 : decode cX8_explains 110 = .ok (.goto (-105), 3) := by decide +kernel
theorem dX8_explains_113 : decode cX8_explains 113 = .ok (.iload_n 3, 1) := by decide +kernel
end
section
theorem dX8_explains_114 : decode cX8_explains 114 = .ok (.ireturn, 1) := by decide +kernel
theorem dX8_depths_0 : decode cX8_depths 0 = .ok (.aload_n 0, 1) := by decide +kernel
theorem dX8_depths_1 : decode cX8_depths 1 = .ok (.iconst 0, 1) := by decide +kernel
theorem dX8_depths_2 : decode cX8_depths 2 = .ok (.putfield 62, 3) := by decide +kernel
theorem dX8_depths_5 : decode cX8_depths 5 = .ok (.iload_n 1, 1) := by decide +kernel
theorem dX8_depths_6 : decode cX8_depths 6 = .ok (.i2l, 1) := by decide +kernel
theorem dX8_depths_7 : decode cX8_depths 7 = .ok (.lconst 0, 1) := by decide +kernel
theorem dX8_depths_8 : decode cX8_depths 8 = .ok (.lconst 1, 1) := by decide +kernel
theorem dX8_depths_9 : decode cX8_depths 9 = .ok (.invokestatic 69, 3) := by decide +kernel
theorem dX8_depths_12 : decode cX8_depths 12 = .ok (.ifCond .ne 6, 3) := by decide +kernel
theorem dX8_depths_15 : decode cX8_depths 15 = .ok (.bipush (-2), 2) := by decide +kernel
theorem dX8_depths_17 : decode cX8_depths 17 = .ok (.ireturn, 1) := by decide +kernel
theorem dX8_depths_18 : decode cX8_depths 18 = .ok (.aload_n 0, 1) := by decide +kernel
theorem dX8_depths_19 : decode cX8_depths 19 = .ok (.iconst 0, 1) := by decide +kernel
theorem dX8_depths_20 : decode cX8_depths 20 = .ok (.putfield 241, 3) := by decide +kernel
theorem dX8_depths_23 : decode cX8_depths 23 = .ok (.aload_n 0, 1) := by decide +kernel
theorem dX8_depths_24 : decode cX8_depths 24 = .ok (.bipush (-9), 2) := by decide +kernel
theorem dX8_depths_26 : decode cX8_depths 26 = .ok (.putfield 244, 3) := by decide +kernel
theorem dX8_depths_29 : decode cX8_depths 29 = .ok (.iconst 0, 1) := by decide +kernel
theorem dX8_depths_30 : decode cX8_depths 30 = .ok (.istore_n 2, 1) := by decide +kernel
theorem dX8_depths_31 : decode cX8_depths 31 = .ok (.iload_n 2, 1) := by decide +kernel
theorem dX8_depths_32 : decode cX8_depths 32 = .ok (.bipush 20, 2) := by decide +kernel
theorem dX8_depths_34 : decode cX8_depths 34 = .ok (.if_icmp .ge 81, 3) := by decide +kernel
theorem dX8_depths_37 : decode cX8_depths 37 = .ok (.aload_n 0, 1) := by decide +kernel
theorem dX8_depths_38 : decode cX8_depths 38 = .ok (.iload_n 2, 1) := by decide +kernel
theorem dX8_depths_39 : decode cX8_depths 39 = .ok (.bipush 10, 2) := by decide +kernel
theorem dX8_depths_41 : decode cX8_depths 41 = .ok (.irem, 1) := by decide +kernel
theorem dX8_depths_42 : decode cX8_depths 42 = .ok (.iload_n 2, 1) := by decide +kernel
theorem dX8_depths_43 : decode cX8_depths 43 = .ok (.bipush 9, 2) := by decide +kernel
theorem dX8_depths_45 : decode cX8_depths 45 = .ok (.if_icmp .le 7, 3) := by decide +kernel
theorem dX8_depths_48 : decode cX8_depths 48 = .ok (.iconst 1, 1) := by decide +kernel
theorem dX8_depths_49 : decode cX8_depths 49 = .ok (.goto 4, 3) := by decide +kernel
theorem dX8_depths_52 : decode cX8_depths 52 = .ok (.iconst 0, 1) := by decide +kernel
theorem dX8_depths_53 : decode cX8_depths 53 = .ok (.invokevirtual 247, 3) := by decide +kernel
theorem dX8_depths_56 : decode cX8_depths 56 = .ok (.istore_n 3, 1) := by decide +kernel
theorem dX8_depths_57 : decode cX8_depths 57 = .ok (.aload_n 0, 1) := by decide +kernel
theorem dX8_depths_58 : decode cX8_depths 58 = .ok (.iload_n 3, 1) := by decide +kernel
theorem dX8_depths_59 : decode cX8_depths 59 = .ok (.ifCond .eq 25, 3) := by decide +kernel
theorem dX8_depths_62 : decode cX8_depths 62 = .ok (.aload_n 0, 1) := by decide +kernel
theorem dX8_depths_63 : decode cX8_depths 63 = .ok (.getfield 241, 3) := by decide +kernel
theorem dX8_depths_66 : decode cX8_depths 66 = .ok (.ifCond .ne 18, 3) := by decide +kernel
theorem dX8_depths_69 : decode cX8_depths 69 = .ok (.iload_n 2, 1) := by decide +kernel
theorem dX8_depths_70 : decode cX8_depths 70 = .ok (.bipush 10, 2) := by decide +kernel
theorem dX8_depths_72 : decode cX8_depths 72 = .ok (.idiv, 1) := by decide +kernel
theorem dX8_depths_73 : decode cX8_depths 73 = .ok (.bipush 30, 2) := by decide +kernel
theorem dX8_depths_75 : decode cX8_depths 75 = .ok (.imul, 1) := by decide +kernel
theorem dX8_depths_76 : decode cX8_depths 76 = .ok (.iload_n 2, 1) := by decide +kernel
theorem dX8_depths_77 : decode cX8_depths 77 = .ok (.bipush 10, 2) := by decide +kernel
theorem dX8_depths_79 : decode cX8_depths 79 = .ok (.irem, 1) := by decide +kernel
theorem dX8_depths_80 : decode cX8_depths 80 = .ok (.iadd, 1) := by decide +kernel
theorem dX8_depths_81 : decode cX8_depths 81 = .ok (.goto 7, 3) := by decide +kernel
theorem dX8_depths_84 : decode cX8_depths 84 = .ok (.aload_n 0, 1) := by decide +kernel
theorem dX8_depths_85 : decode cX8_depths 85 = .ok (.getfield 244, 3) := by decide +kernel
theorem dX8_depths_88 : decode cX8_depths 88 = .ok (.putfield 244, 3) := by decide +kernel
theorem dX8_depths_91 : decode cX8_depths 91 = .ok (.aload_n 0, 1) := by decide +kernel
theorem dX8_depths_92 : decode cX8_depths 92 = .ok (.dup, 1) := by decide +kernel
theorem dX8_depths_93 : decode cX8_depths 93 = .ok (.getfield 241, 3) := by decide +kernel
theorem dX8_depths_96 : decode cX8_depths 96 = .ok (.iload_n 3, 1) := by decide +kernel
theorem dX8_depths_97 : decode cX8_depths 97 = .ok (.ifCond .eq 7, 3) := by decide +kernel
theorem dX8_depths_100 : decode cX8_depths 100 = .ok (.iconst 1, 1) := by decide +kernel
theorem dX8_depths_101 : decode cX8_depths 101 = .ok (.goto 4, 3) := by decide +kernel
theorem dX8_depths_104 : decode cX8_depths 104 = .ok (.iconst 0, 1) := by decide +kernel
theorem dX8_depths_105 : decode cX8_depths 105 = .ok (.iadd, 1) := by decide +kernel
theorem dX8_depths_106 : decode cX8_depths 106 = .ok (.putfield 241, 3) := by decide +kernel
theorem dX8_depths_109 : decode cX8_depths 109 = .ok (.iinc 2 1, 3) := by decide +kernel
theorem dX8_depths_112 : decode cX8_depths 112 = .ok (.goto (-81), 3) := by decide +kernel
theorem dX8_depths_115 : decode cX8_depths 115 = .ok (.iload_n 1, 1) := by decide +kernel
theorem dX8_depths_116 : decode cX8_depths 116 = .ok (.ifCond .ne 10, 3) := by decide +kernel
theorem dX8_depths_119 : decode cX8_depths 119 = .ok (.aload_n 0, 1) := by decide +kernel
theorem dX8_depths_120 : decode cX8_depths 120 = .ok (.getfield 241, 3) := by decide +kernel
theorem dX8_depths_123 : decode cX8_depths 123 = .ok (.goto 7, 3) := by decide +kernel
theorem dX8_depths_126 : decode cX8_depths 126 = .ok (.aload_n 0, 1) := by decide +kernel
theorem dX8_depths_127 : decode cX8_depths 127 = .ok (.getfield 244, 3) := by decide +kernel
theorem dX8_depths_130 : decode cX8_depths 130 = .ok (.ireturn, 1) := by decide +kernel
theorem dX8_chosen_0 : decode cX8_chosen 0 = .ok (.aload_n 0, 1) := by decide +kernel
theorem dX8_chosen_1 : decode cX8_chosen 1 = .ok (.iload_n 2, 1) := by decide +kernel
theorem dX8_chosen_2 : decode cX8_chosen 2 = .ok (.invokevirtual 174, 3) := by decide +kernel
theorem dX8_chosen_5 : decode cX8_chosen 5 = .ok (.ifCond .ne 16, 3) := by decide +kernel
theorem dX8_chosen_8 : decode cX8_chosen 8 = .ok (.aload_n 0, 1) := by decide +kernel
theorem dX8_chosen_9 : decode cX8_chosen 9 = .ok (.aload_n 0, 1) := by decide +kernel
theorem dX8_chosen_10 : decode cX8_chosen 10 = .ok (.getfield 31, 3) := by decide +kernel
theorem dX8_chosen_13 : decode cX8_chosen 13 = .ok (.iload_n 1, 1) := by decide +kernel
theorem dX8_chosen_14 : decode cX8_chosen 14 = .ok (.iload_n 2, 1) := by decide +kernel
theorem dX8_chosen_15 : decode cX8_chosen 15 = .ok (.invokevirtual 145, 3) := by decide +kernel
theorem dX8_chosen_18 : decode cX8_chosen 18 = .ok (.ifCond .ne 8, 3) := by decide +kernel
theorem dX8_chosen_21 : decode cX8_chosen 21 = .ok (.bipush (-9), 2) := by decide +kernel
theorem dX8_chosen_23 : decode cX8_chosen 23 = .ok (.goto 4, 3) := by decide +kernel
theorem dX8_chosen_26 : decode cX8_chosen 26 = .ok (.iload_n 2, 1) := by decide +kernel
theorem dX8_chosen_27 : decode cX8_chosen 27 = .ok (.ireturn, 1) := by decide +kernel
theorem dX8_layGains_0 : decode cX8_layGains 0 = .ok (.aload_n 0, 1) := by decide +kernel
theorem dX8_layGains_1 : decode cX8_layGains 1 = .ok (.iload_n 1, 1) := by decide +kernel
theorem dX8_layGains_2 : decode cX8_layGains 2 = .ok (.iload_n 3, 1) := by decide +kernel
theorem dX8_layGains_3 : decode cX8_layGains 3 = .ok (.iconst 5, 1) := by decide +kernel
theorem dX8_layGains_4 : decode cX8_layGains 4 = .ok (.idiv, 1) := by decide +kernel
theorem dX8_layGains_5 : decode cX8_layGains 5 = .ok (.invokevirtual 251, 3) := by decide +kernel
theorem dX8_layGains_8 : decode cX8_layGains 8 = .ok (.istore 4, 2) := by decide +kernel
theorem dX8_layGains_10 : decode cX8_layGains 10 = .ok (.aload_n 0, 1) := by decide +kernel
theorem dX8_layGains_11 : decode cX8_layGains 11 = .ok (.iload_n 2, 1) := by decide +kernel
theorem dX8_layGains_12 : decode cX8_layGains 12 = .ok (.iload_n 3, 1) := by decide +kernel
theorem dX8_layGains_13 : decode cX8_layGains 13 = .ok (.iconst 5, 1) := by decide +kernel
theorem dX8_layGains_14 : decode cX8_layGains 14 = .ok (.irem, 1) := by decide +kernel
theorem dX8_layGains_15 : decode cX8_layGains 15 = .ok (.invokevirtual 251, 3) := by decide +kernel
theorem dX8_layGains_18 : decode cX8_layGains 18 = .ok (.istore 5, 2) := by decide +kernel
theorem dX8_layGains_20 : decode cX8_layGains 20 = .ok (.aload_n 0, 1) := by decide +kernel
theorem dX8_layGains_21 : decode cX8_layGains 21 = .ok (.invokevirtual 191, 3) := by decide +kernel
theorem dX8_layGains_24 : decode cX8_layGains 24 = .ok (.iload 4, 2) := by decide +kernel
theorem dX8_layGains_26 : decode cX8_layGains 26 = .ok (.bipush (-9), 2) := by decide +kernel
theorem dX8_layGains_28 : decode cX8_layGains 28 = .ok (.if_icmp .ne 7, 3) := by decide +kernel
theorem dX8_layGains_31 : decode cX8_layGains 31 = .ok (.iconst 0, 1) := by decide +kernel
theorem dX8_layGains_32 : decode cX8_layGains 32 = .ok (.goto 33, 3) := by decide +kernel
theorem dX8_layGains_35 : decode cX8_layGains 35 = .ok (.aload_n 0, 1) := by decide +kernel
theorem dX8_layGains_36 : decode cX8_layGains 36 = .ok (.getfield 16, 3) := by decide +kernel
theorem dX8_layGains_39 : decode cX8_layGains 39 = .ok (.iload 4, 2) := by decide +kernel
theorem dX8_layGains_41 : decode cX8_layGains 41 = .ok (.iaload, 1) := by decide +kernel
theorem dX8_layGains_42 : decode cX8_layGains 42 = .ok (.iconst 2, 1) := by decide +kernel
theorem dX8_layGains_43 : decode cX8_layGains 43 = .ok (.if_icmp .ne 7, 3) := by decide +kernel
theorem dX8_layGains_46 : decode cX8_layGains 46 = .ok (.iconst 2, 1) := by decide +kernel
theorem dX8_layGains_47 : decode cX8_layGains 47 = .ok (.goto 4, 3) := by decide +kernel
theorem dX8_layGains_50 : decode cX8_layGains 50 = .ok (.iconst 1, 1) := by decide +kernel
theorem dX8_layGains_51 : decode cX8_layGains 51 = .ok (.aload_n 0, 1) := by decide +kernel
theorem dX8_layGains_52 : decode cX8_layGains 52 = .ok (.aload_n 0, 1) := by decide +kernel
theorem dX8_layGains_53 : decode cX8_layGains 53 = .ok (.getfield 31, 3) := by decide +kernel
theorem dX8_layGains_56 : decode cX8_layGains 56 = .ok (.iload 4, 2) := by decide +kernel
theorem dX8_layGains_58 : decode cX8_layGains 58 = .ok (.invokevirtual 131, 3) := by decide +kernel
theorem dX8_layGains_61 : decode cX8_layGains 61 = .ok (.invokestatic 142, 3) := by decide +kernel
theorem dX8_layGains_64 : decode cX8_layGains 64 = .ok (.isub, 1) := by decide +kernel
theorem dX8_layGains_65 : decode cX8_layGains 65 = .ok (.istore 6, 2) := by decide +kernel
theorem dX8_layGains_67 : decode cX8_layGains 67 = .ok (.iload 4, 2) := by decide +kernel
theorem dX8_layGains_69 : decode cX8_layGains 69 = .ok (.bipush (-9), 2) := by decide +kernel
theorem dX8_layGains_71 : decode cX8_layGains 71 = .ok (.if_icmp .eq 20, 3) := by decide +kernel
theorem dX8_layGains_74 : decode cX8_layGains 74 = .ok (.iload 4, 2) := by decide +kernel
theorem dX8_layGains_76 : decode cX8_layGains 76 = .ok (.iload 5, 2) := by decide +kernel
theorem dX8_layGains_78 : decode cX8_layGains 78 = .ok (.if_icmp .ne 13, 3) := by decide +kernel
theorem dX8_layGains_81 : decode cX8_layGains 81 = .ok (.iload 6, 2) := by decide +kernel
theorem dX8_layGains_83 : decode cX8_layGains 83 = .ok (.iconst 2, 1) := by decide +kernel
theorem dX8_layGains_84 : decode cX8_layGains 84 = .ok (.if_icmp .ge 7, 3) := by decide +kernel
theorem dX8_layGains_87 : decode cX8_layGains 87 = .ok (.iconst 1, 1) := by decide +kernel
theorem dX8_layGains_88 : decode cX8_layGains 88 = .ok (.goto 4, 3) := by decide +kernel
theorem dX8_layGains_91 : decode cX8_layGains 91 = .ok (.iconst 0, 1) := by decide +kernel
theorem dX8_layGains_92 : decode cX8_layGains 92 = .ok (.istore 7, 2) := by decide +kernel
theorem dX8_layGains_94 : decode cX8_layGains 94 = .ok (.iload 4, 2) := by decide +kernel
theorem dX8_layGains_96 : decode cX8_layGains 96 = .ok (.bipush (-9), 2) := by decide +kernel
theorem dX8_layGains_98 : decode cX8_layGains 98 = .ok (.if_icmp .eq 16, 3) := by decide +kernel
theorem dX8_layGains_101 : decode cX8_layGains 101 = .ok (.iload 7, 2) := by decide +kernel
theorem dX8_layGains_103 : decode cX8_layGains 103 = .ok (.ifCond .ne 11, 3) := by decide +kernel
theorem dX8_layGains_106 : decode cX8_layGains 106 = .ok (.aload_n 0, 1) := by decide +kernel
theorem dX8_layGains_107 : decode cX8_layGains 107 = .ok (.getfield 34, 3) := by decide +kernel
theorem dX8_layGains_110 : decode cX8_layGains 110 = .ok (.iload_n 1, 1) := by decide +kernel
theorem dX8_layGains_111 : decode cX8_layGains 111 = .ok (.iload 4, 2) := by decide +kernel
theorem dX8_layGains_113 : decode cX8_layGains 113 = .ok (.iastore, 1) := by decide +kernel
theorem dX8_layGains_114 : decode cX8_layGains 114 = .ok (.iload 5, 2) := by decide +kernel
theorem dX8_layGains_116 : decode cX8_layGains 116 = .ok (.bipush (-9), 2) := by decide +kernel
theorem dX8_layGains_118 : decode cX8_layGains 118 = .ok (.if_icmp .eq 16, 3) := by decide +kernel
theorem dX8_layGains_121 : decode cX8_layGains 121 = .ok (.iload 7, 2) := by decide +kernel
theorem dX8_layGains_123 : decode cX8_layGains 123 = .ok (.ifCond .ne 11, 3) := by decide +kernel
theorem dX8_layGains_126 : decode cX8_layGains 126 = .ok (.aload_n 0, 1) := by decide +kernel
theorem dX8_layGains_127 : decode cX8_layGains 127 = .ok (.getfield 34, 3) := by decide +kernel
theorem dX8_layGains_130 : decode cX8_layGains 130 = .ok (.iload_n 2, 1) := by decide +kernel
theorem dX8_layGains_131 : decode cX8_layGains 131 = .ok (.iload 5, 2) := by decide +kernel
theorem dX8_layGains_133 : decode cX8_layGains 133 = .ok (.iastore, 1) := by decide +kernel
theorem dX8_layGains_134 : decode cX8_layGains 134 = .ok (.aload_n 0, 1) := by decide +kernel
theorem dX8_layGains_135 : decode cX8_layGains 135 = .ok (.aload_n 0, 1) := by decide +kernel
theorem dX8_layGains_136 : decode cX8_layGains 136 = .ok (.getfield 34, 3) := by decide +kernel
theorem dX8_layGains_139 : decode cX8_layGains 139 = .ok (.invokevirtual 154, 3) := by decide +kernel
theorem dX8_layGains_142 : decode cX8_layGains 142 = .ok (.istore 8, 2) := by decide +kernel
theorem dX8_layGains_144 : decode cX8_layGains 144 = .ok (.aload_n 0, 1) := by decide +kernel
theorem dX8_layGains_145 : decode cX8_layGains 145 = .ok (.getfield 56, 3) := by decide +kernel
theorem dX8_layGains_148 : decode cX8_layGains 148 = .ok (.iconst 2, 1) := by decide +kernel
theorem dX8_layGains_149 : decode cX8_layGains 149 = .ok (.iload_n 3, 1) := by decide +kernel
theorem dX8_layGains_150 : decode cX8_layGains 150 = .ok (.imul, 1) := by decide +kernel
theorem dX8_layGains_151 : decode cX8_layGains 151 = .ok (.iload 7, 2) := by decide +kernel
theorem dX8_layGains_153 : decode cX8_layGains 153 = .ok (.ifCond .eq 7, 3) := by decide +kernel
theorem dX8_layGains_156 : decode cX8_layGains 156 = .ok (.iconst (-1), 1) := by decide +kernel
theorem dX8_layGains_157 : decode cX8_layGains 157 = .ok (.goto 29, 3) := by decide +kernel
theorem dX8_layGains_160 : decode cX8_layGains 160 = .ok (.iload 8, 2) := by decide +kernel
theorem dX8_layGains_162 : decode cX8_layGains 162 = .ok (.iload_n 1, 1) := by decide +kernel
theorem dX8_layGains_163 : decode cX8_layGains 163 = .ok (.invokestatic 123, 3) := by decide +kernel
theorem dX8_layGains_166 : decode cX8_layGains 166 = .ok (.ifCond .eq 7, 3) := by decide +kernel
theorem dX8_layGains_169 : decode cX8_layGains 169 = .ok (.iconst 3, 1) := by decide +kernel
theorem dX8_layGains_170 : decode cX8_layGains 170 = .ok (.goto 16, 3) := by decide +kernel
theorem dX8_layGains_173 : decode cX8_layGains 173 = .ok (.iload 4, 2) := by decide +kernel
theorem dX8_layGains_175 : decode cX8_layGains 175 = .ok (.bipush (-9), 2) := by decide +kernel
theorem dX8_layGains_177 : decode cX8_layGains 177 = .ok (.if_icmp .eq 8, 3) := by decide +kernel
theorem dX8_layGains_180 : decode cX8_layGains 180 = .ok (.bipush (-2), 2) := by decide +kernel
theorem dX8_layGains_182 : decode cX8_layGains 182 = .ok (.goto 4, 3) := by decide +kernel
theorem dX8_layGains_185 : decode cX8_layGains 185 = .ok (.iconst 0, 1) := by decide +kernel
theorem dX8_layGains_186 : decode cX8_layGains 186 = .ok (.iastore, 1) := by decide +kernel
theorem dX8_layGains_187 : decode cX8_layGains 187 = .ok (.aload_n 0, 1) := by decide +kernel
theorem dX8_layGains_188 : decode cX8_layGains 188 = .ok (.getfield 56, 3) := by decide +kernel
theorem dX8_layGains_191 : decode cX8_layGains 191 = .ok (.iconst 2, 1) := by decide +kernel
theorem dX8_layGains_192 : decode cX8_layGains 192 = .ok (.iload_n 3, 1) := by decide +kernel
theorem dX8_layGains_193 : decode cX8_layGains 193 = .ok (.imul, 1) := by decide +kernel
theorem dX8_layGains_194 : decode cX8_layGains 194 = .ok (.iconst 1, 1) := by decide +kernel
theorem dX8_layGains_195 : decode cX8_layGains 195 = .ok (.iadd, 1) := by decide +kernel
theorem dX8_layGains_196 : decode cX8_layGains 196 = .ok (.iload 7, 2) := by decide +kernel
theorem dX8_layGains_198 : decode cX8_layGains 198 = .ok (.ifCond .eq 7, 3) := by decide +kernel
theorem dX8_layGains_201 : decode cX8_layGains 201 = .ok (.iconst (-1), 1) := by decide +kernel
theorem dX8_layGains_202 : decode cX8_layGains 202 = .ok (.goto 29, 3) := by decide +kernel
theorem dX8_layGains_205 : decode cX8_layGains 205 = .ok (.iload 8, 2) := by decide +kernel
theorem dX8_layGains_207 : decode cX8_layGains 207 = .ok (.iload_n 2, 1) := by decide +kernel
theorem dX8_layGains_208 : decode cX8_layGains 208 = .ok (.invokestatic 123, 3) := by decide +kernel
theorem dX8_layGains_211 : decode cX8_layGains 211 = .ok (.ifCond .eq 7, 3) := by decide +kernel
theorem dX8_layGains_214 : decode cX8_layGains 214 = .ok (.iconst 3, 1) := by decide +kernel
theorem dX8_layGains_215 : decode cX8_layGains 215 = .ok (.goto 16, 3) := by decide +kernel
theorem dX8_layGains_218 : decode cX8_layGains 218 = .ok (.iload 5, 2) := by decide +kernel
theorem dX8_layGains_220 : decode cX8_layGains 220 = .ok (.bipush (-9), 2) := by decide +kernel
theorem dX8_layGains_222 : decode cX8_layGains 222 = .ok (.if_icmp .eq 8, 3) := by decide +kernel
theorem dX8_layGains_225 : decode cX8_layGains 225 = .ok (.bipush (-2), 2) := by decide +kernel
theorem dX8_layGains_227 : decode cX8_layGains 227 = .ok (.goto 4, 3) := by decide +kernel
theorem dX8_layGains_230 : decode cX8_layGains 230 = .ok (.iconst 0, 1) := by decide +kernel
theorem dX8_layGains_231 : decode cX8_layGains 231 = .ok (.iastore, 1) := by decide +kernel
theorem dX8_layGains_232 : decode cX8_layGains 232 = .ok (.return_, 1) := by decide +kernel
theorem dX8_rests_0 : decode cX8_rests 0 = .ok (.aload_n 0, 1) := by decide +kernel
theorem dX8_rests_1 : decode cX8_rests 1 = .ok (.iconst 0, 1) := by decide +kernel
theorem dX8_rests_2 : decode cX8_rests 2 = .ok (.putfield 62, 3) := by decide +kernel
theorem dX8_rests_5 : decode cX8_rests 5 = .ok (.aload_n 0, 1) := by decide +kernel
theorem dX8_rests_6 : decode cX8_rests 6 = .ok (.invokevirtual 171, 3) := by decide +kernel
theorem dX8_rests_9 : decode cX8_rests 9 = .ok (.aload_n 0, 1) := by decide +kernel
theorem dX8_rests_10 : decode cX8_rests 10 = .ok (.iload_n 1, 1) := by decide +kernel
theorem dX8_rests_11 : decode cX8_rests 11 = .ok (.invokevirtual 178, 3) := by decide +kernel
theorem dX8_rests_14 : decode cX8_rests 14 = .ok (.ifCond .ne 11, 3) := by decide +kernel
theorem dX8_rests_17 : decode cX8_rests 17 = .ok (.aload_n 0, 1) := by decide +kernel
theorem dX8_rests_18 : decode cX8_rests 18 = .ok (.iload_n 2, 1) := by decide +kernel
theorem dX8_rests_19 : decode cX8_rests 19 = .ok (.invokevirtual 178, 3) := by decide +kernel
theorem dX8_rests_22 : decode cX8_rests 22 = .ok (.ifCond .eq 5, 3) := by decide +kernel
theorem dX8_rests_25 : decode cX8_rests 25 = .ok (.iconst (-1), 1) := by decide +kernel
theorem dX8_rests_26 : decode cX8_rests 26 = .ok (.ireturn, 1) := by decide +kernel
theorem dX8_rests_27 : decode cX8_rests 27 = .ok (.iload_n 1, 1) := by decide +kernel
theorem dX8_rests_28 : decode cX8_rests 28 = .ok (.iload_n 2, 1) := by decide +kernel
theorem dX8_rests_29 : decode cX8_rests 29 = .ok (.if_icmp .eq 13, 3) := by decide +kernel
theorem dX8_rests_32 : decode cX8_rests 32 = .ok (.iload_n 3, 1) := by decide +kernel
theorem dX8_rests_33 : decode cX8_rests 33 = .ok (.i2l, 1) := by decide +kernel
theorem dX8_rests_34 : decode cX8_rests 34 = .ok (.lconst 0, 1) := by decide +kernel
theorem dX8_rests_35 : decode cX8_rests 35 = .ok (.lconst 1, 1) := by decide +kernel
theorem dX8_rests_36 : decode cX8_rests 36 = .ok (.invokestatic 69, 3) := by decide +kernel
theorem dX8_rests_39 : decode cX8_rests 39 = .ok (.ifCond .ne 6, 3) := by decide +kernel
theorem dX8_rests_42 : decode cX8_rests 42 = .ok (.bipush (-2), 2) := by decide +kernel
theorem dX8_rests_44 : decode cX8_rests 44 = .ok (.ireturn, 1) := by decide +kernel
theorem dX8_rests_45 : decode cX8_rests 45 = .ok (.aload_n 0, 1) := by decide +kernel
theorem dX8_rests_46 : decode cX8_rests 46 = .ok (.getfield 31, 3) := by decide +kernel
theorem dX8_rests_49 : decode cX8_rests 49 = .ok (.iload_n 1, 1) := by decide +kernel
theorem dX8_rests_50 : decode cX8_rests 50 = .ok (.iaload, 1) := by decide +kernel
theorem dX8_rests_51 : decode cX8_rests 51 = .ok (.bipush 8, 2) := by decide +kernel
theorem dX8_rests_53 : decode cX8_rests 53 = .ok (.if_icmp .ne 14, 3) := by decide +kernel
theorem dX8_rests_56 : decode cX8_rests 56 = .ok (.aload_n 0, 1) := by decide +kernel
theorem dX8_rests_57 : decode cX8_rests 57 = .ok (.getfield 31, 3) := by decide +kernel
theorem dX8_rests_60 : decode cX8_rests 60 = .ok (.iload_n 2, 1) := by decide +kernel
theorem dX8_rests_61 : decode cX8_rests 61 = .ok (.iaload, 1) := by decide +kernel
theorem dX8_rests_62 : decode cX8_rests 62 = .ok (.bipush 8, 2) := by decide +kernel
theorem dX8_rests_64 : decode cX8_rests 64 = .ok (.if_icmp .eq 6, 3) := by decide +kernel
theorem dX8_rests_67 : decode cX8_rests 67 = .ok (.bipush (-3), 2) := by decide +kernel
theorem dX8_rests_69 : decode cX8_rests 69 = .ok (.ireturn, 1) := by decide +kernel
theorem dX8_rests_70 : decode cX8_rests 70 = .ok (.iconst 0, 1) := by decide +kernel
theorem dX8_rests_71 : decode cX8_rests 71 = .ok (.istore 4, 2) := by decide +kernel
theorem dX8_rests_73 : decode cX8_rests 73 = .ok (.iload 4, 2) := by decide +kernel
theorem dX8_rests_75 : decode cX8_rests 75 = .ok (.bipush 25, 2) := by decide +kernel
theorem dX8_rests_77 : decode cX8_rests 77 = .ok (.if_icmp .ge 17, 3) := by decide +kernel
theorem dX8_rests_80 : decode cX8_rests 80 = .ok (.aload_n 0, 1) := by decide +kernel
theorem dX8_rests_81 : decode cX8_rests 81 = .ok (.iload_n 1, 1) := by decide +kernel
theorem dX8_rests_82 : decode cX8_rests 82 = .ok (.iload_n 2, 1) := by decide +kernel
theorem dX8_rests_83 : decode cX8_rests 83 = .ok (.iload 4, 2) := by decide +kernel
theorem dX8_rests_85 : decode cX8_rests 85 = .ok (.invokevirtual 254, 3) := by decide +kernel
theorem dX8_rests_88 : decode cX8_rests 88 = .ok (.iinc 4 1, 3) := by decide +kernel
theorem dX8_rests_91 : decode cX8_rests 91 = .ok (.goto (-18), 3) := by decide +kernel
theorem dX8_rests_94 : decode cX8_rests 94 = .ok (.aload_n 0, 1) := by decide +kernel
theorem dX8_rests_95 : decode cX8_rests 95 = .ok (.iconst 0, 1) := by decide +kernel
theorem dX8_rests_96 : decode cX8_rests 96 = .ok (.putfield 258, 3) := by decide +kernel
theorem dX8_rests_99 : decode cX8_rests 99 = .ok (.aload_n 0, 1) := by decide +kernel
theorem dX8_rests_100 : decode cX8_rests 100 = .ok (.bipush (-9), 2) := by decide +kernel
theorem dX8_rests_102 : decode cX8_rests 102 = .ok (.putfield 261, 3) := by decide +kernel
theorem dX8_rests_105 : decode cX8_rests 105 = .ok (.iconst 0, 1) := by decide +kernel
theorem dX8_rests_106 : decode cX8_rests 106 = .ok (.istore 4, 2) := by decide +kernel
theorem dX8_rests_108 : decode cX8_rests 108 = .ok (.iload 4, 2) := by decide +kernel
theorem dX8_rests_110 : decode cX8_rests 110 = .ok (.bipush 25, 2) := by decide +kernel
theorem dX8_rests_112 : decode cX8_rests 112 = .ok (.if_icmp .ge 154, 3) := by decide +kernel
theorem dX8_rests_115 : decode cX8_rests 115 = .ok (.iconst 1, 1) := by decide +kernel
theorem dX8_rests_116 : decode cX8_rests 116 = .ok (.istore 5, 2) := by decide +kernel
theorem dX8_rests_118 : decode cX8_rests 118 = .ok (.iconst 0, 1) := by decide +kernel
theorem dX8_rests_119 : decode cX8_rests 119 = .ok (.istore 6, 2) := by decide +kernel
theorem dX8_rests_121 : decode cX8_rests 121 = .ok (.iload 6, 2) := by decide +kernel
theorem dX8_rests_123 : decode cX8_rests 123 = .ok (.iconst 5, 1) := by decide +kernel
theorem dX8_rests_124 : decode cX8_rests 124 = .ok (.if_icmp .ge 82, 3) := by decide +kernel
theorem dX8_rests_127 : decode cX8_rests 127 = .ok (.iload 5, 2) := by decide +kernel
theorem dX8_rests_129 : decode cX8_rests 129 = .ok (.ifCond .eq 68, 3) := by decide +kernel
theorem dX8_rests_132 : decode cX8_rests 132 = .ok (.aload_n 0, 1) := by decide +kernel
theorem dX8_rests_133 : decode cX8_rests 133 = .ok (.getfield 56, 3) := by decide +kernel
theorem dX8_rests_136 : decode cX8_rests 136 = .ok (.iconst 2, 1) := by decide +kernel
theorem dX8_rests_137 : decode cX8_rests 137 = .ok (.iconst 5, 1) := by decide +kernel
theorem dX8_rests_138 : decode cX8_rests 138 = .ok (.iload 6, 2) := by decide +kernel
theorem dX8_rests_140 : decode cX8_rests 140 = .ok (.imul, 1) := by decide +kernel
theorem dX8_rests_141 : decode cX8_rests 141 = .ok (.iload 4, 2) := by decide +kernel
theorem dX8_rests_143 : decode cX8_rests 143 = .ok (.iconst 5, 1) := by decide +kernel
theorem dX8_rests_144 : decode cX8_rests 144 = .ok (.irem, 1) := by decide +kernel
theorem dX8_rests_145 : decode cX8_rests 145 = .ok (.iadd, 1) := by decide +kernel
theorem dX8_rests_146 : decode cX8_rests 146 = .ok (.imul, 1) := by decide +kernel
theorem dX8_rests_147 : decode cX8_rests 147 = .ok (.iaload, 1) := by decide +kernel
theorem dX8_rests_148 : decode cX8_rests 148 = .ok (.aload_n 0, 1) := by decide +kernel
theorem dX8_rests_149 : decode cX8_rests 149 = .ok (.getfield 56, 3) := by decide +kernel
theorem dX8_rests_152 : decode cX8_rests 152 = .ok (.iconst 2, 1) := by decide +kernel
theorem dX8_rests_153 : decode cX8_rests 153 = .ok (.iload 4, 2) := by decide +kernel
theorem dX8_rests_155 : decode cX8_rests 155 = .ok (.imul, 1) := by decide +kernel
theorem dX8_rests_156 : decode cX8_rests 156 = .ok (.iaload, 1) := by decide +kernel
theorem dX8_rests_157 : decode cX8_rests 157 = .ok (.if_icmp .gt 40, 3) := by decide +kernel
theorem dX8_rests_160 : decode cX8_rests 160 = .ok (.aload_n 0, 1) := by decide +kernel
theorem dX8_rests_161 : decode cX8_rests 161 = .ok (.getfield 56, 3) := by decide +kernel
theorem dX8_rests_164 : decode cX8_rests 164 = .ok (.iconst 2, 1) := by decide +kernel
theorem dX8_rests_165 : decode cX8_rests 165 = .ok (.iload 4, 2) := by decide +kernel
theorem dX8_rests_167 : decode cX8_rests 167 = .ok (.iload 4, 2) := by decide +kernel
theorem dX8_rests_169 : decode cX8_rests 169 = .ok (.iconst 5, 1) := by decide +kernel
theorem dX8_rests_170 : decode cX8_rests 170 = .ok (.irem, 1) := by decide +kernel
theorem dX8_rests_171 : decode cX8_rests 171 = .ok (.isub, 1) := by decide +kernel
theorem dX8_rests_172 : decode cX8_rests 172 = .ok (.iload 6, 2) := by decide +kernel
theorem dX8_rests_174 : decode cX8_rests 174 = .ok (.iadd, 1) := by decide +kernel
theorem dX8_rests_175 : decode cX8_rests 175 = .ok (.imul, 1) := by decide +kernel
theorem dX8_rests_176 : decode cX8_rests 176 = .ok (.iconst 1, 1) := by decide +kernel
theorem dX8_rests_177 : decode cX8_rests 177 = .ok (.iadd, 1) := by decide +kernel
theorem dX8_rests_178 : decode cX8_rests 178 = .ok (.iaload, 1) := by decide +kernel
theorem dX8_rests_179 : decode cX8_rests 179 = .ok (.aload_n 0, 1) := by decide +kernel
theorem dX8_rests_180 : decode cX8_rests 180 = .ok (.getfield 56, 3) := by decide +kernel
theorem dX8_rests_183 : decode cX8_rests 183 = .ok (.iconst 2, 1) := by decide +kernel
theorem dX8_rests_184 : decode cX8_rests 184 = .ok (.iload 4, 2) := by decide +kernel
theorem dX8_rests_186 : decode cX8_rests 186 = .ok (.imul, 1) := by decide +kernel
theorem dX8_rests_187 : decode cX8_rests 187 = .ok (.iconst 1, 1) := by decide +kernel
theorem dX8_rests_188 : decode cX8_rests 188 = .ok (.iadd, 1) := by decide +kernel
theorem dX8_rests_189 : decode cX8_rests 189 = .ok (.iaload, 1) := by decide +kernel
theorem dX8_rests_190 : decode cX8_rests 190 = .ok (.if_icmp .gt 7, 3) := by decide +kernel
theorem dX8_rests_193 : decode cX8_rests 193 = .ok (.iconst 1, 1) := by decide +kernel
theorem dX8_rests_194 : decode cX8_rests 194 = .ok (.goto 4, 3) := by decide +kernel
theorem dX8_rests_197 : decode cX8_rests 197 = .ok (.iconst 0, 1) := by decide +kernel
theorem dX8_rests_198 : decode cX8_rests 198 = .ok (.istore 5, 2) := by decide +kernel
theorem dX8_rests_200 : decode cX8_rests 200 = .ok (.iinc 6 1, 3) := by decide +kernel
theorem dX8_rests_203 : decode cX8_rests 203 = .ok (.goto (-82), 3) := by decide +kernel
theorem dX8_rests_206 : decode cX8_rests 206 = .ok (.aload_n 0, 1) := by decide +kernel
theorem dX8_rests_207 : decode cX8_rests 207 = .ok (.iload 5, 2) := by decide +kernel
theorem dX8_rests_209 : decode cX8_rests 209 = .ok (.ifCond .eq 25, 3) := by decide +kernel
theorem dX8_rests_212 : decode cX8_rests 212 = .ok (.aload_n 0, 1) := by decide +kernel
theorem dX8_rests_213 : decode cX8_rests 213 = .ok (.getfield 258, 3) := by decide +kernel
theorem dX8_rests_216 : decode cX8_rests 216 = .ok (.ifCond .ne 18, 3) := by decide +kernel
theorem dX8_rests_219 : decode cX8_rests 219 = .ok (.bipush 10, 2) := by decide +kernel
theorem dX8_rests_221 : decode cX8_rests 221 = .ok (.iload 4, 2) := by decide +kernel
theorem dX8_rests_223 : decode cX8_rests 223 = .ok (.iconst 5, 1) := by decide +kernel
theorem dX8_rests_224 : decode cX8_rests 224 = .ok (.idiv, 1) := by decide +kernel
theorem dX8_rests_225 : decode cX8_rests 225 = .ok (.imul, 1) := by decide +kernel
theorem dX8_rests_226 : decode cX8_rests 226 = .ok (.iload 4, 2) := by decide +kernel
theorem dX8_rests_228 : decode cX8_rests 228 = .ok (.iconst 5, 1) := by decide +kernel
theorem dX8_rests_229 : decode cX8_rests 229 = .ok (.irem, 1) := by decide +kernel
theorem dX8_rests_230 : decode cX8_rests 230 = .ok (.iadd, 1) := by decide +kernel
theorem dX8_rests_231 : decode cX8_rests 231 = .ok (.goto 7, 3) := by decide +kernel
theorem dX8_rests_234 : decode cX8_rests 234 = .ok (.aload_n 0, 1) := by decide +kernel
theorem dX8_rests_235 : decode cX8_rests 235 = .ok (.getfield 261, 3) := by decide +kernel
theorem dX8_rests_238 : decode cX8_rests 238 = .ok (.putfield 261, 3) := by decide +kernel
theorem dX8_rests_241 : decode cX8_rests 241 = .ok (.aload_n 0, 1) := by decide +kernel
theorem dX8_rests_242 : decode cX8_rests 242 = .ok (.dup, 1) := by decide +kernel
theorem dX8_rests_243 : decode cX8_rests 243 = .ok (.getfield 258, 3) := by decide +kernel
theorem dX8_rests_246 : decode cX8_rests 246 = .ok (.iload 5, 2) := by decide +kernel
theorem dX8_rests_248 : decode cX8_rests 248 = .ok (.ifCond .eq 7, 3) := by decide +kernel
theorem dX8_rests_251 : decode cX8_rests 251 = .ok (.iconst 1, 1) := by decide +kernel
theorem dX8_rests_252 : decode cX8_rests 252 = .ok (.goto 4, 3) := by decide +kernel
theorem dX8_rests_255 : decode cX8_rests 255 = .ok (.iconst 0, 1) := by decide +kernel
theorem dX8_rests_256 : decode cX8_rests 256 = .ok (.iadd, 1) := by decide +kernel
theorem dX8_rests_257 : decode cX8_rests 257 = .ok (.putfield 258, 3) := by decide +kernel
theorem dX8_rests_260 : decode cX8_rests 260 = .ok (.iinc 4 1, 3) := by decide +kernel
theorem dX8_rests_263 : decode cX8_rests 263 = .ok (.goto (-155), 3) := by decide +kernel
theorem dX8_rests_266 : decode cX8_rests 266 = .ok (.iload_n 3, 1) := by decide +kernel
theorem dX8_rests_267 : decode cX8_rests 267 = .ok (.ifCond .ne 10, 3) := by decide +kernel
theorem dX8_rests_270 : decode cX8_rests 270 = .ok (.aload_n 0, 1) := by decide +kernel
theorem dX8_rests_271 : decode cX8_rests 271 = .ok (.getfield 258, 3) := by decide +kernel
theorem dX8_rests_274 : decode cX8_rests 274 = .ok (.goto 7, 3) := by decide +kernel
theorem dX8_rests_277 : decode cX8_rests 277 = .ok (.aload_n 0, 1) := by decide +kernel
theorem dX8_rests_278 : decode cX8_rests 278 = .ok (.getfield 261, 3) := by decide +kernel
theorem dX8_rests_281 : decode cX8_rests 281 = .ok (.ireturn, 1) := by decide +kernel
theorem dX8_ebb_0 : decode cX8_ebb 0 = .ok (.aload_n 0, 1) := by decide +kernel
theorem dX8_ebb_1 : decode cX8_ebb 1 = .ok (.iconst 0, 1) := by decide +kernel
theorem dX8_ebb_2 : decode cX8_ebb 2 = .ok (.putfield 62, 3) := by decide +kernel
theorem dX8_ebb_5 : decode cX8_ebb 5 = .ok (.aload_n 0, 1) := by decide +kernel
theorem dX8_ebb_6 : decode cX8_ebb 6 = .ok (.invokevirtual 171, 3) := by decide +kernel
theorem dX8_ebb_9 : decode cX8_ebb 9 = .ok (.iload_n 1, 1) := by decide +kernel
theorem dX8_ebb_10 : decode cX8_ebb 10 = .ok (.i2l, 1) := by decide +kernel
theorem dX8_ebb_11 : decode cX8_ebb 11 = .ok (.lconst 0, 1) := by decide +kernel
theorem dX8_ebb_12 : decode cX8_ebb 12 = .ok (.ldc2_w 264, 3) := by decide +kernel
theorem dX8_ebb_15 : decode cX8_ebb 15 = .ok (.invokestatic 69, 3) := by decide +kernel
theorem dX8_ebb_18 : decode cX8_ebb 18 = .ok (.ifCond .eq 15, 3) := by decide +kernel
theorem dX8_ebb_21 : decode cX8_ebb 21 = .ok (.iload_n 2, 1) := by decide +kernel
theorem dX8_ebb_22 : decode cX8_ebb 22 = .ok (.i2l, 1) := by decide +kernel
theorem dX8_ebb_23 : decode cX8_ebb 23 = .ok (.lconst 0, 1) := by decide +kernel
theorem dX8_ebb_24 : decode cX8_ebb 24 = .ok (.ldc2_w 266, 3) := by decide +kernel
theorem dX8_ebb_27 : decode cX8_ebb 27 = .ok (.invokestatic 69, 3) := by decide +kernel
theorem dX8_ebb_30 : decode cX8_ebb 30 = .ok (.ifCond .ne 6, 3) := by decide +kernel
theorem dX8_ebb_33 : decode cX8_ebb 33 = .ok (.bipush (-2), 2) := by decide +kernel
theorem dX8_ebb_35 : decode cX8_ebb 35 = .ok (.ireturn, 1) := by decide +kernel
theorem dX8_ebb_36 : decode cX8_ebb 36 = .ok (.iconst 0, 1) := by decide +kernel
theorem dX8_ebb_37 : decode cX8_ebb 37 = .ok (.istore 4, 2) := by decide +kernel
theorem dX8_ebb_39 : decode cX8_ebb 39 = .ok (.iconst 0, 1) := by decide +kernel
theorem dX8_ebb_40 : decode cX8_ebb 40 = .ok (.istore 5, 2) := by decide +kernel
theorem dX8_ebb_42 : decode cX8_ebb 42 = .ok (.iload 5, 2) := by decide +kernel
theorem dX8_ebb_44 : decode cX8_ebb 44 = .ok (.iconst 1, 1) := by decide +kernel
theorem dX8_ebb_45 : decode cX8_ebb 45 = .ok (.aload_n 0, 1) := by decide +kernel
theorem dX8_ebb_46 : decode cX8_ebb 46 = .ok (.getfield 66, 3) := by decide +kernel
theorem dX8_ebb_49 : decode cX8_ebb 49 = .ok (.ishl, 1) := by decide +kernel
theorem dX8_ebb_50 : decode cX8_ebb 50 = .ok (.if_icmp .ge 71, 3) := by decide +kernel
theorem dX8_ebb_53 : decode cX8_ebb 53 = .ok (.aload_n 0, 1) := by decide +kernel
theorem dX8_ebb_54 : decode cX8_ebb 54 = .ok (.invokevirtual 191, 3) := by decide +kernel
theorem dX8_ebb_57 : decode cX8_ebb 57 = .ok (.aload_n 0, 1) := by decide +kernel
theorem dX8_ebb_58 : decode cX8_ebb 58 = .ok (.iload 5, 2) := by decide +kernel
theorem dX8_ebb_60 : decode cX8_ebb 60 = .ok (.putfield 120, 3) := by decide +kernel
theorem dX8_ebb_63 : decode cX8_ebb 63 = .ok (.iload 5, 2) := by decide +kernel
theorem dX8_ebb_65 : decode cX8_ebb 65 = .ok (.invokestatic 142, 3) := by decide +kernel
theorem dX8_ebb_68 : decode cX8_ebb 68 = .ok (.istore 6, 2) := by decide +kernel
theorem dX8_ebb_70 : decode cX8_ebb 70 = .ok (.iload 4, 2) := by decide +kernel
theorem dX8_ebb_72 : decode cX8_ebb 72 = .ok (.aload_n 0, 1) := by decide +kernel
theorem dX8_ebb_73 : decode cX8_ebb 73 = .ok (.aload_n 0, 1) := by decide +kernel
theorem dX8_ebb_74 : decode cX8_ebb 74 = .ok (.getfield 34, 3) := by decide +kernel
theorem dX8_ebb_77 : decode cX8_ebb 77 = .ok (.invokevirtual 154, 3) := by decide +kernel
theorem dX8_ebb_80 : decode cX8_ebb 80 = .ok (.invokestatic 142, 3) := by decide +kernel
theorem dX8_ebb_83 : decode cX8_ebb 83 = .ok (.iload_n 1, 1) := by decide +kernel
theorem dX8_ebb_84 : decode cX8_ebb 84 = .ok (.if_icmp .lt 27, 3) := by decide +kernel
theorem dX8_ebb_87 : decode cX8_ebb 87 = .ok (.iload_n 2, 1) := by decide +kernel
theorem dX8_ebb_88 : decode cX8_ebb 88 = .ok (.iload 6, 2) := by decide +kernel
theorem dX8_ebb_90 : decode cX8_ebb 90 = .ok (.invokestatic 206, 3) := by decide +kernel
theorem dX8_ebb_93 : decode cX8_ebb 93 = .ok (.bipush 10, 2) := by decide +kernel
theorem dX8_ebb_95 : decode cX8_ebb 95 = .ok (.iload_n 2, 1) := by decide +kernel
theorem dX8_ebb_96 : decode cX8_ebb 96 = .ok (.isub, 1) := by decide +kernel
theorem dX8_ebb_97 : decode cX8_ebb 97 = .ok (.aload_n 0, 1) := by decide +kernel
theorem dX8_ebb_98 : decode cX8_ebb 98 = .ok (.getfield 66, 3) := by decide +kernel
theorem dX8_ebb_101 : decode cX8_ebb 101 = .ok (.iload 6, 2) := by decide +kernel
theorem dX8_ebb_103 : decode cX8_ebb 103 = .ok (.isub, 1) := by decide +kernel
theorem dX8_ebb_104 : decode cX8_ebb 104 = .ok (.invokestatic 206, 3) := by decide +kernel
theorem dX8_ebb_107 : decode cX8_ebb 107 = .ok (.imul, 1) := by decide +kernel
theorem dX8_ebb_108 : decode cX8_ebb 108 = .ok (.goto 4, 3) := by decide +kernel
theorem dX8_ebb_111 : decode cX8_ebb 111 = .ok (.iconst 0, 1) := by decide +kernel
theorem dX8_ebb_112 : decode cX8_ebb 112 = .ok (.iadd, 1) := by decide +kernel
theorem dX8_ebb_113 : decode cX8_ebb 113 = .ok (.istore 4, 2) := by decide +kernel
theorem dX8_ebb_115 : decode cX8_ebb 115 = .ok (.iinc 5 1, 3) := by decide +kernel
theorem dX8_ebb_118 : decode cX8_ebb 118 = .ok (.goto (-76), 3) := by decide +kernel
theorem dX8_ebb_121 : decode cX8_ebb 121 = .ok (.aload_n 0, 1) := by decide +kernel
theorem dX8_ebb_122 : decode cX8_ebb 122 = .ok (.iconst 0, 1) := by decide +kernel
theorem dX8_ebb_123 : decode cX8_ebb 123 = .ok (.putfield 120, 3) := by decide +kernel
theorem dX8_ebb_126 : decode cX8_ebb 126 = .ok (.iload 4, 2) := by decide +kernel
theorem dX8_ebb_128 : decode cX8_ebb 128 = .ok (.bipush 10, 2) := by decide +kernel
theorem dX8_ebb_130 : decode cX8_ebb 130 = .ok (.aload_n 0, 1) := by decide +kernel
theorem dX8_ebb_131 : decode cX8_ebb 131 = .ok (.getfield 66, 3) := by decide +kernel
theorem dX8_ebb_134 : decode cX8_ebb 134 = .ok (.invokestatic 206, 3) := by decide +kernel
theorem dX8_ebb_137 : decode cX8_ebb 137 = .ok (.iload_n 3, 1) := by decide +kernel
theorem dX8_ebb_138 : decode cX8_ebb 138 = .ok (.invokestatic 235, 3) := by decide +kernel
theorem dX8_ebb_141 : decode cX8_ebb 141 = .ok (.ireturn, 1) := by decide +kernel
theorem dX8_seed_0 : decode cX8_seed 0 = .ok (.aload_n 0, 1) := by decide +kernel
theorem dX8_seed_1 : decode cX8_seed 1 = .ok (.iconst 0, 1) := by decide +kernel
theorem dX8_seed_2 : decode cX8_seed 2 = .ok (.putfield 62, 3) := by decide +kernel
theorem dX8_seed_5 : decode cX8_seed 5 = .ok (.aload_n 0, 1) := by decide +kernel
theorem dX8_seed_6 : decode cX8_seed 6 = .ok (.getfield 268, 3) := by decide +kernel
theorem dX8_seed_9 : decode cX8_seed 9 = .ok (.lstore_n 3, 1) := by decide +kernel
theorem dX8_seed_10 : decode cX8_seed 10 = .ok (.aload_n 0, 1) := by decide +kernel
theorem dX8_seed_11 : decode cX8_seed 11 = .ok (.lload_n 1, 1) := by decide +kernel
theorem dX8_seed_12 : decode cX8_seed 12 = .ok (.putfield 268, 3) := by decide +kernel
theorem dX8_seed_15 : decode cX8_seed 15 = .ok (.lload_n 3, 1) := by decide +kernel
theorem dX8_seed_16 : decode cX8_seed 16 = .ok (.lreturn, 1) := by decide +kernel
theorem dX8_years_0 : decode cX8_years 0 = .ok (.aload_n 0, 1) := by decide +kernel
theorem dX8_years_1 : decode cX8_years 1 = .ok (.iconst 0, 1) := by decide +kernel
theorem dX8_years_2 : decode cX8_years 2 = .ok (.putfield 62, 3) := by decide +kernel
theorem dX8_years_5 : decode cX8_years 5 = .ok (.iload_n 1, 1) := by decide +kernel
theorem dX8_years_6 : decode cX8_years 6 = .ok (.i2l, 1) := by decide +kernel
theorem dX8_years_7 : decode cX8_years 7 = .ok (.lconst 1, 1) := by decide +kernel
theorem dX8_years_8 : decode cX8_years 8 = .ok (.ldc2_w 272, 3) := by decide +kernel
theorem dX8_years_11 : decode cX8_years 11 = .ok (.invokestatic 69, 3) := by decide +kernel
theorem dX8_years_14 : decode cX8_years 14 = .ok (.ifCond .ne 6, 3) := by decide +kernel
theorem dX8_years_17 : decode cX8_years 17 = .ok (.bipush (-2), 2) := by decide +kernel
theorem dX8_years_19 : decode cX8_years 19 = .ok (.ireturn, 1) := by decide +kernel
theorem dX8_years_20 : decode cX8_years 20 = .ok (.aload_n 0, 1) := by decide +kernel
theorem dX8_years_21 : decode cX8_years 21 = .ok (.iconst 0, 1) := by decide +kernel
theorem dX8_years_22 : decode cX8_years 22 = .ok (.invokevirtual 196, 3) := by decide +kernel
theorem dX8_years_25 : decode cX8_years 25 = .ok (.iconst 0, 1) := by decide +kernel
theorem dX8_years_26 : decode cX8_years 26 = .ok (.istore_n 2, 1) := by decide +kernel
theorem dX8_years_27 : decode cX8_years 27 = .ok (.iconst 0, 1) := by decide +kernel
theorem dX8_years_28 : decode cX8_years 28 = .ok (.istore_n 3, 1) := by decide +kernel
theorem dX8_years_29 : decode cX8_years 29 = .ok (.iload_n 3, 1) := by decide +kernel
theorem dX8_years_30 : decode cX8_years 30 = .ok (.iload_n 1, 1) := by decide +kernel
theorem dX8_years_31 : decode cX8_years 31 = .ok (.if_icmp .ge 102, 3) := by decide +kernel
theorem dX8_years_34 : decode cX8_years 34 = .ok (.aload_n 0, 1) := by decide +kernel
theorem dX8_years_35 : decode cX8_years 35 = .ok (.aload_n 0, 1) := by decide +kernel
theorem dX8_years_36 : decode cX8_years 36 = .ok (.getfield 268, 3) := by decide +kernel
theorem dX8_years_39 : decode cX8_years 39 = .ok (.ldc2_w 274, 3) := by decide +kernel
theorem dX8_years_42 : decode cX8_years 42 = .ok (.lmul, 1) := by decide +kernel
theorem dX8_years_43 : decode cX8_years 43 = .ok (.ldc2_w 276, 3) := by decide +kernel
theorem dX8_years_46 : decode cX8_years 46 = .ok (.ladd, 1) := by decide +kernel
theorem dX8_years_47 : decode cX8_years 47 = .ok (.putfield 268, 3) := by decide +kernel
theorem dX8_years_50 : decode cX8_years 50 = .ok (.aload_n 0, 1) := by decide +kernel
theorem dX8_years_51 : decode cX8_years 51 = .ok (.getfield 268, 3) := by decide +kernel
theorem dX8_years_54 : decode cX8_years 54 = .ok (.bipush 33, 2) := by decide +kernel
theorem dX8_years_56 : decode cX8_years 56 = .ok (.lushr, 1) := by decide +kernel
theorem dX8_years_57 : decode cX8_years 57 = .ok (.ldc2_w 278, 3) := by decide +kernel
theorem dX8_years_60 : decode cX8_years 60 = .ok (.lrem, 1) := by decide +kernel
theorem dX8_years_61 : decode cX8_years 61 = .ok (.l2i, 1) := by decide +kernel
theorem dX8_years_62 : decode cX8_years 62 = .ok (.istore 4, 2) := by decide +kernel
theorem dX8_years_64 : decode cX8_years 64 = .ok (.aload_n 0, 1) := by decide +kernel
theorem dX8_years_65 : decode cX8_years 65 = .ok (.iload 4, 2) := by decide +kernel
theorem dX8_years_67 : decode cX8_years 67 = .ok (.bipush 20, 2) := by decide +kernel
theorem dX8_years_69 : decode cX8_years 69 = .ok (.if_icmp .ge 21, 3) := by decide +kernel
theorem dX8_years_72 : decode cX8_years 72 = .ok (.bipush 100, 2) := by decide +kernel
theorem dX8_years_74 : decode cX8_years 74 = .ok (.bipush 10, 2) := by decide +kernel
theorem dX8_years_76 : decode cX8_years 76 = .ok (.iload 4, 2) := by decide +kernel
theorem dX8_years_78 : decode cX8_years 78 = .ok (.iconst 4, 1) := by decide +kernel
theorem dX8_years_79 : decode cX8_years 79 = .ok (.idiv, 1) := by decide +kernel
theorem dX8_years_80 : decode cX8_years 80 = .ok (.imul, 1) := by decide +kernel
theorem dX8_years_81 : decode cX8_years 81 = .ok (.iadd, 1) := by decide +kernel
theorem dX8_years_82 : decode cX8_years 82 = .ok (.iload 4, 2) := by decide +kernel
theorem dX8_years_84 : decode cX8_years 84 = .ok (.iconst 4, 1) := by decide +kernel
theorem dX8_years_85 : decode cX8_years 85 = .ok (.irem, 1) := by decide +kernel
theorem dX8_years_86 : decode cX8_years 86 = .ok (.iadd, 1) := by decide +kernel
theorem dX8_years_87 : decode cX8_years 87 = .ok (.goto 20, 3) := by decide +kernel
theorem dX8_years_90 : decode cX8_years 90 = .ok (.iload 4, 2) := by decide +kernel
theorem dX8_years_92 : decode cX8_years 92 = .ok (.bipush 25, 2) := by decide +kernel
theorem dX8_years_94 : decode cX8_years 94 = .ok (.if_icmp .ge 12, 3) := by decide +kernel
theorem dX8_years_97 : decode cX8_years 97 = .ok (.sipush 180, 3) := by decide +kernel
theorem dX8_years_100 : decode cX8_years 100 = .ok (.iload 4, 2) := by decide +kernel
theorem dX8_years_102 : decode cX8_years 102 = .ok (.iadd, 1) := by decide +kernel
theorem dX8_years_103 : decode cX8_years 103 = .ok (.goto 4, 3) := by decide +kernel
theorem dX8_years_106 : decode cX8_years 106 = .ok (.iconst 0, 1) := by decide +kernel
theorem dX8_years_107 : decode cX8_years 107 = .ok (.invokevirtual 226, 3) := by decide +kernel
theorem dX8_years_110 : decode cX8_years 110 = .ok (.pop, 1) := by decide +kernel
theorem dX8_years_111 : decode cX8_years 111 = .ok (.iload_n 2, 1) := by decide +kernel
theorem dX8_years_112 : decode cX8_years 112 = .ok (.aload_n 0, 1) := by decide +kernel
theorem dX8_years_113 : decode cX8_years 113 = .ok (.aload_n 0, 1) := by decide +kernel
theorem dX8_years_114 : decode cX8_years 114 = .ok (.getfield 34, 3) := by decide +kernel
theorem dX8_years_117 : decode cX8_years 117 = .ok (.bipush 9, 2) := by decide +kernel
theorem dX8_years_119 : decode cX8_years 119 = .ok (.invokevirtual 131, 3) := by decide +kernel
theorem dX8_years_122 : decode cX8_years 122 = .ok (.invokestatic 142, 3) := by decide +kernel
theorem dX8_years_125 : decode cX8_years 125 = .ok (.iadd, 1) := by decide +kernel
theorem dX8_years_126 : decode cX8_years 126 = .ok (.istore_n 2, 1) := by decide +kernel
theorem dX8_years_127 : decode cX8_years 127 = .ok (.iinc 3 1, 3) := by decide +kernel
theorem dX8_years_130 : decode cX8_years 130 = .ok (.goto (-101), 3) := by decide +kernel
theorem dX8_years_133 : decode cX8_years 133 = .ok (.iload_n 2, 1) := by decide +kernel
theorem dX8_years_134 : decode cX8_years 134 = .ok (.ireturn, 1) := by decide +kernel
theorem dX8_keep_0 : decode cX8_keep 0 = .ok (.aload_n 0, 1) := by decide +kernel
theorem dX8_keep_1 : decode cX8_keep 1 = .ok (.iconst 0, 1) := by decide +kernel
theorem dX8_keep_2 : decode cX8_keep 2 = .ok (.putfield 62, 3) := by decide +kernel
theorem dX8_keep_5 : decode cX8_keep 5 = .ok (.iload_n 1, 1) := by decide +kernel
theorem dX8_keep_6 : decode cX8_keep 6 = .ok (.i2l, 1) := by decide +kernel
theorem dX8_keep_7 : decode cX8_keep 7 = .ok (.lconst 0, 1) := by decide +kernel
theorem dX8_keep_8 : decode cX8_keep 8 = .ok (.lconst 1, 1) := by decide +kernel
theorem dX8_keep_9 : decode cX8_keep 9 = .ok (.invokestatic 69, 3) := by decide +kernel
theorem dX8_keep_12 : decode cX8_keep 12 = .ok (.ifCond .ne 5, 3) := by decide +kernel
theorem dX8_keep_15 : decode cX8_keep 15 = .ok (.iconst (-1), 1) := by decide +kernel
theorem dX8_keep_16 : decode cX8_keep 16 = .ok (.ireturn, 1) := by decide +kernel
theorem dX8_keep_17 : decode cX8_keep 17 = .ok (.aload_n 0, 1) := by decide +kernel
theorem dX8_keep_18 : decode cX8_keep 18 = .ok (.getfield 43, 3) := by decide +kernel
theorem dX8_keep_21 : decode cX8_keep 21 = .ok (.iload_n 1, 1) := by decide +kernel
theorem dX8_keep_22 : decode cX8_keep 22 = .ok (.iconst 1, 1) := by decide +kernel
theorem dX8_keep_23 : decode cX8_keep 23 = .ok (.bastore, 1) := by decide +kernel
theorem dX8_keep_24 : decode cX8_keep 24 = .ok (.iconst 0, 1) := by decide +kernel
theorem dX8_keep_25 : decode cX8_keep 25 = .ok (.istore_n 2, 1) := by decide +kernel
theorem dX8_keep_26 : decode cX8_keep 26 = .ok (.iload_n 2, 1) := by decide +kernel
theorem dX8_keep_27 : decode cX8_keep 27 = .ok (.bipush 24, 2) := by decide +kernel
theorem dX8_keep_29 : decode cX8_keep 29 = .ok (.if_icmp .ge 26, 3) := by decide +kernel
theorem dX8_keep_32 : decode cX8_keep 32 = .ok (.aload_n 0, 1) := by decide +kernel
theorem dX8_keep_33 : decode cX8_keep 33 = .ok (.getfield 40, 3) := by decide +kernel
theorem dX8_keep_36 : decode cX8_keep 36 = .ok (.bipush 24, 2) := by decide +kernel
theorem dX8_keep_38 : decode cX8_keep 38 = .ok (.iload_n 1, 1) := by decide +kernel
theorem dX8_keep_39 : decode cX8_keep 39 = .ok (.imul, 1) := by decide +kernel
theorem dX8_keep_40 : decode cX8_keep 40 = .ok (.iload_n 2, 1) := by decide +kernel
theorem dX8_keep_41 : decode cX8_keep 41 = .ok (.iadd, 1) := by decide +kernel
theorem dX8_keep_42 : decode cX8_keep 42 = .ok (.aload_n 0, 1) := by decide +kernel
theorem dX8_keep_43 : decode cX8_keep 43 = .ok (.getfield 31, 3) := by decide +kernel
theorem dX8_keep_46 : decode cX8_keep 46 = .ok (.iload_n 2, 1) := by decide +kernel
theorem dX8_keep_47 : decode cX8_keep 47 = .ok (.iaload, 1) := by decide +kernel
theorem dX8_keep_48 : decode cX8_keep 48 = .ok (.iastore, 1) := by decide +kernel
theorem dX8_keep_49 : decode cX8_keep 49 = .ok (.iinc 2 1, 3) := by decide +kernel
theorem dX8_keep_52 : decode cX8_keep 52 = .ok (.goto (-26), 3) := by decide +kernel
theorem dX8_keep_55 : decode cX8_keep 55 = .ok (.aload_n 0, 1) := by decide +kernel
theorem dX8_keep_56 : decode cX8_keep 56 = .ok (.getfield 31, 3) := by decide +kernel
theorem dX8_keep_59 : decode cX8_keep 59 = .ok (.bipush 23, 2) := by decide +kernel
theorem dX8_keep_61 : decode cX8_keep 61 = .ok (.iaload, 1) := by decide +kernel
theorem dX8_keep_62 : decode cX8_keep 62 = .ok (.ireturn, 1) := by decide +kernel
theorem dX8_again_0 : decode cX8_again 0 = .ok (.aload_n 0, 1) := by decide +kernel
theorem dX8_again_1 : decode cX8_again 1 = .ok (.iconst 0, 1) := by decide +kernel
theorem dX8_again_2 : decode cX8_again 2 = .ok (.putfield 62, 3) := by decide +kernel
theorem dX8_again_5 : decode cX8_again 5 = .ok (.iload_n 1, 1) := by decide +kernel
theorem dX8_again_6 : decode cX8_again 6 = .ok (.i2l, 1) := by decide +kernel
theorem dX8_again_7 : decode cX8_again 7 = .ok (.lconst 0, 1) := by decide +kernel
theorem dX8_again_8 : decode cX8_again 8 = .ok (.lconst 1, 1) := by decide +kernel
theorem dX8_again_9 : decode cX8_again 9 = .ok (.invokestatic 69, 3) := by decide +kernel
theorem dX8_again_12 : decode cX8_again 12 = .ok (.ifCond .ne 5, 3) := by decide +kernel
theorem dX8_again_15 : decode cX8_again 15 = .ok (.iconst (-1), 1) := by decide +kernel
theorem dX8_again_16 : decode cX8_again 16 = .ok (.ireturn, 1) := by decide +kernel
theorem dX8_again_17 : decode cX8_again 17 = .ok (.aload_n 0, 1) := by decide +kernel
theorem dX8_again_18 : decode cX8_again 18 = .ok (.getfield 43, 3) := by decide +kernel
theorem dX8_again_21 : decode cX8_again 21 = .ok (.iload_n 1, 1) := by decide +kernel
theorem dX8_again_22 : decode cX8_again 22 = .ok (.baload, 1) := by decide +kernel
theorem dX8_again_23 : decode cX8_again 23 = .ok (.ifCond .ne 6, 3) := by decide +kernel
theorem dX8_again_26 : decode cX8_again 26 = .ok (.bipush (-3), 2) := by decide +kernel
theorem dX8_again_28 : decode cX8_again 28 = .ok (.ireturn, 1) := by decide +kernel
theorem dX8_again_29 : decode cX8_again 29 = .ok (.iconst 0, 1) := by decide +kernel
theorem dX8_again_30 : decode cX8_again 30 = .ok (.istore_n 2, 1) := by decide +kernel
theorem dX8_again_31 : decode cX8_again 31 = .ok (.iload_n 2, 1) := by decide +kernel
theorem dX8_again_32 : decode cX8_again 32 = .ok (.bipush 24, 2) := by decide +kernel
theorem dX8_again_34 : decode cX8_again 34 = .ok (.if_icmp .ge 26, 3) := by decide +kernel
theorem dX8_again_37 : decode cX8_again 37 = .ok (.aload_n 0, 1) := by decide +kernel
theorem dX8_again_38 : decode cX8_again 38 = .ok (.getfield 31, 3) := by decide +kernel
theorem dX8_again_41 : decode cX8_again 41 = .ok (.iload_n 2, 1) := by decide +kernel
theorem dX8_again_42 : decode cX8_again 42 = .ok (.aload_n 0, 1) := by decide +kernel
theorem dX8_again_43 : decode cX8_again 43 = .ok (.getfield 40, 3) := by decide +kernel
theorem dX8_again_46 : decode cX8_again 46 = .ok (.bipush 24, 2) := by decide +kernel
theorem dX8_again_48 : decode cX8_again 48 = .ok (.iload_n 1, 1) := by decide +kernel
theorem dX8_again_49 : decode cX8_again 49 = .ok (.imul, 1) := by decide +kernel
theorem dX8_again_50 : decode cX8_again 50 = .ok (.iload_n 2, 1) := by decide +kernel
theorem dX8_again_51 : decode cX8_again 51 = .ok (.iadd, 1) := by decide +kernel
theorem dX8_again_52 : decode cX8_again 52 = .ok (.iaload, 1) := by decide +kernel
theorem dX8_again_53 : decode cX8_again 53 = .ok (.iastore, 1) := by decide +kernel
theorem dX8_again_54 : decode cX8_again 54 = .ok (.iinc 2 1, 3) := by decide +kernel
theorem dX8_again_57 : decode cX8_again 57 = .ok (.goto (-26), 3) := by decide +kernel
theorem dX8_again_60 : decode cX8_again 60 = .ok (.aload_n 0, 1) := by decide +kernel
theorem dX8_again_61 : decode cX8_again 61 = .ok (.iconst 0, 1) := by decide +kernel
theorem dX8_again_62 : decode cX8_again 62 = .ok (.putfield 117, 3) := by decide +kernel
theorem dX8_again_65 : decode cX8_again 65 = .ok (.aload_n 0, 1) := by decide +kernel
theorem dX8_again_66 : decode cX8_again 66 = .ok (.getfield 31, 3) := by decide +kernel
theorem dX8_again_69 : decode cX8_again 69 = .ok (.bipush 23, 2) := by decide +kernel
theorem dX8_again_71 : decode cX8_again 71 = .ok (.iaload, 1) := by decide +kernel
theorem dX8_again_72 : decode cX8_again 72 = .ok (.ireturn, 1) := by decide +kernel
end
section
theorem dX0_remember_0 : decode cX0_remember 0 = .ok (.aload_n 0, 1) := by decide +kernel
theorem dX0_remember_1 : decode cX0_remember 1 = .ok (.getfield 11, 3) := by decide +kernel
theorem dX0_remember_4 : decode cX0_remember 4 = .ok (.aload_n 0, 1) := by decide +kernel
theorem dX0_remember_5 : decode cX0_remember 5 = .ok (.getfield 17, 3) := by decide +kernel
theorem dX0_remember_8 : decode cX0_remember 8 = .ok (.aaload, 1) := by decide +kernel
theorem dX0_remember_9 : decode cX0_remember 9 = .ok (.aload_n 1, 1) := by decide +kernel
theorem dX0_remember_10 : decode cX0_remember 10 = .ok (.invokevirtual 27, 3) := by decide +kernel
theorem dX0_remember_13 : decode cX0_remember 13 = .ok (.aload_n 0, 1) := by decide +kernel
theorem dX0_remember_14 : decode cX0_remember 14 = .ok (.aload_n 0, 1) := by decide +kernel
theorem dX0_remember_15 : decode cX0_remember 15 = .ok (.getfield 17, 3) := by decide +kernel
theorem dX0_remember_18 : decode cX0_remember 18 = .ok (.iconst 1, 1) := by decide +kernel
theorem dX0_remember_19 : decode cX0_remember 19 = .ok (.iadd, 1) := by decide +kernel
theorem dX0_remember_20 : decode cX0_remember 20 = .ok (.bipush 14, 2) := by decide +kernel
theorem dX0_remember_22 : decode cX0_remember 22 = .ok (.irem, 1) := by decide +kernel
theorem dX0_remember_23 : decode cX0_remember 23 = .ok (.putfield 17, 3) := by decide +kernel
theorem dX0_remember_26 : decode cX0_remember 26 = .ok (.aload_n 0, 1) := by decide +kernel
theorem dX0_remember_27 : decode cX0_remember 27 = .ok (.bipush 14, 2) := by decide +kernel
theorem dX0_remember_29 : decode cX0_remember 29 = .ok (.aload_n 0, 1) := by decide +kernel
theorem dX0_remember_30 : decode cX0_remember 30 = .ok (.getfield 21, 3) := by decide +kernel
theorem dX0_remember_33 : decode cX0_remember 33 = .ok (.iconst 1, 1) := by decide +kernel
theorem dX0_remember_34 : decode cX0_remember 34 = .ok (.iadd, 1) := by decide +kernel
theorem dX0_remember_35 : decode cX0_remember 35 = .ok (.invokestatic 31, 3) := by decide +kernel
theorem dX0_remember_38 : decode cX0_remember 38 = .ok (.putfield 21, 3) := by decide +kernel
theorem dX0_remember_41 : decode cX0_remember 41 = .ok (.return_, 1) := by decide +kernel
theorem dX0_takeBack_0 : decode cX0_takeBack 0 = .ok (.aload_n 0, 1) := by decide +kernel
theorem dX0_takeBack_1 : decode cX0_takeBack 1 = .ok (.aload_n 0, 1) := by decide +kernel
theorem dX0_takeBack_2 : decode cX0_takeBack 2 = .ok (.getfield 17, 3) := by decide +kernel
theorem dX0_takeBack_5 : decode cX0_takeBack 5 = .ok (.bipush 14, 2) := by decide +kernel
theorem dX0_takeBack_7 : decode cX0_takeBack 7 = .ok (.iadd, 1) := by decide +kernel
theorem dX0_takeBack_8 : decode cX0_takeBack 8 = .ok (.iconst 1, 1) := by decide +kernel
theorem dX0_takeBack_9 : decode cX0_takeBack 9 = .ok (.isub, 1) := by decide +kernel
theorem dX0_takeBack_10 : decode cX0_takeBack 10 = .ok (.bipush 14, 2) := by decide +kernel
theorem dX0_takeBack_12 : decode cX0_takeBack 12 = .ok (.irem, 1) := by decide +kernel
theorem dX0_takeBack_13 : decode cX0_takeBack 13 = .ok (.putfield 17, 3) := by decide +kernel
theorem dX0_takeBack_16 : decode cX0_takeBack 16 = .ok (.aload_n 0, 1) := by decide +kernel
theorem dX0_takeBack_17 : decode cX0_takeBack 17 = .ok (.dup, 1) := by decide +kernel
theorem dX0_takeBack_18 : decode cX0_takeBack 18 = .ok (.getfield 21, 3) := by decide +kernel
theorem dX0_takeBack_21 : decode cX0_takeBack 21 = .ok (.iconst 1, 1) := by decide +kernel
theorem dX0_takeBack_22 : decode cX0_takeBack 22 = .ok (.isub, 1) := by decide +kernel
theorem dX0_takeBack_23 : decode cX0_takeBack 23 = .ok (.putfield 21, 3) := by decide +kernel
theorem dX0_takeBack_26 : decode cX0_takeBack 26 = .ok (.aload_n 1, 1) := by decide +kernel
theorem dX0_takeBack_27 : decode cX0_takeBack 27 = .ok (.aload_n 0, 1) := by decide +kernel
theorem dX0_takeBack_28 : decode cX0_takeBack 28 = .ok (.getfield 11, 3) := by decide +kernel
theorem dX0_takeBack_31 : decode cX0_takeBack 31 = .ok (.aload_n 0, 1) := by decide +kernel
theorem dX0_takeBack_32 : decode cX0_takeBack 32 = .ok (.getfield 17, 3) := by decide +kernel
theorem dX0_takeBack_35 : decode cX0_takeBack 35 = .ok (.aaload, 1) := by decide +kernel
theorem dX0_takeBack_36 : decode cX0_takeBack 36 = .ok (.invokevirtual 27, 3) := by decide +kernel
theorem dX0_takeBack_39 : decode cX0_takeBack 39 = .ok (.return_, 1) := by decide +kernel
theorem dX0_forget_0 : decode cX0_forget 0 = .ok (.aload_n 0, 1) := by decide +kernel
theorem dX0_forget_1 : decode cX0_forget 1 = .ok (.iconst 0, 1) := by decide +kernel
theorem dX0_forget_2 : decode cX0_forget 2 = .ok (.putfield 21, 3) := by decide +kernel
theorem dX0_forget_5 : decode cX0_forget 5 = .ok (.return_, 1) := by decide +kernel
theorem dX1_isContent_0 : decode cX1_isContent 0 = .ok (.aload_n 0, 1) := by decide +kernel
theorem dX1_isContent_1 : decode cX1_isContent 1 = .ok (.iload_n 1, 1) := by decide +kernel
theorem dX1_isContent_2 : decode cX1_isContent 2 = .ok (.iload_n 2, 1) := by decide +kernel
theorem dX1_isContent_3 : decode cX1_isContent 3 = .ok (.iload_n 3, 1) := by decide +kernel
theorem dX1_isContent_4 : decode cX1_isContent 4 = .ok (.iload 4, 2) := by decide +kernel
theorem dX1_isContent_6 : decode cX1_isContent 6 = .ok (.invokevirtual 19, 3) := by decide +kernel
theorem dX1_isContent_9 : decode cX1_isContent 9 = .ok (.istore 5, 2) := by decide +kernel
theorem dX1_isContent_11 : decode cX1_isContent 11 = .ok (.iconst 0, 1) := by decide +kernel
theorem dX1_isContent_12 : decode cX1_isContent 12 = .ok (.istore 6, 2) := by decide +kernel
theorem dX1_isContent_14 : decode cX1_isContent 14 = .ok (.iload 6, 2) := by decide +kernel
theorem dX1_isContent_16 : decode cX1_isContent 16 = .ok (.iconst 5, 1) := by decide +kernel
theorem dX1_isContent_17 : decode cX1_isContent 17 = .ok (.if_icmp .ge 26, 3) := by decide +kernel
theorem dX1_isContent_20 : decode cX1_isContent 20 = .ok (.aload_n 0, 1) := by decide +kernel
theorem dX1_isContent_21 : decode cX1_isContent 21 = .ok (.iload_n 1, 1) := by decide +kernel
theorem dX1_isContent_22 : decode cX1_isContent 22 = .ok (.iload 6, 2) := by decide +kernel
theorem dX1_isContent_24 : decode cX1_isContent 24 = .ok (.iload_n 3, 1) := by decide +kernel
theorem dX1_isContent_25 : decode cX1_isContent 25 = .ok (.iload 4, 2) := by decide +kernel
theorem dX1_isContent_27 : decode cX1_isContent 27 = .ok (.invokevirtual 19, 3) := by decide +kernel
theorem dX1_isContent_30 : decode cX1_isContent 30 = .ok (.iload 5, 2) := by decide +kernel
theorem dX1_isContent_32 : decode cX1_isContent 32 = .ok (.if_icmp .le 5, 3) := by decide +kernel
theorem dX1_isContent_35 : decode cX1_isContent 35 = .ok (.iconst 0, 1) := by decide +kernel
theorem dX1_isContent_36 : decode cX1_isContent 36 = .ok (.ireturn, 1) := by decide +kernel
theorem dX1_isContent_37 : decode cX1_isContent 37 = .ok (.iinc 6 1, 3) := by decide +kernel
theorem dX1_isContent_40 : decode cX1_isContent 40 = .ok (.goto (-26), 3) := by decide +kernel
theorem dX1_isContent_43 : decode cX1_isContent 43 = .ok (.iconst 1, 1) := by decide +kernel
theorem dX1_isContent_44 : decode cX1_isContent 44 = .ok (.ireturn, 1) := by decide +kernel
theorem dX1_gain_0 : decode cX1_gain 0 = .ok (.aload_n 0, 1) := by decide +kernel
theorem dX1_gain_1 : decode cX1_gain 1 = .ok (.iload_n 1, 1) := by decide +kernel
theorem dX1_gain_2 : decode cX1_gain 2 = .ok (.iload_n 2, 1) := by decide +kernel
theorem dX1_gain_3 : decode cX1_gain 3 = .ok (.invokevirtual 23, 3) := by decide +kernel
theorem dX1_gain_6 : decode cX1_gain 6 = .ok (.istore 5, 2) := by decide +kernel
theorem dX1_gain_8 : decode cX1_gain 8 = .ok (.aload_n 0, 1) := by decide +kernel
theorem dX1_gain_9 : decode cX1_gain 9 = .ok (.iload_n 3, 1) := by decide +kernel
theorem dX1_gain_10 : decode cX1_gain 10 = .ok (.iload 4, 2) := by decide +kernel
theorem dX1_gain_12 : decode cX1_gain 12 = .ok (.invokevirtual 23, 3) := by decide +kernel
theorem dX1_gain_15 : decode cX1_gain 15 = .ok (.istore 6, 2) := by decide +kernel
theorem dX1_gain_17 : decode cX1_gain 17 = .ok (.iload 5, 2) := by decide +kernel
theorem dX1_gain_19 : decode cX1_gain 19 = .ok (.iconst 4, 1) := by decide +kernel
theorem dX1_gain_20 : decode cX1_gain 20 = .ok (.if_icmp .ne 5, 3) := by decide +kernel
theorem dX1_gain_23 : decode cX1_gain 23 = .ok (.iconst 0, 1) := by decide +kernel
theorem dX1_gain_24 : decode cX1_gain 24 = .ok (.ireturn, 1) := by decide +kernel
theorem dX1_gain_25 : decode cX1_gain 25 = .ok (.iload 5, 2) := by decide +kernel
theorem dX1_gain_27 : decode cX1_gain 27 = .ok (.iload 6, 2) := by decide +kernel
theorem dX1_gain_29 : decode cX1_gain 29 = .ok (.if_icmp .ne 18, 3) := by decide +kernel
theorem dX1_gain_32 : decode cX1_gain 32 = .ok (.aload_n 0, 1) := by decide +kernel
theorem dX1_gain_33 : decode cX1_gain 33 = .ok (.getfield 15, 3) := by decide +kernel
theorem dX1_gain_36 : decode cX1_gain 36 = .ok (.iload 5, 2) := by decide +kernel
theorem dX1_gain_38 : decode cX1_gain 38 = .ok (.invokevirtual 27, 3) := by decide +kernel
theorem dX1_gain_41 : decode cX1_gain 41 = .ok (.iconst 1, 1) := by decide +kernel
theorem dX1_gain_42 : decode cX1_gain 42 = .ok (.if_icmp .ne 5, 3) := by decide +kernel
theorem dX1_gain_45 : decode cX1_gain 45 = .ok (.iconst (-1), 1) := by decide +kernel
theorem dX1_gain_46 : decode cX1_gain 46 = .ok (.ireturn, 1) := by decide +kernel
theorem dX1_gain_47 : decode cX1_gain 47 = .ok (.aload_n 0, 1) := by decide +kernel
theorem dX1_gain_48 : decode cX1_gain 48 = .ok (.getfield 15, 3) := by decide +kernel
theorem dX1_gain_51 : decode cX1_gain 51 = .ok (.getfield 33, 3) := by decide +kernel
theorem dX1_gain_54 : decode cX1_gain 54 = .ok (.iload_n 1, 1) := by decide +kernel
theorem dX1_gain_55 : decode cX1_gain 55 = .ok (.iload 5, 2) := by decide +kernel
theorem dX1_gain_57 : decode cX1_gain 57 = .ok (.iastore, 1) := by decide +kernel
theorem dX1_gain_58 : decode cX1_gain 58 = .ok (.aload_n 0, 1) := by decide +kernel
theorem dX1_gain_59 : decode cX1_gain 59 = .ok (.getfield 15, 3) := by decide +kernel
theorem dX1_gain_62 : decode cX1_gain 62 = .ok (.getfield 33, 3) := by decide +kernel
theorem dX1_gain_65 : decode cX1_gain 65 = .ok (.iload_n 3, 1) := by decide +kernel
theorem dX1_gain_66 : decode cX1_gain 66 = .ok (.iload 6, 2) := by decide +kernel
theorem dX1_gain_68 : decode cX1_gain 68 = .ok (.iconst 4, 1) := by decide +kernel
theorem dX1_gain_69 : decode cX1_gain 69 = .ok (.if_icmp .ne 8, 3) := by decide +kernel
theorem dX1_gain_72 : decode cX1_gain 72 = .ok (.bipush 8, 2) := by decide +kernel
theorem dX1_gain_74 : decode cX1_gain 74 = .ok (.goto 5, 3) := by decide +kernel
theorem dX1_gain_77 : decode cX1_gain 77 = .ok (.iload 6, 2) := by decide +kernel
theorem dX1_gain_79 : decode cX1_gain 79 = .ok (.iastore, 1) := by decide +kernel
theorem dX1_gain_80 : decode cX1_gain 80 = .ok (.aload_n 0, 1) := by decide +kernel
theorem dX1_gain_81 : decode cX1_gain 81 = .ok (.getfield 15, 3) := by decide +kernel
theorem dX1_gain_84 : decode cX1_gain 84 = .ok (.iload 5, 2) := by decide +kernel
theorem dX1_gain_86 : decode cX1_gain 86 = .ok (.aload_n 0, 1) := by decide +kernel
theorem dX1_gain_87 : decode cX1_gain 87 = .ok (.getfield 15, 3) := by decide +kernel
theorem dX1_gain_90 : decode cX1_gain 90 = .ok (.invokevirtual 37, 3) := by decide +kernel
theorem dX1_gain_93 : decode cX1_gain 93 = .ok (.invokevirtual 41, 3) := by decide +kernel
theorem dX1_gain_96 : decode cX1_gain 96 = .ok (.istore 7, 2) := by decide +kernel
theorem dX1_gain_98 : decode cX1_gain 98 = .ok (.aload_n 0, 1) := by decide +kernel
theorem dX1_gain_99 : decode cX1_gain 99 = .ok (.getfield 15, 3) := by decide +kernel
theorem dX1_gain_102 : decode cX1_gain 102 = .ok (.getfield 33, 3) := by decide +kernel
theorem dX1_gain_105 : decode cX1_gain 105 = .ok (.iload_n 1, 1) := by decide +kernel
theorem dX1_gain_106 : decode cX1_gain 106 = .ok (.bipush 8, 2) := by decide +kernel
theorem dX1_gain_108 : decode cX1_gain 108 = .ok (.iastore, 1) := by decide +kernel
theorem dX1_gain_109 : decode cX1_gain 109 = .ok (.aload_n 0, 1) := by decide +kernel
theorem dX1_gain_110 : decode cX1_gain 110 = .ok (.getfield 15, 3) := by decide +kernel
theorem dX1_gain_113 : decode cX1_gain 113 = .ok (.getfield 33, 3) := by decide +kernel
theorem dX1_gain_116 : decode cX1_gain 116 = .ok (.iload_n 3, 1) := by decide +kernel
theorem dX1_gain_117 : decode cX1_gain 117 = .ok (.bipush 8, 2) := by decide +kernel
theorem dX1_gain_119 : decode cX1_gain 119 = .ok (.iastore, 1) := by decide +kernel
theorem dX1_gain_120 : decode cX1_gain 120 = .ok (.iload 7, 2) := by decide +kernel
theorem dX1_gain_122 : decode cX1_gain 122 = .ok (.iload_n 1, 1) := by decide +kernel
theorem dX1_gain_123 : decode cX1_gain 123 = .ok (.ishr, 1) := by decide +kernel
theorem dX1_gain_124 : decode cX1_gain 124 = .ok (.iconst 1, 1) := by decide +kernel
theorem dX1_gain_125 : decode cX1_gain 125 = .ok (.iand, 1) := by decide +kernel
theorem dX1_gain_126 : decode cX1_gain 126 = .ok (.iconst 1, 1) := by decide +kernel
theorem dX1_gain_127 : decode cX1_gain 127 = .ok (.if_icmp .ne 7, 3) := by decide +kernel
theorem dX1_gain_130 : decode cX1_gain 130 = .ok (.iconst 3, 1) := by decide +kernel
theorem dX1_gain_131 : decode cX1_gain 131 = .ok (.goto 5, 3) := by decide +kernel
theorem dX1_gain_134 : decode cX1_gain 134 = .ok (.bipush (-2), 2) := by decide +kernel
theorem dX1_gain_136 : decode cX1_gain 136 = .ok (.ireturn, 1) := by decide +kernel
theorem dX1_berthChosen_0 : decode cX1_berthChosen 0 = .ok (.aload_n 0, 1) := by decide +kernel
theorem dX1_berthChosen_1 : decode cX1_berthChosen 1 = .ok (.getfield 9, 3) := by decide +kernel
theorem dX1_berthChosen_4 : decode cX1_berthChosen 4 = .ok (.iload_n 2, 1) := by decide +kernel
theorem dX1_berthChosen_5 : decode cX1_berthChosen 5 = .ok (.invokevirtual 44, 3) := by decide +kernel
theorem dX1_berthChosen_8 : decode cX1_berthChosen 8 = .ok (.ifCond .eq 19, 3) := by decide +kernel
theorem dX1_berthChosen_11 : decode cX1_berthChosen 11 = .ok (.aload_n 0, 1) := by decide +kernel
theorem dX1_berthChosen_12 : decode cX1_berthChosen 12 = .ok (.getfield 15, 3) := by decide +kernel
theorem dX1_berthChosen_15 : decode cX1_berthChosen 15 = .ok (.iload_n 1, 1) := by decide +kernel
theorem dX1_berthChosen_16 : decode cX1_berthChosen 16 = .ok (.iload_n 2, 1) := by decide +kernel
theorem dX1_berthChosen_17 : decode cX1_berthChosen 17 = .ok (.invokevirtual 50, 3) := by decide +kernel
theorem dX1_berthChosen_20 : decode cX1_berthChosen 20 = .ok (.ifCond .eq 7, 3) := by decide +kernel
theorem dX1_berthChosen_23 : decode cX1_berthChosen 23 = .ok (.iload_n 2, 1) := by decide +kernel
theorem dX1_berthChosen_24 : decode cX1_berthChosen 24 = .ok (.goto 4, 3) := by decide +kernel
theorem dX1_berthChosen_27 : decode cX1_berthChosen 27 = .ok (.iconst 4, 1) := by decide +kernel
theorem dX1_berthChosen_28 : decode cX1_berthChosen 28 = .ok (.ireturn, 1) := by decide +kernel
theorem dX3_search_0 : decode cX3_search 0 = .ok (.aload_n 0, 1) := by decide +kernel
theorem dX3_search_1 : decode cX3_search 1 = .ok (.getfield 25, 3) := by decide +kernel
theorem dX3_search_4 : decode cX3_search 4 = .ok (.aload_n 1, 1) := by decide +kernel
theorem dX3_search_5 : decode cX3_search 5 = .ok (.invokevirtual 29, 3) := by decide +kernel
theorem dX3_search_8 : decode cX3_search 8 = .ok (.aload_n 0, 1) := by decide +kernel
theorem dX3_search_9 : decode cX3_search 9 = .ok (.iload_n 2, 1) := by decide +kernel
theorem dX3_search_10 : decode cX3_search 10 = .ok (.putfield 9, 3) := by decide +kernel
theorem dX3_search_13 : decode cX3_search 13 = .ok (.aload_n 0, 1) := by decide +kernel
theorem dX3_search_14 : decode cX3_search 14 = .ok (.bipush (-9), 2) := by decide +kernel
theorem dX3_search_16 : decode cX3_search 16 = .ok (.putfield 15, 3) := by decide +kernel
theorem dX3_search_19 : decode cX3_search 19 = .ok (.aload_n 0, 1) := by decide +kernel
theorem dX3_search_20 : decode cX3_search 20 = .ok (.iconst 0, 1) := by decide +kernel
theorem dX3_search_21 : decode cX3_search 21 = .ok (.putfield 18, 3) := by decide +kernel
theorem dX3_search_24 : decode cX3_search 24 = .ok (.aload_n 0, 1) := by decide +kernel
theorem dX3_search_25 : decode cX3_search 25 = .ok (.iconst 0, 1) := by decide +kernel
theorem dX3_search_26 : decode cX3_search 26 = .ok (.iconst 0, 1) := by decide +kernel
theorem dX3_search_27 : decode cX3_search 27 = .ok (.aload_n 0, 1) := by decide +kernel
theorem dX3_search_28 : decode cX3_search 28 = .ok (.getfield 21, 3) := by decide +kernel
theorem dX3_search_31 : decode cX3_search 31 = .ok (.getfield 35, 3) := by decide +kernel
theorem dX3_search_34 : decode cX3_search 34 = .ok (.aload_n 1, 1) := by decide +kernel
theorem dX3_search_35 : decode cX3_search 35 = .ok (.bipush 9, 2) := by decide +kernel
theorem dX3_search_37 : decode cX3_search 37 = .ok (.invokevirtual 40, 3) := by decide +kernel
theorem dX3_search_40 : decode cX3_search 40 = .ok (.isub, 1) := by decide +kernel
theorem dX3_search_41 : decode cX3_search 41 = .ok (.invokevirtual 44, 3) := by decide +kernel
theorem dX3_search_44 : decode cX3_search 44 = .ok (.aload_n 0, 1) := by decide +kernel
theorem dX3_search_45 : decode cX3_search 45 = .ok (.getfield 15, 3) := by decide +kernel
theorem dX3_search_48 : decode cX3_search 48 = .ok (.ireturn, 1) := by decide +kernel
theorem dX3_choose_0 : decode cX3_choose 0 = .ok (.iload_n 3, 1) := by decide +kernel
theorem dX3_choose_1 : decode cX3_choose 1 = .ok (.aload_n 0, 1) := by decide +kernel
theorem dX3_choose_2 : decode cX3_choose 2 = .ok (.getfield 15, 3) := by decide +kernel
theorem dX3_choose_5 : decode cX3_choose 5 = .ok (.if_icmp .gt 4, 3) := by decide +kernel
theorem dX3_choose_8 : decode cX3_choose 8 = .ok (.return_, 1) := by decide +kernel
theorem dX3_choose_9 : decode cX3_choose 9 = .ok (.iload_n 1, 1) := by decide +kernel
theorem dX3_choose_10 : decode cX3_choose 10 = .ok (.aload_n 0, 1) := by decide +kernel
theorem dX3_choose_11 : decode cX3_choose 11 = .ok (.getfield 21, 3) := by decide +kernel
theorem dX3_choose_14 : decode cX3_choose 14 = .ok (.getfield 35, 3) := by decide +kernel
theorem dX3_choose_17 : decode cX3_choose 17 = .ok (.if_icmp .lt 9, 3) := by decide +kernel
theorem dX3_choose_20 : decode cX3_choose 20 = .ok (.aload_n 0, 1) := by decide +kernel
theorem dX3_choose_21 : decode cX3_choose 21 = .ok (.iload_n 2, 1) := by decide +kernel
theorem dX3_choose_22 : decode cX3_choose 22 = .ok (.invokevirtual 48, 3) := by decide +kernel
theorem dX3_choose_25 : decode cX3_choose 25 = .ok (.return_, 1) := by decide +kernel
theorem dX3_choose_26 : decode cX3_choose 26 = .ok (.aload_n 0, 1) := by decide +kernel
theorem dX3_choose_27 : decode cX3_choose 27 = .ok (.getfield 25, 3) := by decide +kernel
theorem dX3_choose_30 : decode cX3_choose 30 = .ok (.iload_n 1, 1) := by decide +kernel
theorem dX3_choose_31 : decode cX3_choose 31 = .ok (.invokevirtual 52, 3) := by decide +kernel
theorem dX3_choose_34 : decode cX3_choose 34 = .ok (.ifCond .ne 13, 3) := by decide +kernel
theorem dX3_choose_37 : decode cX3_choose 37 = .ok (.aload_n 0, 1) := by decide +kernel
theorem dX3_choose_38 : decode cX3_choose 38 = .ok (.iload_n 1, 1) := by decide +kernel
theorem dX3_choose_39 : decode cX3_choose 39 = .ok (.iconst 1, 1) := by decide +kernel
theorem dX3_choose_40 : decode cX3_choose 40 = .ok (.iadd, 1) := by decide +kernel
theorem dX3_choose_41 : decode cX3_choose 41 = .ok (.iload_n 2, 1) := by decide +kernel
theorem dX3_choose_42 : decode cX3_choose 42 = .ok (.iload_n 3, 1) := by decide +kernel
theorem dX3_choose_43 : decode cX3_choose 43 = .ok (.invokevirtual 44, 3) := by decide +kernel
theorem dX3_choose_46 : decode cX3_choose 46 = .ok (.return_, 1) := by decide +kernel
theorem dX3_choose_47 : decode cX3_choose 47 = .ok (.aload_n 0, 1) := by decide +kernel
theorem dX3_choose_48 : decode cX3_choose 48 = .ok (.iload_n 1, 1) := by decide +kernel
theorem dX3_choose_49 : decode cX3_choose 49 = .ok (.iconst 1, 1) := by decide +kernel
theorem dX3_choose_50 : decode cX3_choose 50 = .ok (.iadd, 1) := by decide +kernel
theorem dX3_choose_51 : decode cX3_choose 51 = .ok (.bipush 10, 2) := by decide +kernel
theorem dX3_choose_53 : decode cX3_choose 53 = .ok (.iload_n 2, 1) := by decide +kernel
theorem dX3_choose_54 : decode cX3_choose 54 = .ok (.imul, 1) := by decide +kernel
theorem dX3_choose_55 : decode cX3_choose 55 = .ok (.iload_n 3, 1) := by decide +kernel
theorem dX3_choose_56 : decode cX3_choose 56 = .ok (.iconst 1, 1) := by decide +kernel
theorem dX3_choose_57 : decode cX3_choose 57 = .ok (.isub, 1) := by decide +kernel
theorem dX3_choose_58 : decode cX3_choose 58 = .ok (.invokevirtual 44, 3) := by decide +kernel
theorem dX3_choose_61 : decode cX3_choose 61 = .ok (.iconst 0, 1) := by decide +kernel
theorem dX3_choose_62 : decode cX3_choose 62 = .ok (.istore 4, 2) := by decide +kernel
theorem dX3_choose_64 : decode cX3_choose 64 = .ok (.iload 4, 2) := by decide +kernel
theorem dX3_choose_66 : decode cX3_choose 66 = .ok (.aload_n 0, 1) := by decide +kernel
theorem dX3_choose_67 : decode cX3_choose 67 = .ok (.getfield 21, 3) := by decide +kernel
theorem dX3_choose_70 : decode cX3_choose 70 = .ok (.getfield 56, 3) := by decide +kernel
theorem dX3_choose_73 : decode cX3_choose 73 = .ok (.if_icmp .ge 58, 3) := by decide +kernel
theorem dX3_choose_76 : decode cX3_choose 76 = .ok (.aload_n 0, 1) := by decide +kernel
theorem dX3_choose_77 : decode cX3_choose 77 = .ok (.iload_n 1, 1) := by decide +kernel
theorem dX3_choose_78 : decode cX3_choose 78 = .ok (.iload 4, 2) := by decide +kernel
theorem dX3_choose_80 : decode cX3_choose 80 = .ok (.invokevirtual 59, 3) := by decide +kernel
theorem dX3_choose_83 : decode cX3_choose 83 = .ok (.ifCond .eq 42, 3) := by decide +kernel
theorem dX3_choose_86 : decode cX3_choose 86 = .ok (.aload_n 0, 1) := by decide +kernel
theorem dX3_choose_87 : decode cX3_choose 87 = .ok (.getfield 25, 3) := by decide +kernel
theorem dX3_choose_90 : decode cX3_choose 90 = .ok (.getfield 63, 3) := by decide +kernel
theorem dX3_choose_93 : decode cX3_choose 93 = .ok (.iload_n 1, 1) := by decide +kernel
theorem dX3_choose_94 : decode cX3_choose 94 = .ok (.iload 4, 2) := by decide +kernel
theorem dX3_choose_96 : decode cX3_choose 96 = .ok (.iastore, 1) := by decide +kernel
theorem dX3_choose_97 : decode cX3_choose 97 = .ok (.aload_n 0, 1) := by decide +kernel
theorem dX3_choose_98 : decode cX3_choose 98 = .ok (.iload_n 1, 1) := by decide +kernel
theorem dX3_choose_99 : decode cX3_choose 99 = .ok (.iconst 1, 1) := by decide +kernel
theorem dX3_choose_100 : decode cX3_choose 100 = .ok (.iadd, 1) := by decide +kernel
theorem dX3_choose_101 : decode cX3_choose 101 = .ok (.bipush 10, 2) := by decide +kernel
theorem dX3_choose_103 : decode cX3_choose 103 = .ok (.iload_n 2, 1) := by decide +kernel
theorem dX3_choose_104 : decode cX3_choose 104 = .ok (.imul, 1) := by decide +kernel
theorem dX3_choose_105 : decode cX3_choose 105 = .ok (.iload 4, 2) := by decide +kernel
theorem dX3_choose_107 : decode cX3_choose 107 = .ok (.iadd, 1) := by decide +kernel
theorem dX3_choose_108 : decode cX3_choose 108 = .ok (.iconst 1, 1) := by decide +kernel
theorem dX3_choose_109 : decode cX3_choose 109 = .ok (.iadd, 1) := by decide +kernel
theorem dX3_choose_110 : decode cX3_choose 110 = .ok (.iload_n 3, 1) := by decide +kernel
theorem dX3_choose_111 : decode cX3_choose 111 = .ok (.invokevirtual 44, 3) := by decide +kernel
theorem dX3_choose_114 : decode cX3_choose 114 = .ok (.aload_n 0, 1) := by decide +kernel
theorem dX3_choose_115 : decode cX3_choose 115 = .ok (.getfield 25, 3) := by decide +kernel
theorem dX3_choose_118 : decode cX3_choose 118 = .ok (.getfield 63, 3) := by decide +kernel
theorem dX3_choose_121 : decode cX3_choose 121 = .ok (.iload_n 1, 1) := by decide +kernel
theorem dX3_choose_122 : decode cX3_choose 122 = .ok (.bipush 8, 2) := by decide +kernel
theorem dX3_choose_124 : decode cX3_choose 124 = .ok (.iastore, 1) := by decide +kernel
theorem dX3_choose_125 : decode cX3_choose 125 = .ok (.iinc 4 1, 3) := by decide +kernel
theorem dX3_choose_128 : decode cX3_choose 128 = .ok (.goto (-64), 3) := by decide +kernel
theorem dX3_choose_131 : decode cX3_choose 131 = .ok (.return_, 1) := by decide +kernel
theorem dX3_isWorthwhile_0 : decode cX3_isWorthwhile 0 = .ok (.aload_n 0, 1) := by decide +kernel
theorem dX3_isWorthwhile_1 : decode cX3_isWorthwhile 1 = .ok (.getfield 9, 3) := by decide +kernel
theorem dX3_isWorthwhile_4 : decode cX3_isWorthwhile 4 = .ok (.iload_n 2, 1) := by decide +kernel
theorem dX3_isWorthwhile_5 : decode cX3_isWorthwhile 5 = .ok (.ishr, 1) := by decide +kernel
theorem dX3_isWorthwhile_6 : decode cX3_isWorthwhile 6 = .ok (.iconst 1, 1) := by decide +kernel
theorem dX3_isWorthwhile_7 : decode cX3_isWorthwhile 7 = .ok (.iand, 1) := by decide +kernel
theorem dX3_isWorthwhile_8 : decode cX3_isWorthwhile 8 = .ok (.iconst 1, 1) := by decide +kernel
theorem dX3_isWorthwhile_9 : decode cX3_isWorthwhile 9 = .ok (.if_icmp .ne 39, 3) := by decide +kernel
theorem dX3_isWorthwhile_12 : decode cX3_isWorthwhile 12 = .ok (.aload_n 0, 1) := by decide +kernel
theorem dX3_isWorthwhile_13 : decode cX3_isWorthwhile 13 = .ok (.getfield 25, 3) := by decide +kernel
theorem dX3_isWorthwhile_16 : decode cX3_isWorthwhile 16 = .ok (.iload_n 1, 1) := by decide +kernel
theorem dX3_isWorthwhile_17 : decode cX3_isWorthwhile 17 = .ok (.iload_n 2, 1) := by decide +kernel
theorem dX3_isWorthwhile_18 : decode cX3_isWorthwhile 18 = .ok (.invokevirtual 67, 3) := by decide +kernel
theorem dX3_isWorthwhile_21 : decode cX3_isWorthwhile 21 = .ok (.ifCond .eq 27, 3) := by decide +kernel
theorem dX3_isWorthwhile_24 : decode cX3_isWorthwhile 24 = .ok (.aload_n 0, 1) := by decide +kernel
theorem dX3_isWorthwhile_25 : decode cX3_isWorthwhile 25 = .ok (.getfield 25, 3) := by decide +kernel
theorem dX3_isWorthwhile_28 : decode cX3_isWorthwhile 28 = .ok (.getfield 70, 3) := by decide +kernel
theorem dX3_isWorthwhile_31 : decode cX3_isWorthwhile 31 = .ok (.iload_n 1, 1) := by decide +kernel
theorem dX3_isWorthwhile_32 : decode cX3_isWorthwhile 32 = .ok (.iaload, 1) := by decide +kernel
theorem dX3_isWorthwhile_33 : decode cX3_isWorthwhile 33 = .ok (.aload_n 0, 1) := by decide +kernel
theorem dX3_isWorthwhile_34 : decode cX3_isWorthwhile 34 = .ok (.getfield 25, 3) := by decide +kernel
theorem dX3_isWorthwhile_37 : decode cX3_isWorthwhile 37 = .ok (.iload_n 2, 1) := by decide +kernel
theorem dX3_isWorthwhile_38 : decode cX3_isWorthwhile 38 = .ok (.invokevirtual 73, 3) := by decide +kernel
theorem dX3_isWorthwhile_41 : decode cX3_isWorthwhile 41 = .ok (.if_icmp .gt 7, 3) := by decide +kernel
theorem dX3_isWorthwhile_44 : decode cX3_isWorthwhile 44 = .ok (.iconst 1, 1) := by decide +kernel
theorem dX3_isWorthwhile_45 : decode cX3_isWorthwhile 45 = .ok (.goto 4, 3) := by decide +kernel
theorem dX3_isWorthwhile_48 : decode cX3_isWorthwhile 48 = .ok (.iconst 0, 1) := by decide +kernel
theorem dX3_isWorthwhile_49 : decode cX3_isWorthwhile 49 = .ok (.ireturn, 1) := by decide +kernel
theorem dX3_weigh_0 : decode cX3_weigh 0 = .ok (.iconst 0, 1) := by decide +kernel
theorem dX3_weigh_1 : decode cX3_weigh 1 = .ok (.istore_n 2, 1) := by decide +kernel
theorem dX3_weigh_2 : decode cX3_weigh 2 = .ok (.iconst 0, 1) := by decide +kernel
theorem dX3_weigh_3 : decode cX3_weigh 3 = .ok (.istore_n 3, 1) := by decide +kernel
theorem dX3_weigh_4 : decode cX3_weigh 4 = .ok (.iload_n 3, 1) := by decide +kernel
theorem dX3_weigh_5 : decode cX3_weigh 5 = .ok (.aload_n 0, 1) := by decide +kernel
theorem dX3_weigh_6 : decode cX3_weigh 6 = .ok (.getfield 21, 3) := by decide +kernel
theorem dX3_weigh_9 : decode cX3_weigh 9 = .ok (.getfield 56, 3) := by decide +kernel
theorem dX3_weigh_12 : decode cX3_weigh 12 = .ok (.if_icmp .ge 42, 3) := by decide +kernel
theorem dX3_weigh_15 : decode cX3_weigh 15 = .ok (.aload_n 0, 1) := by decide +kernel
theorem dX3_weigh_16 : decode cX3_weigh 16 = .ok (.getfield 9, 3) := by decide +kernel
theorem dX3_weigh_19 : decode cX3_weigh 19 = .ok (.iload_n 3, 1) := by decide +kernel
theorem dX3_weigh_20 : decode cX3_weigh 20 = .ok (.ishr, 1) := by decide +kernel
theorem dX3_weigh_21 : decode cX3_weigh 21 = .ok (.iconst 1, 1) := by decide +kernel
theorem dX3_weigh_22 : decode cX3_weigh 22 = .ok (.iand, 1) := by decide +kernel
theorem dX3_weigh_23 : decode cX3_weigh 23 = .ok (.iconst 1, 1) := by decide +kernel
theorem dX3_weigh_24 : decode cX3_weigh 24 = .ok (.if_icmp .ne 24, 3) := by decide +kernel
theorem dX3_weigh_27 : decode cX3_weigh 27 = .ok (.iload_n 2, 1) := by decide +kernel
theorem dX3_weigh_28 : decode cX3_weigh 28 = .ok (.aload_n 0, 1) := by decide +kernel
theorem dX3_weigh_29 : decode cX3_weigh 29 = .ok (.getfield 25, 3) := by decide +kernel
theorem dX3_weigh_32 : decode cX3_weigh 32 = .ok (.iload_n 3, 1) := by decide +kernel
theorem dX3_weigh_33 : decode cX3_weigh 33 = .ok (.aload_n 0, 1) := by decide +kernel
theorem dX3_weigh_34 : decode cX3_weigh 34 = .ok (.getfield 25, 3) := by decide +kernel
theorem dX3_weigh_37 : decode cX3_weigh 37 = .ok (.invokevirtual 76, 3) := by decide +kernel
theorem dX3_weigh_40 : decode cX3_weigh 40 = .ok (.invokevirtual 80, 3) := by decide +kernel
theorem dX3_weigh_43 : decode cX3_weigh 43 = .ok (.invokestatic 84, 3) := by decide +kernel
theorem dX3_weigh_46 : decode cX3_weigh 46 = .ok (.iadd, 1) := by decide +kernel
theorem dX3_weigh_47 : decode cX3_weigh 47 = .ok (.istore_n 2, 1) := by decide +kernel
theorem dX3_weigh_48 : decode cX3_weigh 48 = .ok (.iinc 3 1, 3) := by decide +kernel
theorem dX3_weigh_51 : decode cX3_weigh 51 = .ok (.goto (-47), 3) := by decide +kernel
theorem dX3_weigh_54 : decode cX3_weigh 54 = .ok (.iload_n 2, 1) := by decide +kernel
theorem dX3_weigh_55 : decode cX3_weigh 55 = .ok (.aload_n 0, 1) := by decide +kernel
theorem dX3_weigh_56 : decode cX3_weigh 56 = .ok (.getfield 15, 3) := by decide +kernel
theorem dX3_weigh_59 : decode cX3_weigh 59 = .ok (.if_icmp .le 13, 3) := by decide +kernel
theorem dX3_weigh_62 : decode cX3_weigh 62 = .ok (.aload_n 0, 1) := by decide +kernel
theorem dX3_weigh_63 : decode cX3_weigh 63 = .ok (.iload_n 2, 1) := by decide +kernel
theorem dX3_weigh_64 : decode cX3_weigh 64 = .ok (.putfield 15, 3) := by decide +kernel
theorem dX3_weigh_67 : decode cX3_weigh 67 = .ok (.aload_n 0, 1) := by decide +kernel
theorem dX3_weigh_68 : decode cX3_weigh 68 = .ok (.iload_n 1, 1) := by decide +kernel
theorem dX3_weigh_69 : decode cX3_weigh 69 = .ok (.putfield 18, 3) := by decide +kernel
theorem dX3_weigh_72 : decode cX3_weigh 72 = .ok (.return_, 1) := by decide +kernel
theorem dX4_add_0 : decode cX4_add 0 = .ok (.aload_n 0, 1) := by decide +kernel
theorem dX4_add_1 : decode cX4_add 1 = .ok (.getfield 22, 3) := by decide +kernel
theorem dX4_add_4 : decode cX4_add 4 = .ok (.bipush 6, 2) := by decide +kernel
theorem dX4_add_6 : decode cX4_add 6 = .ok (.if_icmp .lt 6, 3) := by decide +kernel
theorem dX4_add_9 : decode cX4_add 9 = .ok (.bipush (-4), 2) := by decide +kernel
theorem dX4_add_11 : decode cX4_add 11 = .ok (.ireturn, 1) := by decide +kernel
theorem dX4_add_12 : decode cX4_add 12 = .ok (.aload_n 0, 1) := by decide +kernel
theorem dX4_add_13 : decode cX4_add 13 = .ok (.getfield 9, 3) := by decide +kernel
theorem dX4_add_16 : decode cX4_add 16 = .ok (.aload_n 0, 1) := by decide +kernel
theorem dX4_add_17 : decode cX4_add 17 = .ok (.getfield 22, 3) := by decide +kernel
theorem dX4_add_20 : decode cX4_add 20 = .ok (.iload_n 1, 1) := by decide +kernel
theorem dX4_add_21 : decode cX4_add 21 = .ok (.iastore, 1) := by decide +kernel
theorem dX4_add_22 : decode cX4_add 22 = .ok (.aload_n 0, 1) := by decide +kernel
theorem dX4_add_23 : decode cX4_add 23 = .ok (.getfield 15, 3) := by decide +kernel
theorem dX4_add_26 : decode cX4_add 26 = .ok (.aload_n 0, 1) := by decide +kernel
theorem dX4_add_27 : decode cX4_add 27 = .ok (.getfield 22, 3) := by decide +kernel
theorem dX4_add_30 : decode cX4_add 30 = .ok (.iload_n 2, 1) := by decide +kernel
theorem dX4_add_31 : decode cX4_add 31 = .ok (.iastore, 1) := by decide +kernel
theorem dX4_add_32 : decode cX4_add 32 = .ok (.aload_n 0, 1) := by decide +kernel
theorem dX4_add_33 : decode cX4_add 33 = .ok (.getfield 18, 3) := by decide +kernel
theorem dX4_add_36 : decode cX4_add 36 = .ok (.aload_n 0, 1) := by decide +kernel
theorem dX4_add_37 : decode cX4_add 37 = .ok (.getfield 22, 3) := by decide +kernel
theorem dX4_add_40 : decode cX4_add 40 = .ok (.iload_n 3, 1) := by decide +kernel
theorem dX4_add_41 : decode cX4_add 41 = .ok (.bastore, 1) := by decide +kernel
theorem dX4_add_42 : decode cX4_add 42 = .ok (.aload_n 0, 1) := by decide +kernel
theorem dX4_add_43 : decode cX4_add 43 = .ok (.dup, 1) := by decide +kernel
theorem dX4_add_44 : decode cX4_add 44 = .ok (.getfield 22, 3) := by decide +kernel
theorem dX4_add_47 : decode cX4_add 47 = .ok (.iconst 1, 1) := by decide +kernel
theorem dX4_add_48 : decode cX4_add 48 = .ok (.iadd, 1) := by decide +kernel
theorem dX4_add_49 : decode cX4_add 49 = .ok (.putfield 22, 3) := by decide +kernel
theorem dX4_add_52 : decode cX4_add 52 = .ok (.aload_n 0, 1) := by decide +kernel
theorem dX4_add_53 : decode cX4_add 53 = .ok (.getfield 22, 3) := by decide +kernel
theorem dX4_add_56 : decode cX4_add 56 = .ok (.ireturn, 1) := by decide +kernel
theorem dX4_empty_0 : decode cX4_empty 0 = .ok (.aload_n 0, 1) := by decide +kernel
theorem dX4_empty_1 : decode cX4_empty 1 = .ok (.getfield 22, 3) := by decide +kernel
theorem dX4_empty_4 : decode cX4_empty 4 = .ok (.istore_n 1, 1) := by decide +kernel
theorem dX4_empty_5 : decode cX4_empty 5 = .ok (.aload_n 0, 1) := by decide +kernel
theorem dX4_empty_6 : decode cX4_empty 6 = .ok (.iconst 0, 1) := by decide +kernel
theorem dX4_empty_7 : decode cX4_empty 7 = .ok (.putfield 22, 3) := by decide +kernel
theorem dX4_empty_10 : decode cX4_empty 10 = .ok (.iload_n 1, 1) := by decide +kernel
theorem dX4_empty_11 : decode cX4_empty 11 = .ok (.ireturn, 1) := by decide +kernel
theorem dX4_agrees_0 : decode cX4_agrees 0 = .ok (.iconst 0, 1) := by decide +kernel
theorem dX4_agrees_1 : decode cX4_agrees 1 = .ok (.istore 4, 2) := by decide +kernel
theorem dX4_agrees_3 : decode cX4_agrees 3 = .ok (.iload 4, 2) := by decide +kernel
theorem dX4_agrees_5 : decode cX4_agrees 5 = .ok (.aload_n 0, 1) := by decide +kernel
theorem dX4_agrees_6 : decode cX4_agrees 6 = .ok (.getfield 22, 3) := by decide +kernel
theorem dX4_agrees_9 : decode cX4_agrees 9 = .ok (.if_icmp .ge 79, 3) := by decide +kernel
theorem dX4_agrees_12 : decode cX4_agrees 12 = .ok (.iload_n 1, 1) := by decide +kernel
theorem dX4_agrees_13 : decode cX4_agrees 13 = .ok (.iconst 3, 1) := by decide +kernel
theorem dX4_agrees_14 : decode cX4_agrees 14 = .ok (.if_icmp .ne 20, 3) := by decide +kernel
theorem dX4_agrees_17 : decode cX4_agrees 17 = .ok (.bipush 9, 2) := by decide +kernel
theorem dX4_agrees_19 : decode cX4_agrees 19 = .ok (.iload_n 2, 1) := by decide +kernel
theorem dX4_agrees_20 : decode cX4_agrees 20 = .ok (.aload_n 0, 1) := by decide +kernel
theorem dX4_agrees_21 : decode cX4_agrees 21 = .ok (.getfield 15, 3) := by decide +kernel
theorem dX4_agrees_24 : decode cX4_agrees 24 = .ok (.iload 4, 2) := by decide +kernel
theorem dX4_agrees_26 : decode cX4_agrees 26 = .ok (.iaload, 1) := by decide +kernel
theorem dX4_agrees_27 : decode cX4_agrees 27 = .ok (.iadd, 1) := by decide +kernel
theorem dX4_agrees_28 : decode cX4_agrees 28 = .ok (.invokestatic 26, 3) := by decide +kernel
theorem dX4_agrees_31 : decode cX4_agrees 31 = .ok (.goto 4, 3) := by decide +kernel
theorem dX4_agrees_34 : decode cX4_agrees 34 = .ok (.iload_n 2, 1) := by decide +kernel
theorem dX4_agrees_35 : decode cX4_agrees 35 = .ok (.istore 5, 2) := by decide +kernel
theorem dX4_agrees_37 : decode cX4_agrees 37 = .ok (.aload_n 0, 1) := by decide +kernel
theorem dX4_agrees_38 : decode cX4_agrees 38 = .ok (.getfield 9, 3) := by decide +kernel
theorem dX4_agrees_41 : decode cX4_agrees 41 = .ok (.iload 4, 2) := by decide +kernel
theorem dX4_agrees_43 : decode cX4_agrees 43 = .ok (.iaload, 1) := by decide +kernel
theorem dX4_agrees_44 : decode cX4_agrees 44 = .ok (.iload 5, 2) := by decide +kernel
theorem dX4_agrees_46 : decode cX4_agrees 46 = .ok (.aload_n 3, 1) := by decide +kernel
theorem dX4_agrees_47 : decode cX4_agrees 47 = .ok (.aload_n 0, 1) := by decide +kernel
theorem dX4_agrees_48 : decode cX4_agrees 48 = .ok (.getfield 15, 3) := by decide +kernel
theorem dX4_agrees_51 : decode cX4_agrees 51 = .ok (.iload 4, 2) := by decide +kernel
theorem dX4_agrees_53 : decode cX4_agrees 53 = .ok (.iaload, 1) := by decide +kernel
theorem dX4_agrees_54 : decode cX4_agrees 54 = .ok (.invokevirtual 32, 3) := by decide +kernel
theorem dX4_agrees_57 : decode cX4_agrees 57 = .ok (.iadd, 1) := by decide +kernel
theorem dX4_agrees_58 : decode cX4_agrees 58 = .ok (.if_icmp .le 7, 3) := by decide +kernel
theorem dX4_agrees_61 : decode cX4_agrees 61 = .ok (.iconst 1, 1) := by decide +kernel
theorem dX4_agrees_62 : decode cX4_agrees 62 = .ok (.goto 4, 3) := by decide +kernel
theorem dX4_agrees_65 : decode cX4_agrees 65 = .ok (.iconst 0, 1) := by decide +kernel
theorem dX4_agrees_66 : decode cX4_agrees 66 = .ok (.istore 6, 2) := by decide +kernel
theorem dX4_agrees_68 : decode cX4_agrees 68 = .ok (.iload 6, 2) := by decide +kernel
theorem dX4_agrees_70 : decode cX4_agrees 70 = .ok (.aload_n 0, 1) := by decide +kernel
theorem dX4_agrees_71 : decode cX4_agrees 71 = .ok (.getfield 18, 3) := by decide +kernel
theorem dX4_agrees_74 : decode cX4_agrees 74 = .ok (.iload 4, 2) := by decide +kernel
theorem dX4_agrees_76 : decode cX4_agrees 76 = .ok (.baload, 1) := by decide +kernel
theorem dX4_agrees_77 : decode cX4_agrees 77 = .ok (.if_icmp .eq 5, 3) := by decide +kernel
theorem dX4_agrees_80 : decode cX4_agrees 80 = .ok (.iconst 0, 1) := by decide +kernel
theorem dX4_agrees_81 : decode cX4_agrees 81 = .ok (.ireturn, 1) := by decide +kernel
theorem dX4_agrees_82 : decode cX4_agrees 82 = .ok (.iinc 4 1, 3) := by decide +kernel
theorem dX4_agrees_85 : decode cX4_agrees 85 = .ok (.goto (-82), 3) := by decide +kernel
theorem dX4_agrees_88 : decode cX4_agrees 88 = .ok (.iconst 1, 1) := by decide +kernel
theorem dX4_agrees_89 : decode cX4_agrees 89 = .ok (.ireturn, 1) := by decide +kernel
theorem dX5_add_0 : decode cX5_add 0 = .ok (.aload_n 0, 1) := by decide +kernel
theorem dX5_add_1 : decode cX5_add 1 = .ok (.getfield 15, 3) := by decide +kernel
theorem dX5_add_4 : decode cX5_add 4 = .ok (.bipush 48, 2) := by decide +kernel
theorem dX5_add_6 : decode cX5_add 6 = .ok (.if_icmp .lt 6, 3) := by decide +kernel
theorem dX5_add_9 : decode cX5_add 9 = .ok (.bipush (-4), 2) := by decide +kernel
theorem dX5_add_11 : decode cX5_add 11 = .ok (.ireturn, 1) := by decide +kernel
theorem dX5_add_12 : decode cX5_add 12 = .ok (.aload_n 0, 1) := by decide +kernel
theorem dX5_add_13 : decode cX5_add 13 = .ok (.getfield 9, 3) := by decide +kernel
theorem dX5_add_16 : decode cX5_add 16 = .ok (.aload_n 0, 1) := by decide +kernel
theorem dX5_add_17 : decode cX5_add 17 = .ok (.getfield 15, 3) := by decide +kernel
theorem dX5_add_20 : decode cX5_add 20 = .ok (.iload_n 1, 1) := by decide +kernel
theorem dX5_add_21 : decode cX5_add 21 = .ok (.iastore, 1) := by decide +kernel
theorem dX5_add_22 : decode cX5_add 22 = .ok (.aload_n 0, 1) := by decide +kernel
theorem dX5_add_23 : decode cX5_add 23 = .ok (.dup, 1) := by decide +kernel
theorem dX5_add_24 : decode cX5_add 24 = .ok (.getfield 15, 3) := by decide +kernel
theorem dX5_add_27 : decode cX5_add 27 = .ok (.iconst 1, 1) := by decide +kernel
theorem dX5_add_28 : decode cX5_add 28 = .ok (.iadd, 1) := by decide +kernel
theorem dX5_add_29 : decode cX5_add 29 = .ok (.putfield 15, 3) := by decide +kernel
theorem dX5_add_32 : decode cX5_add 32 = .ok (.aload_n 0, 1) := by decide +kernel
theorem dX5_add_33 : decode cX5_add 33 = .ok (.getfield 15, 3) := by decide +kernel
theorem dX5_add_36 : decode cX5_add 36 = .ok (.ireturn, 1) := by decide +kernel
theorem dX5_empty_0 : decode cX5_empty 0 = .ok (.aload_n 0, 1) := by decide +kernel
theorem dX5_empty_1 : decode cX5_empty 1 = .ok (.getfield 15, 3) := by decide +kernel
theorem dX5_empty_4 : decode cX5_empty 4 = .ok (.istore_n 1, 1) := by decide +kernel
theorem dX5_empty_5 : decode cX5_empty 5 = .ok (.aload_n 0, 1) := by decide +kernel
theorem dX5_empty_6 : decode cX5_empty 6 = .ok (.iconst 0, 1) := by decide +kernel
theorem dX5_empty_7 : decode cX5_empty 7 = .ok (.putfield 15, 3) := by decide +kernel
theorem dX5_empty_10 : decode cX5_empty 10 = .ok (.iload_n 1, 1) := by decide +kernel
theorem dX5_empty_11 : decode cX5_empty 11 = .ok (.ireturn, 1) := by decide +kernel
theorem dX5_tell_0 : decode cX5_tell 0 = .ok (.aload_n 1, 1) := by decide +kernel
theorem dX5_tell_1 : decode cX5_tell 1 = .ok (.invokevirtual 19, 3) := by decide +kernel
theorem dX5_tell_4 : decode cX5_tell 4 = .ok (.iconst 0, 1) := by decide +kernel
theorem dX5_tell_5 : decode cX5_tell 5 = .ok (.istore_n 2, 1) := by decide +kernel
theorem dX5_tell_6 : decode cX5_tell 6 = .ok (.iload_n 2, 1) := by decide +kernel
theorem dX5_tell_7 : decode cX5_tell 7 = .ok (.aload_n 0, 1) := by decide +kernel
theorem dX5_tell_8 : decode cX5_tell 8 = .ok (.getfield 15, 3) := by decide +kernel
theorem dX5_tell_11 : decode cX5_tell 11 = .ok (.if_icmp .ge 24, 3) := by decide +kernel
theorem dX5_tell_14 : decode cX5_tell 14 = .ok (.aload_n 1, 1) := by decide +kernel
theorem dX5_tell_15 : decode cX5_tell 15 = .ok (.aload_n 0, 1) := by decide +kernel
theorem dX5_tell_16 : decode cX5_tell 16 = .ok (.getfield 9, 3) := by decide +kernel
theorem dX5_tell_19 : decode cX5_tell 19 = .ok (.iload_n 2, 1) := by decide +kernel
theorem dX5_tell_20 : decode cX5_tell 20 = .ok (.iaload, 1) := by decide +kernel
theorem dX5_tell_21 : decode cX5_tell 21 = .ok (.invokevirtual 24, 3) := by decide +kernel
theorem dX5_tell_24 : decode cX5_tell 24 = .ok (.ifCond .ne 5, 3) := by decide +kernel
theorem dX5_tell_27 : decode cX5_tell 27 = .ok (.iload_n 2, 1) := by decide +kernel
theorem dX5_tell_28 : decode cX5_tell 28 = .ok (.ireturn, 1) := by decide +kernel
theorem dX5_tell_29 : decode cX5_tell 29 = .ok (.iinc 2 1, 3) := by decide +kernel
theorem dX5_tell_32 : decode cX5_tell 32 = .ok (.goto (-26), 3) := by decide +kernel
theorem dX5_tell_35 : decode cX5_tell 35 = .ok (.aload_n 1, 1) := by decide +kernel
theorem dX5_tell_36 : decode cX5_tell 36 = .ok (.invokevirtual 28, 3) := by decide +kernel
theorem dX5_tell_39 : decode cX5_tell 39 = .ok (.ifCond .eq 8, 3) := by decide +kernel
theorem dX5_tell_42 : decode cX5_tell 42 = .ok (.bipush (-9), 2) := by decide +kernel
theorem dX5_tell_44 : decode cX5_tell 44 = .ok (.goto 7, 3) := by decide +kernel
theorem dX5_tell_47 : decode cX5_tell 47 = .ok (.aload_n 0, 1) := by decide +kernel
theorem dX5_tell_48 : decode cX5_tell 48 = .ok (.getfield 15, 3) := by decide +kernel
theorem dX5_tell_51 : decode cX5_tell 51 = .ok (.ireturn, 1) := by decide +kernel
end
section
theorem dX6_beginAnew_0 : decode cX6_beginAnew 0 = .ok (.aload_n 0, 1) := by decide +kernel
theorem dX6_beginAnew_1 : decode cX6_beginAnew 1 = .ok (.iconst 0, 1) := by decide +kernel
theorem dX6_beginAnew_2 : decode cX6_beginAnew 2 = .ok (.putfield 27, 3) := by decide +kernel
theorem dX6_beginAnew_5 : decode cX6_beginAnew 5 = .ok (.aload_n 0, 1) := by decide +kernel
theorem dX6_beginAnew_6 : decode cX6_beginAnew 6 = .ok (.iconst 0, 1) := by decide +kernel
theorem dX6_beginAnew_7 : decode cX6_beginAnew 7 = .ok (.putfield 31, 3) := by decide +kernel
theorem dX6_beginAnew_10 : decode cX6_beginAnew 10 = .ok (.aload_n 0, 1) := by decide +kernel
theorem dX6_beginAnew_11 : decode cX6_beginAnew 11 = .ok (.iconst 0, 1) := by decide +kernel
theorem dX6_beginAnew_12 : decode cX6_beginAnew 12 = .ok (.putfield 34, 3) := by decide +kernel
theorem dX6_beginAnew_15 : decode cX6_beginAnew 15 = .ok (.aload_n 0, 1) := by decide +kernel
theorem dX6_beginAnew_16 : decode cX6_beginAnew 16 = .ok (.iconst 0, 1) := by decide +kernel
theorem dX6_beginAnew_17 : decode cX6_beginAnew 17 = .ok (.putfield 37, 3) := by decide +kernel
theorem dX6_beginAnew_20 : decode cX6_beginAnew 20 = .ok (.aload_n 0, 1) := by decide +kernel
theorem dX6_beginAnew_21 : decode cX6_beginAnew 21 = .ok (.bipush (-9), 2) := by decide +kernel
theorem dX6_beginAnew_23 : decode cX6_beginAnew 23 = .ok (.putfield 40, 3) := by decide +kernel
theorem dX6_beginAnew_26 : decode cX6_beginAnew 26 = .ok (.return_, 1) := by decide +kernel
theorem dX6_mayEnd_0 : decode cX6_mayEnd 0 = .ok (.aload_n 0, 1) := by decide +kernel
theorem dX6_mayEnd_1 : decode cX6_mayEnd 1 = .ok (.getfield 37, 3) := by decide +kernel
theorem dX6_mayEnd_4 : decode cX6_mayEnd 4 = .ok (.iconst 1, 1) := by decide +kernel
theorem dX6_mayEnd_5 : decode cX6_mayEnd 5 = .ok (.if_icmp .ne 7, 3) := by decide +kernel
theorem dX6_mayEnd_8 : decode cX6_mayEnd 8 = .ok (.iconst 1, 1) := by decide +kernel
theorem dX6_mayEnd_9 : decode cX6_mayEnd 9 = .ok (.goto 4, 3) := by decide +kernel
theorem dX6_mayEnd_12 : decode cX6_mayEnd 12 = .ok (.iconst 0, 1) := by decide +kernel
theorem dX6_mayEnd_13 : decode cX6_mayEnd 13 = .ok (.ireturn, 1) := by decide +kernel
theorem dX6_hasBerth_0 : decode cX6_hasBerth 0 = .ok (.iload_n 1, 1) := by decide +kernel
theorem dX6_hasBerth_1 : decode cX6_hasBerth 1 = .ok (.ifCond .lt 15, 3) := by decide +kernel
theorem dX6_hasBerth_4 : decode cX6_hasBerth 4 = .ok (.iload_n 1, 1) := by decide +kernel
theorem dX6_hasBerth_5 : decode cX6_hasBerth 5 = .ok (.aload_n 0, 1) := by decide +kernel
theorem dX6_hasBerth_6 : decode cX6_hasBerth 6 = .ok (.getfield 31, 3) := by decide +kernel
theorem dX6_hasBerth_9 : decode cX6_hasBerth 9 = .ok (.if_icmp .ge 7, 3) := by decide +kernel
theorem dX6_hasBerth_12 : decode cX6_hasBerth 12 = .ok (.iconst 1, 1) := by decide +kernel
theorem dX6_hasBerth_13 : decode cX6_hasBerth 13 = .ok (.goto 4, 3) := by decide +kernel
theorem dX6_hasBerth_16 : decode cX6_hasBerth 16 = .ok (.iconst 0, 1) := by decide +kernel
theorem dX6_hasBerth_17 : decode cX6_hasBerth 17 = .ok (.ireturn, 1) := by decide +kernel
theorem dX6_hasDream_0 : decode cX6_hasDream 0 = .ok (.iload_n 1, 1) := by decide +kernel
theorem dX6_hasDream_1 : decode cX6_hasDream 1 = .ok (.ifCond .lt 15, 3) := by decide +kernel
theorem dX6_hasDream_4 : decode cX6_hasDream 4 = .ok (.iload_n 1, 1) := by decide +kernel
theorem dX6_hasDream_5 : decode cX6_hasDream 5 = .ok (.aload_n 0, 1) := by decide +kernel
theorem dX6_hasDream_6 : decode cX6_hasDream 6 = .ok (.getfield 34, 3) := by decide +kernel
theorem dX6_hasDream_9 : decode cX6_hasDream 9 = .ok (.if_icmp .ge 7, 3) := by decide +kernel
theorem dX6_hasDream_12 : decode cX6_hasDream 12 = .ok (.iconst 1, 1) := by decide +kernel
theorem dX6_hasDream_13 : decode cX6_hasDream 13 = .ok (.goto 4, 3) := by decide +kernel
theorem dX6_hasDream_16 : decode cX6_hasDream 16 = .ok (.iconst 0, 1) := by decide +kernel
theorem dX6_hasDream_17 : decode cX6_hasDream 17 = .ok (.ireturn, 1) := by decide +kernel
theorem dX6_tideOn_0 : decode cX6_tideOn 0 = .ok (.aload_n 0, 1) := by decide +kernel
theorem dX6_tideOn_1 : decode cX6_tideOn 1 = .ok (.getfield 27, 3) := by decide +kernel
theorem dX6_tideOn_4 : decode cX6_tideOn 4 = .ok (.ifCond .ne 7, 3) := by decide +kernel
theorem dX6_tideOn_7 : decode cX6_tideOn 7 = .ok (.iconst 0, 1) := by decide +kernel
theorem dX6_tideOn_8 : decode cX6_tideOn 8 = .ok (.goto 14, 3) := by decide +kernel
theorem dX6_tideOn_11 : decode cX6_tideOn 11 = .ok (.aload_n 0, 1) := by decide +kernel
theorem dX6_tideOn_12 : decode cX6_tideOn 12 = .ok (.getfield 9, 3) := by decide +kernel
theorem dX6_tideOn_15 : decode cX6_tideOn 15 = .ok (.iload_n 1, 1) := by decide +kernel
theorem dX6_tideOn_16 : decode cX6_tideOn 16 = .ok (.aload_n 0, 1) := by decide +kernel
theorem dX6_tideOn_17 : decode cX6_tideOn 17 = .ok (.getfield 27, 3) := by decide +kernel
theorem dX6_tideOn_20 : decode cX6_tideOn 20 = .ok (.irem, 1) := by decide +kernel
theorem dX6_tideOn_21 : decode cX6_tideOn 21 = .ok (.iaload, 1) := by decide +kernel
theorem dX6_tideOn_22 : decode cX6_tideOn 22 = .ok (.ireturn, 1) := by decide +kernel
theorem dX6_hears_0 : decode cX6_hears 0 = .ok (.aload_n 0, 1) := by decide +kernel
theorem dX6_hears_1 : decode cX6_hears 1 = .ok (.getfield 37, 3) := by decide +kernel
theorem dX6_hears_4 : decode cX6_hears 4 = .ok (.ifCond .ne 20, 3) := by decide +kernel
theorem dX6_hears_7 : decode cX6_hears 7 = .ok (.aload_n 0, 1) := by decide +kernel
theorem dX6_hears_8 : decode cX6_hears 8 = .ok (.iconst 1, 1) := by decide +kernel
theorem dX6_hears_9 : decode cX6_hears 9 = .ok (.putfield 37, 3) := by decide +kernel
theorem dX6_hears_12 : decode cX6_hears 12 = .ok (.iload_n 1, 1) := by decide +kernel
theorem dX6_hears_13 : decode cX6_hears 13 = .ok (.bipush 72, 2) := by decide +kernel
theorem dX6_hears_15 : decode cX6_hears 15 = .ok (.if_icmp .ne 7, 3) := by decide +kernel
theorem dX6_hears_18 : decode cX6_hears 18 = .ok (.iconst 1, 1) := by decide +kernel
theorem dX6_hears_19 : decode cX6_hears 19 = .ok (.goto 4, 3) := by decide +kernel
theorem dX6_hears_22 : decode cX6_hears 22 = .ok (.iconst 0, 1) := by decide +kernel
theorem dX6_hears_23 : decode cX6_hears 23 = .ok (.ireturn, 1) := by decide +kernel
theorem dX6_hears_24 : decode cX6_hears 24 = .ok (.aload_n 0, 1) := by decide +kernel
theorem dX6_hears_25 : decode cX6_hears 25 = .ok (.getfield 37, 3) := by decide +kernel
theorem dX6_hears_28 : decode cX6_hears 28 = .ok (.iconst 1, 1) := by decide +kernel
theorem dX6_hears_29 : decode cX6_hears 29 = .ok (.if_icmp .ne 20, 3) := by decide +kernel
theorem dX6_hears_32 : decode cX6_hears 32 = .ok (.aload_n 0, 1) := by decide +kernel
theorem dX6_hears_33 : decode cX6_hears 33 = .ok (.iload_n 1, 1) := by decide +kernel
theorem dX6_hears_34 : decode cX6_hears 34 = .ok (.putfield 37, 3) := by decide +kernel
theorem dX6_hears_37 : decode cX6_hears 37 = .ok (.aload_n 0, 1) := by decide +kernel
theorem dX6_hears_38 : decode cX6_hears 38 = .ok (.bipush (-9), 2) := by decide +kernel
theorem dX6_hears_40 : decode cX6_hears 40 = .ok (.putfield 40, 3) := by decide +kernel
theorem dX6_hears_43 : decode cX6_hears 43 = .ok (.aload_n 0, 1) := by decide +kernel
theorem dX6_hears_44 : decode cX6_hears 44 = .ok (.iload_n 1, 1) := by decide +kernel
theorem dX6_hears_45 : decode cX6_hears 45 = .ok (.invokevirtual 43, 3) := by decide +kernel
theorem dX6_hears_48 : decode cX6_hears 48 = .ok (.ireturn, 1) := by decide +kernel
theorem dX6_hears_49 : decode cX6_hears 49 = .ok (.iload_n 1, 1) := by decide +kernel
theorem dX6_hears_50 : decode cX6_hears 50 = .ok (.bipush 48, 2) := by decide +kernel
theorem dX6_hears_52 : decode cX6_hears 52 = .ok (.if_icmp .lt 9, 3) := by decide +kernel
theorem dX6_hears_55 : decode cX6_hears 55 = .ok (.iload_n 1, 1) := by decide +kernel
theorem dX6_hears_56 : decode cX6_hears 56 = .ok (.bipush 57, 2) := by decide +kernel
theorem dX6_hears_58 : decode cX6_hears 58 = .ok (.if_icmp .le 5, 3) := by decide +kernel
theorem dX6_hears_61 : decode cX6_hears 61 = .ok (.iconst 0, 1) := by decide +kernel
theorem dX6_hears_62 : decode cX6_hears 62 = .ok (.ireturn, 1) := by decide +kernel
theorem dX6_hears_63 : decode cX6_hears 63 = .ok (.aload_n 0, 1) := by decide +kernel
theorem dX6_hears_64 : decode cX6_hears 64 = .ok (.getfield 40, 3) := by decide +kernel
theorem dX6_hears_67 : decode cX6_hears 67 = .ok (.bipush (-9), 2) := by decide +kernel
theorem dX6_hears_69 : decode cX6_hears 69 = .ok (.if_icmp .ne 14, 3) := by decide +kernel
theorem dX6_hears_72 : decode cX6_hears 72 = .ok (.aload_n 0, 1) := by decide +kernel
theorem dX6_hears_73 : decode cX6_hears 73 = .ok (.iload_n 1, 1) := by decide +kernel
theorem dX6_hears_74 : decode cX6_hears 74 = .ok (.bipush 48, 2) := by decide +kernel
theorem dX6_hears_76 : decode cX6_hears 76 = .ok (.isub, 1) := by decide +kernel
theorem dX6_hears_77 : decode cX6_hears 77 = .ok (.invokevirtual 47, 3) := by decide +kernel
theorem dX6_hears_80 : decode cX6_hears 80 = .ok (.goto 11, 3) := by decide +kernel
theorem dX6_hears_83 : decode cX6_hears 83 = .ok (.aload_n 0, 1) := by decide +kernel
theorem dX6_hears_84 : decode cX6_hears 84 = .ok (.iload_n 1, 1) := by decide +kernel
theorem dX6_hears_85 : decode cX6_hears 85 = .ok (.bipush 48, 2) := by decide +kernel
theorem dX6_hears_87 : decode cX6_hears 87 = .ok (.isub, 1) := by decide +kernel
theorem dX6_hears_88 : decode cX6_hears 88 = .ok (.invokevirtual 50, 3) := by decide +kernel
theorem dX6_hears_91 : decode cX6_hears 91 = .ok (.ireturn, 1) := by decide +kernel
theorem dX6_hasRoomFor_0 : decode cX6_hasRoomFor 0 = .ok (.iload_n 1, 1) := by decide +kernel
theorem dX6_hasRoomFor_1 : decode cX6_hasRoomFor 1 = .ok (.lookupswitch 77 #[(66, 49), (68, 63), (84, 35)], 35) := by decide +kernel
theorem dX6_hasRoomFor_36 : decode cX6_hasRoomFor 36 = .ok (.aload_n 0, 1) := by decide +kernel
theorem dX6_hasRoomFor_37 : decode cX6_hasRoomFor 37 = .ok (.getfield 27, 3) := by decide +kernel
theorem dX6_hasRoomFor_40 : decode cX6_hasRoomFor 40 = .ok (.iconst 4, 1) := by decide +kernel
theorem dX6_hasRoomFor_41 : decode cX6_hasRoomFor 41 = .ok (.if_icmp .ge 7, 3) := by decide +kernel
theorem dX6_hasRoomFor_44 : decode cX6_hasRoomFor 44 = .ok (.iconst 1, 1) := by decide +kernel
theorem dX6_hasRoomFor_45 : decode cX6_hasRoomFor 45 = .ok (.goto 4, 3) := by decide +kernel
theorem dX6_hasRoomFor_48 : decode cX6_hasRoomFor 48 = .ok (.iconst 0, 1) := by decide +kernel
theorem dX6_hasRoomFor_49 : decode cX6_hasRoomFor 49 = .ok (.ireturn, 1) := by decide +kernel
theorem dX6_hasRoomFor_50 : decode cX6_hasRoomFor 50 = .ok (.aload_n 0, 1) := by decide +kernel
theorem dX6_hasRoomFor_51 : decode cX6_hasRoomFor 51 = .ok (.getfield 31, 3) := by decide +kernel
theorem dX6_hasRoomFor_54 : decode cX6_hasRoomFor 54 = .ok (.iconst 4, 1) := by decide +kernel
theorem dX6_hasRoomFor_55 : decode cX6_hasRoomFor 55 = .ok (.if_icmp .ge 7, 3) := by decide +kernel
theorem dX6_hasRoomFor_58 : decode cX6_hasRoomFor 58 = .ok (.iconst 1, 1) := by decide +kernel
theorem dX6_hasRoomFor_59 : decode cX6_hasRoomFor 59 = .ok (.goto 4, 3) := by decide +kernel
theorem dX6_hasRoomFor_62 : decode cX6_hasRoomFor 62 = .ok (.iconst 0, 1) := by decide +kernel
theorem dX6_hasRoomFor_63 : decode cX6_hasRoomFor 63 = .ok (.ireturn, 1) := by decide +kernel
theorem dX6_hasRoomFor_64 : decode cX6_hasRoomFor 64 = .ok (.aload_n 0, 1) := by decide +kernel
theorem dX6_hasRoomFor_65 : decode cX6_hasRoomFor 65 = .ok (.getfield 34, 3) := by decide +kernel
theorem dX6_hasRoomFor_68 : decode cX6_hasRoomFor 68 = .ok (.iconst 5, 1) := by decide +kernel
theorem dX6_hasRoomFor_69 : decode cX6_hasRoomFor 69 = .ok (.if_icmp .ge 7, 3) := by decide +kernel
theorem dX6_hasRoomFor_72 : decode cX6_hasRoomFor 72 = .ok (.iconst 1, 1) := by decide +kernel
theorem dX6_hasRoomFor_73 : decode cX6_hasRoomFor 73 = .ok (.goto 4, 3) := by decide +kernel
theorem dX6_hasRoomFor_76 : decode cX6_hasRoomFor 76 = .ok (.iconst 0, 1) := by decide +kernel
theorem dX6_hasRoomFor_77 : decode cX6_hasRoomFor 77 = .ok (.ireturn, 1) := by decide +kernel
theorem dX6_hasRoomFor_78 : decode cX6_hasRoomFor 78 = .ok (.iconst 0, 1) := by decide +kernel
theorem dX6_hasRoomFor_79 : decode cX6_hasRoomFor 79 = .ok (.ireturn, 1) := by decide +kernel
theorem dX6_hearsFirst_0 : decode cX6_hearsFirst 0 = .ok (.aload_n 0, 1) := by decide +kernel
theorem dX6_hearsFirst_1 : decode cX6_hearsFirst 1 = .ok (.getfield 37, 3) := by decide +kernel
theorem dX6_hearsFirst_4 : decode cX6_hearsFirst 4 = .ok (.bipush 68, 2) := by decide +kernel
theorem dX6_hearsFirst_6 : decode cX6_hearsFirst 6 = .ok (.if_icmp .ne 9, 3) := by decide +kernel
theorem dX6_hearsFirst_9 : decode cX6_hearsFirst 9 = .ok (.iload_n 1, 1) := by decide +kernel
theorem dX6_hearsFirst_10 : decode cX6_hearsFirst 10 = .ok (.ifCond .ne 5, 3) := by decide +kernel
theorem dX6_hearsFirst_13 : decode cX6_hearsFirst 13 = .ok (.iconst 0, 1) := by decide +kernel
theorem dX6_hearsFirst_14 : decode cX6_hearsFirst 14 = .ok (.ireturn, 1) := by decide +kernel
theorem dX6_hearsFirst_15 : decode cX6_hearsFirst 15 = .ok (.aload_n 0, 1) := by decide +kernel
theorem dX6_hearsFirst_16 : decode cX6_hearsFirst 16 = .ok (.getfield 37, 3) := by decide +kernel
theorem dX6_hearsFirst_19 : decode cX6_hearsFirst 19 = .ok (.bipush 84, 2) := by decide +kernel
theorem dX6_hearsFirst_21 : decode cX6_hearsFirst 21 = .ok (.if_icmp .ne 31, 3) := by decide +kernel
theorem dX6_hearsFirst_24 : decode cX6_hearsFirst 24 = .ok (.aload_n 0, 1) := by decide +kernel
theorem dX6_hearsFirst_25 : decode cX6_hearsFirst 25 = .ok (.getfield 9, 3) := by decide +kernel
theorem dX6_hearsFirst_28 : decode cX6_hearsFirst 28 = .ok (.aload_n 0, 1) := by decide +kernel
theorem dX6_hearsFirst_29 : decode cX6_hearsFirst 29 = .ok (.getfield 27, 3) := by decide +kernel
theorem dX6_hearsFirst_32 : decode cX6_hearsFirst 32 = .ok (.iload_n 1, 1) := by decide +kernel
theorem dX6_hearsFirst_33 : decode cX6_hearsFirst 33 = .ok (.iastore, 1) := by decide +kernel
theorem dX6_hearsFirst_34 : decode cX6_hearsFirst 34 = .ok (.aload_n 0, 1) := by decide +kernel
theorem dX6_hearsFirst_35 : decode cX6_hearsFirst 35 = .ok (.dup, 1) := by decide +kernel
theorem dX6_hearsFirst_36 : decode cX6_hearsFirst 36 = .ok (.getfield 27, 3) := by decide +kernel
theorem dX6_hearsFirst_39 : decode cX6_hearsFirst 39 = .ok (.iconst 1, 1) := by decide +kernel
theorem dX6_hearsFirst_40 : decode cX6_hearsFirst 40 = .ok (.iadd, 1) := by decide +kernel
theorem dX6_hearsFirst_41 : decode cX6_hearsFirst 41 = .ok (.putfield 27, 3) := by decide +kernel
theorem dX6_hearsFirst_44 : decode cX6_hearsFirst 44 = .ok (.aload_n 0, 1) := by decide +kernel
theorem dX6_hearsFirst_45 : decode cX6_hearsFirst 45 = .ok (.iconst 1, 1) := by decide +kernel
theorem dX6_hearsFirst_46 : decode cX6_hearsFirst 46 = .ok (.putfield 37, 3) := by decide +kernel
theorem dX6_hearsFirst_49 : decode cX6_hearsFirst 49 = .ok (.goto 8, 3) := by decide +kernel
theorem dX6_hearsFirst_52 : decode cX6_hearsFirst 52 = .ok (.aload_n 0, 1) := by decide +kernel
theorem dX6_hearsFirst_53 : decode cX6_hearsFirst 53 = .ok (.iload_n 1, 1) := by decide +kernel
theorem dX6_hearsFirst_54 : decode cX6_hearsFirst 54 = .ok (.putfield 40, 3) := by decide +kernel
theorem dX6_hearsFirst_57 : decode cX6_hearsFirst 57 = .ok (.iconst 1, 1) := by decide +kernel
theorem dX6_hearsFirst_58 : decode cX6_hearsFirst 58 = .ok (.ireturn, 1) := by decide +kernel
theorem dX6_hearsKind_0 : decode cX6_hearsKind 0 = .ok (.iload_n 1, 1) := by decide +kernel
theorem dX6_hearsKind_1 : decode cX6_hearsKind 1 = .ok (.iconst 3, 1) := by decide +kernel
theorem dX6_hearsKind_2 : decode cX6_hearsKind 2 = .ok (.if_icmp .le 5, 3) := by decide +kernel
theorem dX6_hearsKind_5 : decode cX6_hearsKind 5 = .ok (.iconst 0, 1) := by decide +kernel
theorem dX6_hearsKind_6 : decode cX6_hearsKind 6 = .ok (.ireturn, 1) := by decide +kernel
theorem dX6_hearsKind_7 : decode cX6_hearsKind 7 = .ok (.aload_n 0, 1) := by decide +kernel
theorem dX6_hearsKind_8 : decode cX6_hearsKind 8 = .ok (.getfield 37, 3) := by decide +kernel
theorem dX6_hearsKind_11 : decode cX6_hearsKind 11 = .ok (.bipush 66, 2) := by decide +kernel
theorem dX6_hearsKind_13 : decode cX6_hearsKind 13 = .ok (.if_icmp .ne 39, 3) := by decide +kernel
theorem dX6_hearsKind_16 : decode cX6_hearsKind 16 = .ok (.aload_n 0, 1) := by decide +kernel
theorem dX6_hearsKind_17 : decode cX6_hearsKind 17 = .ok (.getfield 15, 3) := by decide +kernel
theorem dX6_hearsKind_20 : decode cX6_hearsKind 20 = .ok (.aload_n 0, 1) := by decide +kernel
theorem dX6_hearsKind_21 : decode cX6_hearsKind 21 = .ok (.getfield 31, 3) := by decide +kernel
theorem dX6_hearsKind_24 : decode cX6_hearsKind 24 = .ok (.aload_n 0, 1) := by decide +kernel
theorem dX6_hearsKind_25 : decode cX6_hearsKind 25 = .ok (.getfield 40, 3) := by decide +kernel
theorem dX6_hearsKind_28 : decode cX6_hearsKind 28 = .ok (.iastore, 1) := by decide +kernel
theorem dX6_hearsKind_29 : decode cX6_hearsKind 29 = .ok (.aload_n 0, 1) := by decide +kernel
theorem dX6_hearsKind_30 : decode cX6_hearsKind 30 = .ok (.getfield 18, 3) := by decide +kernel
theorem dX6_hearsKind_33 : decode cX6_hearsKind 33 = .ok (.aload_n 0, 1) := by decide +kernel
theorem dX6_hearsKind_34 : decode cX6_hearsKind 34 = .ok (.getfield 31, 3) := by decide +kernel
theorem dX6_hearsKind_37 : decode cX6_hearsKind 37 = .ok (.iload_n 1, 1) := by decide +kernel
theorem dX6_hearsKind_38 : decode cX6_hearsKind 38 = .ok (.iastore, 1) := by decide +kernel
theorem dX6_hearsKind_39 : decode cX6_hearsKind 39 = .ok (.aload_n 0, 1) := by decide +kernel
theorem dX6_hearsKind_40 : decode cX6_hearsKind 40 = .ok (.dup, 1) := by decide +kernel
theorem dX6_hearsKind_41 : decode cX6_hearsKind 41 = .ok (.getfield 31, 3) := by decide +kernel
theorem dX6_hearsKind_44 : decode cX6_hearsKind 44 = .ok (.iconst 1, 1) := by decide +kernel
theorem dX6_hearsKind_45 : decode cX6_hearsKind 45 = .ok (.iadd, 1) := by decide +kernel
theorem dX6_hearsKind_46 : decode cX6_hearsKind 46 = .ok (.putfield 31, 3) := by decide +kernel
theorem dX6_hearsKind_49 : decode cX6_hearsKind 49 = .ok (.goto 36, 3) := by decide +kernel
theorem dX6_hearsKind_52 : decode cX6_hearsKind 52 = .ok (.aload_n 0, 1) := by decide +kernel
theorem dX6_hearsKind_53 : decode cX6_hearsKind 53 = .ok (.getfield 21, 3) := by decide +kernel
theorem dX6_hearsKind_56 : decode cX6_hearsKind 56 = .ok (.aload_n 0, 1) := by decide +kernel
theorem dX6_hearsKind_57 : decode cX6_hearsKind 57 = .ok (.getfield 34, 3) := by decide +kernel
theorem dX6_hearsKind_60 : decode cX6_hearsKind 60 = .ok (.aload_n 0, 1) := by decide +kernel
theorem dX6_hearsKind_61 : decode cX6_hearsKind 61 = .ok (.getfield 40, 3) := by decide +kernel
theorem dX6_hearsKind_64 : decode cX6_hearsKind 64 = .ok (.iastore, 1) := by decide +kernel
theorem dX6_hearsKind_65 : decode cX6_hearsKind 65 = .ok (.aload_n 0, 1) := by decide +kernel
theorem dX6_hearsKind_66 : decode cX6_hearsKind 66 = .ok (.getfield 24, 3) := by decide +kernel
theorem dX6_hearsKind_69 : decode cX6_hearsKind 69 = .ok (.aload_n 0, 1) := by decide +kernel
theorem dX6_hearsKind_70 : decode cX6_hearsKind 70 = .ok (.getfield 34, 3) := by decide +kernel
theorem dX6_hearsKind_73 : decode cX6_hearsKind 73 = .ok (.iload_n 1, 1) := by decide +kernel
theorem dX6_hearsKind_74 : decode cX6_hearsKind 74 = .ok (.iastore, 1) := by decide +kernel
theorem dX6_hearsKind_75 : decode cX6_hearsKind 75 = .ok (.aload_n 0, 1) := by decide +kernel
theorem dX6_hearsKind_76 : decode cX6_hearsKind 76 = .ok (.dup, 1) := by decide +kernel
theorem dX6_hearsKind_77 : decode cX6_hearsKind 77 = .ok (.getfield 34, 3) := by decide +kernel
theorem dX6_hearsKind_80 : decode cX6_hearsKind 80 = .ok (.iconst 1, 1) := by decide +kernel
theorem dX6_hearsKind_81 : decode cX6_hearsKind 81 = .ok (.iadd, 1) := by decide +kernel
theorem dX6_hearsKind_82 : decode cX6_hearsKind 82 = .ok (.putfield 34, 3) := by decide +kernel
theorem dX6_hearsKind_85 : decode cX6_hearsKind 85 = .ok (.aload_n 0, 1) := by decide +kernel
theorem dX6_hearsKind_86 : decode cX6_hearsKind 86 = .ok (.iconst 1, 1) := by decide +kernel
theorem dX6_hearsKind_87 : decode cX6_hearsKind 87 = .ok (.putfield 37, 3) := by decide +kernel
theorem dX6_hearsKind_90 : decode cX6_hearsKind 90 = .ok (.iconst 1, 1) := by decide +kernel
theorem dX6_hearsKind_91 : decode cX6_hearsKind 91 = .ok (.ireturn, 1) := by decide +kernel
end
section
theorem dX7_write_0 : decode cX7_write 0 = .ok (.iload_n 1, 1) := by decide +kernel
theorem dX7_write_1 : decode cX7_write 1 = .ok (.ifCond .lt 10, 3) := by decide +kernel
theorem dX7_write_4 : decode cX7_write 4 = .ok (.iload_n 1, 1) := by decide +kernel
theorem dX7_write_5 : decode cX7_write 5 = .ok (.sipush 255, 3) := by decide +kernel
theorem dX7_write_8 : decode cX7_write 8 = .ok (.if_icmp .le 6, 3) := by decide +kernel
theorem dX7_write_11 : decode cX7_write 11 = .ok (.bipush (-2), 2) := by decide +kernel
theorem dX7_write_13 : decode cX7_write 13 = .ok (.ireturn, 1) := by decide +kernel
theorem dX7_write_14 : decode cX7_write 14 = .ok (.aload_n 0, 1) := by decide +kernel
theorem dX7_write_15 : decode cX7_write 15 = .ok (.getfield 10, 3) := by decide +kernel
theorem dX7_write_18 : decode cX7_write 18 = .ok (.iload_n 1, 1) := by decide +kernel
theorem dX7_write_19 : decode cX7_write 19 = .ok (.invokevirtual 80, 3) := by decide +kernel
theorem dX7_write_22 : decode cX7_write 22 = .ok (.ireturn, 1) := by decide +kernel
theorem dX7_wipe_0 : decode cX7_wipe 0 = .ok (.aload_n 0, 1) := by decide +kernel
theorem dX7_wipe_1 : decode cX7_wipe 1 = .ok (.getfield 10, 3) := by decide +kernel
theorem dX7_wipe_4 : decode cX7_wipe 4 = .ok (.invokevirtual 84, 3) := by decide +kernel
theorem dX7_wipe_7 : decode cX7_wipe 7 = .ok (.ireturn, 1) := by decide +kernel
theorem dX7_fault_0 : decode cX7_fault 0 = .ok (.aload_n 0, 1) := by decide +kernel
theorem dX7_fault_1 : decode cX7_fault 1 = .ok (.getfield 10, 3) := by decide +kernel
theorem dX7_fault_4 : decode cX7_fault 4 = .ok (.aload_n 0, 1) := by decide +kernel
theorem dX7_fault_5 : decode cX7_fault 5 = .ok (.getfield 23, 3) := by decide +kernel
theorem dX7_fault_8 : decode cX7_fault 8 = .ok (.invokevirtual 88, 3) := by decide +kernel
theorem dX7_fault_11 : decode cX7_fault 11 = .ok (.ireturn, 1) := by decide +kernel
theorem dX7_port_0 : decode cX7_port 0 = .ok (.aload_n 0, 1) := by decide +kernel
theorem dX7_port_1 : decode cX7_port 1 = .ok (.getfield 10, 3) := by decide +kernel
theorem dX7_port_4 : decode cX7_port 4 = .ok (.aload_n 0, 1) := by decide +kernel
theorem dX7_port_5 : decode cX7_port 5 = .ok (.getfield 23, 3) := by decide +kernel
theorem dX7_port_8 : decode cX7_port 8 = .ok (.invokevirtual 88, 3) := by decide +kernel
theorem dX7_port_11 : decode cX7_port 11 = .ok (.bipush (-9), 2) := by decide +kernel
theorem dX7_port_13 : decode cX7_port 13 = .ok (.if_icmp .eq 6, 3) := by decide +kernel
theorem dX7_port_16 : decode cX7_port 16 = .ok (.bipush (-3), 2) := by decide +kernel
theorem dX7_port_18 : decode cX7_port 18 = .ok (.ireturn, 1) := by decide +kernel
theorem dX7_port_19 : decode cX7_port 19 = .ok (.aload_n 0, 1) := by decide +kernel
theorem dX7_port_20 : decode cX7_port 20 = .ok (.getfield 10, 3) := by decide +kernel
theorem dX7_port_23 : decode cX7_port 23 = .ok (.aload_n 0, 1) := by decide +kernel
theorem dX7_port_24 : decode cX7_port 24 = .ok (.getfield 19, 3) := by decide +kernel
theorem dX7_port_27 : decode cX7_port 27 = .ok (.invokevirtual 88, 3) := by decide +kernel
theorem dX7_port_30 : decode cX7_port 30 = .ok (.pop, 1) := by decide +kernel
theorem dX7_port_31 : decode cX7_port 31 = .ok (.aload_n 0, 1) := by decide +kernel
theorem dX7_port_32 : decode cX7_port 32 = .ok (.getfield 31, 3) := by decide +kernel
theorem dX7_port_35 : decode cX7_port 35 = .ok (.invokevirtual 92, 3) := by decide +kernel
theorem dX7_port_38 : decode cX7_port 38 = .ok (.aload_n 0, 1) := by decide +kernel
theorem dX7_port_39 : decode cX7_port 39 = .ok (.getfield 41, 3) := by decide +kernel
theorem dX7_port_42 : decode cX7_port 42 = .ok (.invokevirtual 95, 3) := by decide +kernel
theorem dX7_port_45 : decode cX7_port 45 = .ok (.iconst 0, 1) := by decide +kernel
theorem dX7_port_46 : decode cX7_port 46 = .ok (.istore_n 1, 1) := by decide +kernel
theorem dX7_port_47 : decode cX7_port 47 = .ok (.iload_n 1, 1) := by decide +kernel
theorem dX7_port_48 : decode cX7_port 48 = .ok (.iconst 2, 1) := by decide +kernel
theorem dX7_port_49 : decode cX7_port 49 = .ok (.if_icmp .ge 16, 3) := by decide +kernel
theorem dX7_port_52 : decode cX7_port 52 = .ok (.aload_n 0, 1) := by decide +kernel
theorem dX7_port_53 : decode cX7_port 53 = .ok (.getfield 72, 3) := by decide +kernel
theorem dX7_port_56 : decode cX7_port 56 = .ok (.iload_n 1, 1) := by decide +kernel
theorem dX7_port_57 : decode cX7_port 57 = .ok (.iconst 0, 1) := by decide +kernel
theorem dX7_port_58 : decode cX7_port 58 = .ok (.bastore, 1) := by decide +kernel
theorem dX7_port_59 : decode cX7_port 59 = .ok (.iinc 1 1, 3) := by decide +kernel
theorem dX7_port_62 : decode cX7_port 62 = .ok (.goto (-15), 3) := by decide +kernel
theorem dX7_port_65 : decode cX7_port 65 = .ok (.bipush 100, 2) := by decide +kernel
theorem dX7_port_67 : decode cX7_port 67 = .ok (.aload_n 0, 1) := by decide +kernel
theorem dX7_port_68 : decode cX7_port 68 = .ok (.getfield 19, 3) := by decide +kernel
theorem dX7_port_71 : decode cX7_port 71 = .ok (.getfield 98, 3) := by decide +kernel
theorem dX7_port_74 : decode cX7_port 74 = .ok (.imul, 1) := by decide +kernel
theorem dX7_port_75 : decode cX7_port 75 = .ok (.bipush 10, 2) := by decide +kernel
theorem dX7_port_77 : decode cX7_port 77 = .ok (.aload_n 0, 1) := by decide +kernel
theorem dX7_port_78 : decode cX7_port 78 = .ok (.getfield 19, 3) := by decide +kernel
theorem dX7_port_81 : decode cX7_port 81 = .ok (.getfield 102, 3) := by decide +kernel
theorem dX7_port_84 : decode cX7_port 84 = .ok (.imul, 1) := by decide +kernel
theorem dX7_port_85 : decode cX7_port 85 = .ok (.iadd, 1) := by decide +kernel
theorem dX7_port_86 : decode cX7_port 86 = .ok (.aload_n 0, 1) := by decide +kernel
theorem dX7_port_87 : decode cX7_port 87 = .ok (.getfield 19, 3) := by decide +kernel
theorem dX7_port_90 : decode cX7_port 90 = .ok (.getfield 105, 3) := by decide +kernel
theorem dX7_port_93 : decode cX7_port 93 = .ok (.iadd, 1) := by decide +kernel
theorem dX7_port_94 : decode cX7_port 94 = .ok (.ireturn, 1) := by decide +kernel
theorem dX7_about_0 : decode cX7_about 0 = .ok (.iload_n 1, 1) := by decide +kernel
theorem dX7_about_1 : decode cX7_about 1 = .ok (.tableswitch 163 0 11 #[63, 71, 79, 87, 95, 103, 113, 121, 131, 139, 147, 155], 63) := by decide +kernel
theorem dX7_about_64 : decode cX7_about 64 = .ok (.aload_n 0, 1) := by decide +kernel
theorem dX7_about_65 : decode cX7_about 65 = .ok (.getfield 19, 3) := by decide +kernel
theorem dX7_about_68 : decode cX7_about 68 = .ok (.getfield 98, 3) := by decide +kernel
theorem dX7_about_71 : decode cX7_about 71 = .ok (.ireturn, 1) := by decide +kernel
theorem dX7_about_72 : decode cX7_about 72 = .ok (.aload_n 0, 1) := by decide +kernel
theorem dX7_about_73 : decode cX7_about 73 = .ok (.getfield 19, 3) := by decide +kernel
theorem dX7_about_76 : decode cX7_about 76 = .ok (.getfield 102, 3) := by decide +kernel
theorem dX7_about_79 : decode cX7_about 79 = .ok (.ireturn, 1) := by decide +kernel
theorem dX7_about_80 : decode cX7_about 80 = .ok (.aload_n 0, 1) := by decide +kernel
theorem dX7_about_81 : decode cX7_about 81 = .ok (.getfield 19, 3) := by decide +kernel
theorem dX7_about_84 : decode cX7_about 84 = .ok (.getfield 105, 3) := by decide +kernel
theorem dX7_about_87 : decode cX7_about 87 = .ok (.ireturn, 1) := by decide +kernel
theorem dX7_about_88 : decode cX7_about 88 = .ok (.aload_n 0, 1) := by decide +kernel
theorem dX7_about_89 : decode cX7_about 89 = .ok (.getfield 31, 3) := by decide +kernel
theorem dX7_about_92 : decode cX7_about 92 = .ok (.getfield 108, 3) := by decide +kernel
theorem dX7_about_95 : decode cX7_about 95 = .ok (.ireturn, 1) := by decide +kernel
theorem dX7_about_96 : decode cX7_about 96 = .ok (.aload_n 0, 1) := by decide +kernel
theorem dX7_about_97 : decode cX7_about 97 = .ok (.getfield 31, 3) := by decide +kernel
theorem dX7_about_100 : decode cX7_about 100 = .ok (.invokevirtual 111, 3) := by decide +kernel
theorem dX7_about_103 : decode cX7_about 103 = .ok (.ireturn, 1) := by decide +kernel
theorem dX7_about_104 : decode cX7_about 104 = .ok (.aload_n 0, 1) := by decide +kernel
theorem dX7_about_105 : decode cX7_about 105 = .ok (.getfield 31, 3) := by decide +kernel
theorem dX7_about_108 : decode cX7_about 108 = .ok (.bipush 8, 2) := by decide +kernel
theorem dX7_about_110 : decode cX7_about 110 = .ok (.invokevirtual 114, 3) := by decide +kernel
theorem dX7_about_113 : decode cX7_about 113 = .ok (.ireturn, 1) := by decide +kernel
theorem dX7_about_114 : decode cX7_about 114 = .ok (.aload_n 0, 1) := by decide +kernel
theorem dX7_about_115 : decode cX7_about 115 = .ok (.getfield 31, 3) := by decide +kernel
theorem dX7_about_118 : decode cX7_about 118 = .ok (.invokevirtual 117, 3) := by decide +kernel
theorem dX7_about_121 : decode cX7_about 121 = .ok (.ireturn, 1) := by decide +kernel
theorem dX7_about_122 : decode cX7_about 122 = .ok (.aload_n 0, 1) := by decide +kernel
theorem dX7_about_123 : decode cX7_about 123 = .ok (.getfield 31, 3) := by decide +kernel
theorem dX7_about_126 : decode cX7_about 126 = .ok (.bipush 9, 2) := by decide +kernel
theorem dX7_about_128 : decode cX7_about 128 = .ok (.invokevirtual 114, 3) := by decide +kernel
theorem dX7_about_131 : decode cX7_about 131 = .ok (.ireturn, 1) := by decide +kernel
theorem dX7_about_132 : decode cX7_about 132 = .ok (.aload_n 0, 1) := by decide +kernel
theorem dX7_about_133 : decode cX7_about 133 = .ok (.getfield 31, 3) := by decide +kernel
theorem dX7_about_136 : decode cX7_about 136 = .ok (.invokevirtual 120, 3) := by decide +kernel
theorem dX7_about_139 : decode cX7_about 139 = .ok (.ireturn, 1) := by decide +kernel
theorem dX7_about_140 : decode cX7_about 140 = .ok (.aload_n 0, 1) := by decide +kernel
theorem dX7_about_141 : decode cX7_about 141 = .ok (.getfield 41, 3) := by decide +kernel
theorem dX7_about_144 : decode cX7_about 144 = .ok (.getfield 123, 3) := by decide +kernel
theorem dX7_about_147 : decode cX7_about 147 = .ok (.ireturn, 1) := by decide +kernel
theorem dX7_about_148 : decode cX7_about 148 = .ok (.aload_n 0, 1) := by decide +kernel
theorem dX7_about_149 : decode cX7_about 149 = .ok (.getfield 48, 3) := by decide +kernel
theorem dX7_about_152 : decode cX7_about 152 = .ok (.getfield 126, 3) := by decide +kernel
theorem dX7_about_155 : decode cX7_about 155 = .ok (.ireturn, 1) := by decide +kernel
theorem dX7_about_156 : decode cX7_about 156 = .ok (.aload_n 0, 1) := by decide +kernel
theorem dX7_about_157 : decode cX7_about 157 = .ok (.getfield 10, 3) := by decide +kernel
theorem dX7_about_160 : decode cX7_about 160 = .ok (.getfield 127, 3) := by decide +kernel
theorem dX7_about_163 : decode cX7_about 163 = .ok (.ireturn, 1) := by decide +kernel
theorem dX7_about_164 : decode cX7_about 164 = .ok (.bipush (-2), 2) := by decide +kernel
theorem dX7_about_166 : decode cX7_about 166 = .ok (.ireturn, 1) := by decide +kernel
theorem dX7_berth_0 : decode cX7_berth 0 = .ok (.aload_n 0, 1) := by decide +kernel
theorem dX7_berth_1 : decode cX7_berth 1 = .ok (.getfield 19, 3) := by decide +kernel
theorem dX7_berth_4 : decode cX7_berth 4 = .ok (.iload_n 1, 1) := by decide +kernel
theorem dX7_berth_5 : decode cX7_berth 5 = .ok (.invokevirtual 130, 3) := by decide +kernel
theorem dX7_berth_8 : decode cX7_berth 8 = .ok (.ifCond .ne 5, 3) := by decide +kernel
theorem dX7_berth_11 : decode cX7_berth 11 = .ok (.iconst (-1), 1) := by decide +kernel
theorem dX7_berth_12 : decode cX7_berth 12 = .ok (.ireturn, 1) := by decide +kernel
theorem dX7_berth_13 : decode cX7_berth 13 = .ok (.iload_n 2, 1) := by decide +kernel
theorem dX7_berth_14 : decode cX7_berth 14 = .ok (.tableswitch 82 0 4 #[34, 44, 54, 63, 72], 34) := by decide +kernel
theorem dX7_berth_48 : decode cX7_berth 48 = .ok (.aload_n 0, 1) := by decide +kernel
theorem dX7_berth_49 : decode cX7_berth 49 = .ok (.getfield 31, 3) := by decide +kernel
theorem dX7_berth_52 : decode cX7_berth 52 = .ok (.getfield 134, 3) := by decide +kernel
theorem dX7_berth_55 : decode cX7_berth 55 = .ok (.iload_n 1, 1) := by decide +kernel
theorem dX7_berth_56 : decode cX7_berth 56 = .ok (.iaload, 1) := by decide +kernel
theorem dX7_berth_57 : decode cX7_berth 57 = .ok (.ireturn, 1) := by decide +kernel
theorem dX7_berth_58 : decode cX7_berth 58 = .ok (.aload_n 0, 1) := by decide +kernel
theorem dX7_berth_59 : decode cX7_berth 59 = .ok (.getfield 19, 3) := by decide +kernel
theorem dX7_berth_62 : decode cX7_berth 62 = .ok (.getfield 138, 3) := by decide +kernel
theorem dX7_berth_65 : decode cX7_berth 65 = .ok (.iload_n 1, 1) := by decide +kernel
theorem dX7_berth_66 : decode cX7_berth 66 = .ok (.iaload, 1) := by decide +kernel
theorem dX7_berth_67 : decode cX7_berth 67 = .ok (.ireturn, 1) := by decide +kernel
theorem dX7_berth_68 : decode cX7_berth 68 = .ok (.aload_n 0, 1) := by decide +kernel
theorem dX7_berth_69 : decode cX7_berth 69 = .ok (.getfield 31, 3) := by decide +kernel
theorem dX7_berth_72 : decode cX7_berth 72 = .ok (.iload_n 1, 1) := by decide +kernel
theorem dX7_berth_73 : decode cX7_berth 73 = .ok (.invokevirtual 141, 3) := by decide +kernel
theorem dX7_berth_76 : decode cX7_berth 76 = .ok (.ireturn, 1) := by decide +kernel
theorem dX7_berth_77 : decode cX7_berth 77 = .ok (.aload_n 0, 1) := by decide +kernel
theorem dX7_berth_78 : decode cX7_berth 78 = .ok (.getfield 31, 3) := by decide +kernel
theorem dX7_berth_81 : decode cX7_berth 81 = .ok (.iload_n 1, 1) := by decide +kernel
theorem dX7_berth_82 : decode cX7_berth 82 = .ok (.invokevirtual 114, 3) := by decide +kernel
theorem dX7_berth_85 : decode cX7_berth 85 = .ok (.ireturn, 1) := by decide +kernel
theorem dX7_berth_86 : decode cX7_berth 86 = .ok (.aload_n 0, 1) := by decide +kernel
theorem dX7_berth_87 : decode cX7_berth 87 = .ok (.getfield 31, 3) := by decide +kernel
theorem dX7_berth_90 : decode cX7_berth 90 = .ok (.getfield 144, 3) := by decide +kernel
theorem dX7_berth_93 : decode cX7_berth 93 = .ok (.iload_n 1, 1) := by decide +kernel
theorem dX7_berth_94 : decode cX7_berth 94 = .ok (.iaload, 1) := by decide +kernel
theorem dX7_berth_95 : decode cX7_berth 95 = .ok (.ireturn, 1) := by decide +kernel
theorem dX7_berth_96 : decode cX7_berth 96 = .ok (.bipush (-2), 2) := by decide +kernel
theorem dX7_berth_98 : decode cX7_berth 98 = .ok (.ireturn, 1) := by decide +kernel
theorem dX7_dream_0 : decode cX7_dream 0 = .ok (.aload_n 0, 1) := by decide +kernel
theorem dX7_dream_1 : decode cX7_dream 1 = .ok (.getfield 19, 3) := by decide +kernel
theorem dX7_dream_4 : decode cX7_dream 4 = .ok (.iload_n 1, 1) := by decide +kernel
theorem dX7_dream_5 : decode cX7_dream 5 = .ok (.invokevirtual 147, 3) := by decide +kernel
theorem dX7_dream_8 : decode cX7_dream 8 = .ok (.ifCond .ne 5, 3) := by decide +kernel
theorem dX7_dream_11 : decode cX7_dream 11 = .ok (.iconst (-1), 1) := by decide +kernel
theorem dX7_dream_12 : decode cX7_dream 12 = .ok (.ireturn, 1) := by decide +kernel
theorem dX7_dream_13 : decode cX7_dream 13 = .ok (.iload_n 2, 1) := by decide +kernel
theorem dX7_dream_14 : decode cX7_dream 14 = .ok (.tableswitch 114 0 4 #[34, 44, 54, 64, 90], 34) := by decide +kernel
theorem dX7_dream_48 : decode cX7_dream 48 = .ok (.aload_n 0, 1) := by decide +kernel
theorem dX7_dream_49 : decode cX7_dream 49 = .ok (.getfield 31, 3) := by decide +kernel
theorem dX7_dream_52 : decode cX7_dream 52 = .ok (.getfield 150, 3) := by decide +kernel
theorem dX7_dream_55 : decode cX7_dream 55 = .ok (.iload_n 1, 1) := by decide +kernel
theorem dX7_dream_56 : decode cX7_dream 56 = .ok (.iaload, 1) := by decide +kernel
theorem dX7_dream_57 : decode cX7_dream 57 = .ok (.ireturn, 1) := by decide +kernel
theorem dX7_dream_58 : decode cX7_dream 58 = .ok (.aload_n 0, 1) := by decide +kernel
theorem dX7_dream_59 : decode cX7_dream 59 = .ok (.getfield 19, 3) := by decide +kernel
theorem dX7_dream_62 : decode cX7_dream 62 = .ok (.getfield 153, 3) := by decide +kernel
theorem dX7_dream_65 : decode cX7_dream 65 = .ok (.iload_n 1, 1) := by decide +kernel
theorem dX7_dream_66 : decode cX7_dream 66 = .ok (.iaload, 1) := by decide +kernel
theorem dX7_dream_67 : decode cX7_dream 67 = .ok (.ireturn, 1) := by decide +kernel
theorem dX7_dream_68 : decode cX7_dream 68 = .ok (.aload_n 0, 1) := by decide +kernel
theorem dX7_dream_69 : decode cX7_dream 69 = .ok (.getfield 31, 3) := by decide +kernel
theorem dX7_dream_72 : decode cX7_dream 72 = .ok (.getfield 156, 3) := by decide +kernel
theorem dX7_dream_75 : decode cX7_dream 75 = .ok (.iload_n 1, 1) := by decide +kernel
theorem dX7_dream_76 : decode cX7_dream 76 = .ok (.iaload, 1) := by decide +kernel
theorem dX7_dream_77 : decode cX7_dream 77 = .ok (.ireturn, 1) := by decide +kernel
theorem dX7_dream_78 : decode cX7_dream 78 = .ok (.aload_n 0, 1) := by decide +kernel
theorem dX7_dream_79 : decode cX7_dream 79 = .ok (.getfield 31, 3) := by decide +kernel
theorem dX7_dream_82 : decode cX7_dream 82 = .ok (.iload_n 1, 1) := by decide +kernel
theorem dX7_dream_83 : decode cX7_dream 83 = .ok (.invokevirtual 159, 3) := by decide +kernel
theorem dX7_dream_86 : decode cX7_dream 86 = .ok (.ifCond .eq 15, 3) := by decide +kernel
theorem dX7_dream_89 : decode cX7_dream 89 = .ok (.aload_n 0, 1) := by decide +kernel
theorem dX7_dream_90 : decode cX7_dream 90 = .ok (.getfield 31, 3) := by decide +kernel
theorem dX7_dream_93 : decode cX7_dream 93 = .ok (.getfield 162, 3) := by decide +kernel
theorem dX7_dream_96 : decode cX7_dream 96 = .ok (.iload_n 1, 1) := by decide +kernel
theorem dX7_dream_97 : decode cX7_dream 97 = .ok (.iaload, 1) := by decide +kernel
theorem dX7_dream_98 : decode cX7_dream 98 = .ok (.goto 5, 3) := by decide +kernel
theorem dX7_dream_101 : decode cX7_dream 101 = .ok (.bipush (-9), 2) := by decide +kernel
theorem dX7_dream_103 : decode cX7_dream 103 = .ok (.ireturn, 1) := by decide +kernel
theorem dX7_dream_104 : decode cX7_dream 104 = .ok (.aload_n 0, 1) := by decide +kernel
theorem dX7_dream_105 : decode cX7_dream 105 = .ok (.getfield 31, 3) := by decide +kernel
theorem dX7_dream_108 : decode cX7_dream 108 = .ok (.iload_n 1, 1) := by decide +kernel
theorem dX7_dream_109 : decode cX7_dream 109 = .ok (.invokevirtual 159, 3) := by decide +kernel
theorem dX7_dream_112 : decode cX7_dream 112 = .ok (.ifCond .eq 14, 3) := by decide +kernel
theorem dX7_dream_115 : decode cX7_dream 115 = .ok (.aload_n 0, 1) := by decide +kernel
theorem dX7_dream_116 : decode cX7_dream 116 = .ok (.getfield 31, 3) := by decide +kernel
theorem dX7_dream_119 : decode cX7_dream 119 = .ok (.iload_n 1, 1) := by decide +kernel
theorem dX7_dream_120 : decode cX7_dream 120 = .ok (.invokevirtual 165, 3) := by decide +kernel
theorem dX7_dream_123 : decode cX7_dream 123 = .ok (.goto 4, 3) := by decide +kernel
theorem dX7_dream_126 : decode cX7_dream 126 = .ok (.iconst 0, 1) := by decide +kernel
theorem dX7_dream_127 : decode cX7_dream 127 = .ok (.ireturn, 1) := by decide +kernel
theorem dX7_dream_128 : decode cX7_dream 128 = .ok (.bipush (-2), 2) := by decide +kernel
theorem dX7_dream_130 : decode cX7_dream 130 = .ok (.ireturn, 1) := by decide +kernel
theorem dX7_night_0 : decode cX7_night 0 = .ok (.aload_n 0, 1) := by decide +kernel
theorem dX7_night_1 : decode cX7_night 1 = .ok (.getfield 41, 3) := by decide +kernel
theorem dX7_night_4 : decode cX7_night 4 = .ok (.aload_n 0, 1) := by decide +kernel
theorem dX7_night_5 : decode cX7_night 5 = .ok (.getfield 31, 3) := by decide +kernel
theorem dX7_night_8 : decode cX7_night 8 = .ok (.invokevirtual 168, 3) := by decide +kernel
theorem dX7_night_11 : decode cX7_night 11 = .ok (.aload_n 0, 1) := by decide +kernel
theorem dX7_night_12 : decode cX7_night 12 = .ok (.getfield 31, 3) := by decide +kernel
theorem dX7_night_15 : decode cX7_night 15 = .ok (.invokevirtual 172, 3) := by decide +kernel
theorem dX7_night_18 : decode cX7_night 18 = .ok (.ireturn, 1) := by decide +kernel
theorem dX7_moor_0 : decode cX7_moor 0 = .ok (.aload_n 0, 1) := by decide +kernel
theorem dX7_moor_1 : decode cX7_moor 1 = .ok (.getfield 19, 3) := by decide +kernel
theorem dX7_moor_4 : decode cX7_moor 4 = .ok (.iload_n 1, 1) := by decide +kernel
theorem dX7_moor_5 : decode cX7_moor 5 = .ok (.invokevirtual 147, 3) := by decide +kernel
theorem dX7_moor_8 : decode cX7_moor 8 = .ok (.ifCond .eq 14, 3) := by decide +kernel
theorem dX7_moor_11 : decode cX7_moor 11 = .ok (.aload_n 0, 1) := by decide +kernel
theorem dX7_moor_12 : decode cX7_moor 12 = .ok (.getfield 19, 3) := by decide +kernel
theorem dX7_moor_15 : decode cX7_moor 15 = .ok (.iload_n 2, 1) := by decide +kernel
theorem dX7_moor_16 : decode cX7_moor 16 = .ok (.invokevirtual 130, 3) := by decide +kernel
theorem dX7_moor_19 : decode cX7_moor 19 = .ok (.ifCond .ne 5, 3) := by decide +kernel
theorem dX7_moor_22 : decode cX7_moor 22 = .ok (.iconst (-1), 1) := by decide +kernel
theorem dX7_moor_23 : decode cX7_moor 23 = .ok (.ireturn, 1) := by decide +kernel
theorem dX7_moor_24 : decode cX7_moor 24 = .ok (.aload_n 0, 1) := by decide +kernel
theorem dX7_moor_25 : decode cX7_moor 25 = .ok (.getfield 31, 3) := by decide +kernel
theorem dX7_moor_28 : decode cX7_moor 28 = .ok (.iload_n 1, 1) := by decide +kernel
theorem dX7_moor_29 : decode cX7_moor 29 = .ok (.iload_n 2, 1) := by decide +kernel
theorem dX7_moor_30 : decode cX7_moor 30 = .ok (.invokevirtual 175, 3) := by decide +kernel
theorem dX7_moor_33 : decode cX7_moor 33 = .ok (.ifCond .ne 6, 3) := by decide +kernel
theorem dX7_moor_36 : decode cX7_moor 36 = .ok (.bipush (-3), 2) := by decide +kernel
theorem dX7_moor_38 : decode cX7_moor 38 = .ok (.ireturn, 1) := by decide +kernel
theorem dX7_moor_39 : decode cX7_moor 39 = .ok (.aload_n 0, 1) := by decide +kernel
theorem dX7_moor_40 : decode cX7_moor 40 = .ok (.getfield 41, 3) := by decide +kernel
theorem dX7_moor_43 : decode cX7_moor 43 = .ok (.aload_n 0, 1) := by decide +kernel
theorem dX7_moor_44 : decode cX7_moor 44 = .ok (.getfield 31, 3) := by decide +kernel
theorem dX7_moor_47 : decode cX7_moor 47 = .ok (.invokevirtual 168, 3) := by decide +kernel
theorem dX7_moor_50 : decode cX7_moor 50 = .ok (.aload_n 0, 1) := by decide +kernel
theorem dX7_moor_51 : decode cX7_moor 51 = .ok (.getfield 31, 3) := by decide +kernel
theorem dX7_moor_54 : decode cX7_moor 54 = .ok (.getfield 156, 3) := by decide +kernel
theorem dX7_moor_57 : decode cX7_moor 57 = .ok (.iload_n 1, 1) := by decide +kernel
theorem dX7_moor_58 : decode cX7_moor 58 = .ok (.iload_n 2, 1) := by decide +kernel
theorem dX7_moor_59 : decode cX7_moor 59 = .ok (.iastore, 1) := by decide +kernel
theorem dX7_moor_60 : decode cX7_moor 60 = .ok (.aload_n 0, 1) := by decide +kernel
theorem dX7_moor_61 : decode cX7_moor 61 = .ok (.getfield 31, 3) := by decide +kernel
theorem dX7_moor_64 : decode cX7_moor 64 = .ok (.iload_n 2, 1) := by decide +kernel
theorem dX7_moor_65 : decode cX7_moor 65 = .ok (.invokevirtual 179, 3) := by decide +kernel
theorem dX7_moor_68 : decode cX7_moor 68 = .ok (.ireturn, 1) := by decide +kernel
theorem dX7_tow_0 : decode cX7_tow 0 = .ok (.aload_n 0, 1) := by decide +kernel
theorem dX7_tow_1 : decode cX7_tow 1 = .ok (.getfield 19, 3) := by decide +kernel
theorem dX7_tow_4 : decode cX7_tow 4 = .ok (.iload_n 1, 1) := by decide +kernel
theorem dX7_tow_5 : decode cX7_tow 5 = .ok (.invokevirtual 147, 3) := by decide +kernel
theorem dX7_tow_8 : decode cX7_tow 8 = .ok (.ifCond .ne 5, 3) := by decide +kernel
theorem dX7_tow_11 : decode cX7_tow 11 = .ok (.iconst (-1), 1) := by decide +kernel
theorem dX7_tow_12 : decode cX7_tow 12 = .ok (.ireturn, 1) := by decide +kernel
theorem dX7_tow_13 : decode cX7_tow 13 = .ok (.aload_n 0, 1) := by decide +kernel
theorem dX7_tow_14 : decode cX7_tow 14 = .ok (.getfield 31, 3) := by decide +kernel
theorem dX7_tow_17 : decode cX7_tow 17 = .ok (.iload_n 1, 1) := by decide +kernel
theorem dX7_tow_18 : decode cX7_tow 18 = .ok (.invokevirtual 182, 3) := by decide +kernel
theorem dX7_tow_21 : decode cX7_tow 21 = .ok (.ifCond .ne 6, 3) := by decide +kernel
theorem dX7_tow_24 : decode cX7_tow 24 = .ok (.bipush (-3), 2) := by decide +kernel
theorem dX7_tow_26 : decode cX7_tow 26 = .ok (.ireturn, 1) := by decide +kernel
theorem dX7_tow_27 : decode cX7_tow 27 = .ok (.aload_n 0, 1) := by decide +kernel
theorem dX7_tow_28 : decode cX7_tow 28 = .ok (.getfield 41, 3) := by decide +kernel
theorem dX7_tow_31 : decode cX7_tow 31 = .ok (.aload_n 0, 1) := by decide +kernel
theorem dX7_tow_32 : decode cX7_tow 32 = .ok (.getfield 31, 3) := by decide +kernel
theorem dX7_tow_35 : decode cX7_tow 35 = .ok (.invokevirtual 168, 3) := by decide +kernel
theorem dX7_tow_38 : decode cX7_tow 38 = .ok (.aload_n 0, 1) := by decide +kernel
theorem dX7_tow_39 : decode cX7_tow 39 = .ok (.getfield 31, 3) := by decide +kernel
theorem dX7_tow_42 : decode cX7_tow 42 = .ok (.getfield 156, 3) := by decide +kernel
theorem dX7_tow_45 : decode cX7_tow 45 = .ok (.iload_n 1, 1) := by decide +kernel
theorem dX7_tow_46 : decode cX7_tow 46 = .ok (.iaload, 1) := by decide +kernel
theorem dX7_tow_47 : decode cX7_tow 47 = .ok (.istore_n 2, 1) := by decide +kernel
theorem dX7_tow_48 : decode cX7_tow 48 = .ok (.aload_n 0, 1) := by decide +kernel
theorem dX7_tow_49 : decode cX7_tow 49 = .ok (.getfield 31, 3) := by decide +kernel
theorem dX7_tow_52 : decode cX7_tow 52 = .ok (.iload_n 1, 1) := by decide +kernel
theorem dX7_tow_53 : decode cX7_tow 53 = .ok (.invokevirtual 185, 3) := by decide +kernel
theorem dX7_tow_56 : decode cX7_tow 56 = .ok (.iload_n 2, 1) := by decide +kernel
theorem dX7_tow_57 : decode cX7_tow 57 = .ok (.ireturn, 1) := by decide +kernel
theorem dX7_undo_0 : decode cX7_undo 0 = .ok (.aload_n 0, 1) := by decide +kernel
theorem dX7_undo_1 : decode cX7_undo 1 = .ok (.getfield 41, 3) := by decide +kernel
theorem dX7_undo_4 : decode cX7_undo 4 = .ok (.getfield 123, 3) := by decide +kernel
theorem dX7_undo_7 : decode cX7_undo 7 = .ok (.ifCond .ne 6, 3) := by decide +kernel
theorem dX7_undo_10 : decode cX7_undo 10 = .ok (.bipush (-3), 2) := by decide +kernel
theorem dX7_undo_12 : decode cX7_undo 12 = .ok (.ireturn, 1) := by decide +kernel
theorem dX7_undo_13 : decode cX7_undo 13 = .ok (.aload_n 0, 1) := by decide +kernel
theorem dX7_undo_14 : decode cX7_undo 14 = .ok (.getfield 41, 3) := by decide +kernel
theorem dX7_undo_17 : decode cX7_undo 17 = .ok (.aload_n 0, 1) := by decide +kernel
theorem dX7_undo_18 : decode cX7_undo 18 = .ok (.getfield 31, 3) := by decide +kernel
theorem dX7_undo_21 : decode cX7_undo 21 = .ok (.invokevirtual 189, 3) := by decide +kernel
theorem dX7_undo_24 : decode cX7_undo 24 = .ok (.aload_n 0, 1) := by decide +kernel
theorem dX7_undo_25 : decode cX7_undo 25 = .ok (.getfield 41, 3) := by decide +kernel
theorem dX7_undo_28 : decode cX7_undo 28 = .ok (.getfield 123, 3) := by decide +kernel
theorem dX7_undo_31 : decode cX7_undo 31 = .ok (.ireturn, 1) := by decide +kernel
theorem dX7_later_0 : decode cX7_later 0 = .ok (.aload_n 0, 1) := by decide +kernel
theorem dX7_later_1 : decode cX7_later 1 = .ok (.getfield 19, 3) := by decide +kernel
theorem dX7_later_4 : decode cX7_later 4 = .ok (.iload_n 1, 1) := by decide +kernel
theorem dX7_later_5 : decode cX7_later 5 = .ok (.invokevirtual 147, 3) := by decide +kernel
theorem dX7_later_8 : decode cX7_later 8 = .ok (.ifCond .ne 5, 3) := by decide +kernel
theorem dX7_later_11 : decode cX7_later 11 = .ok (.iconst (-1), 1) := by decide +kernel
theorem dX7_later_12 : decode cX7_later 12 = .ok (.ireturn, 1) := by decide +kernel
theorem dX7_later_13 : decode cX7_later 13 = .ok (.iload_n 2, 1) := by decide +kernel
theorem dX7_later_14 : decode cX7_later 14 = .ok (.invokestatic 192, 3) := by decide +kernel
theorem dX7_later_17 : decode cX7_later 17 = .ok (.ifCond .ne 6, 3) := by decide +kernel
theorem dX7_later_20 : decode cX7_later 20 = .ok (.bipush (-2), 2) := by decide +kernel
theorem dX7_later_22 : decode cX7_later 22 = .ok (.ireturn, 1) := by decide +kernel
theorem dX7_later_23 : decode cX7_later 23 = .ok (.aload_n 0, 1) := by decide +kernel
theorem dX7_later_24 : decode cX7_later 24 = .ok (.iload_n 2, 1) := by decide +kernel
theorem dX7_later_25 : decode cX7_later 25 = .ok (.invokevirtual 195, 3) := by decide +kernel
theorem dX7_later_28 : decode cX7_later 28 = .ok (.aload_n 0, 1) := by decide +kernel
theorem dX7_later_29 : decode cX7_later 29 = .ok (.getfield 35, 3) := by decide +kernel
theorem dX7_later_32 : decode cX7_later 32 = .ok (.getfield 156, 3) := by decide +kernel
theorem dX7_later_35 : decode cX7_later 35 = .ok (.iload_n 1, 1) := by decide +kernel
theorem dX7_later_36 : decode cX7_later 36 = .ok (.iaload, 1) := by decide +kernel
theorem dX7_later_37 : decode cX7_later 37 = .ok (.ireturn, 1) := by decide +kernel
theorem dX7_wakes_0 : decode cX7_wakes 0 = .ok (.aload_n 0, 1) := by decide +kernel
theorem dX7_wakes_1 : decode cX7_wakes 1 = .ok (.getfield 19, 3) := by decide +kernel
theorem dX7_wakes_4 : decode cX7_wakes 4 = .ok (.iload_n 1, 1) := by decide +kernel
theorem dX7_wakes_5 : decode cX7_wakes 5 = .ok (.invokevirtual 130, 3) := by decide +kernel
theorem dX7_wakes_8 : decode cX7_wakes 8 = .ok (.ifCond .ne 5, 3) := by decide +kernel
theorem dX7_wakes_11 : decode cX7_wakes 11 = .ok (.iconst (-1), 1) := by decide +kernel
theorem dX7_wakes_12 : decode cX7_wakes 12 = .ok (.ireturn, 1) := by decide +kernel
theorem dX7_wakes_13 : decode cX7_wakes 13 = .ok (.iload_n 2, 1) := by decide +kernel
theorem dX7_wakes_14 : decode cX7_wakes 14 = .ok (.invokestatic 192, 3) := by decide +kernel
theorem dX7_wakes_17 : decode cX7_wakes 17 = .ok (.ifCond .ne 6, 3) := by decide +kernel
theorem dX7_wakes_20 : decode cX7_wakes 20 = .ok (.bipush (-2), 2) := by decide +kernel
theorem dX7_wakes_22 : decode cX7_wakes 22 = .ok (.ireturn, 1) := by decide +kernel
theorem dX7_wakes_23 : decode cX7_wakes 23 = .ok (.aload_n 0, 1) := by decide +kernel
theorem dX7_wakes_24 : decode cX7_wakes 24 = .ok (.iload_n 2, 1) := by decide +kernel
theorem dX7_wakes_25 : decode cX7_wakes 25 = .ok (.invokevirtual 195, 3) := by decide +kernel
theorem dX7_wakes_28 : decode cX7_wakes 28 = .ok (.aload_n 0, 1) := by decide +kernel
theorem dX7_wakes_29 : decode cX7_wakes 29 = .ok (.getfield 35, 3) := by decide +kernel
theorem dX7_wakes_32 : decode cX7_wakes 32 = .ok (.getfield 144, 3) := by decide +kernel
theorem dX7_wakes_35 : decode cX7_wakes 35 = .ok (.iload_n 1, 1) := by decide +kernel
theorem dX7_wakes_36 : decode cX7_wakes 36 = .ok (.iaload, 1) := by decide +kernel
theorem dX7_wakes_37 : decode cX7_wakes 37 = .ok (.ireturn, 1) := by decide +kernel
theorem dX7_fits_0 : decode cX7_fits 0 = .ok (.aload_n 0, 1) := by decide +kernel
theorem dX7_fits_1 : decode cX7_fits 1 = .ok (.getfield 19, 3) := by decide +kernel
theorem dX7_fits_4 : decode cX7_fits 4 = .ok (.iload_n 1, 1) := by decide +kernel
theorem dX7_fits_5 : decode cX7_fits 5 = .ok (.invokevirtual 147, 3) := by decide +kernel
theorem dX7_fits_8 : decode cX7_fits 8 = .ok (.ifCond .ne 5, 3) := by decide +kernel
theorem dX7_fits_11 : decode cX7_fits 11 = .ok (.iconst (-1), 1) := by decide +kernel
theorem dX7_fits_12 : decode cX7_fits 12 = .ok (.ireturn, 1) := by decide +kernel
theorem dX7_fits_13 : decode cX7_fits 13 = .ok (.iload_n 2, 1) := by decide +kernel
theorem dX7_fits_14 : decode cX7_fits 14 = .ok (.invokestatic 192, 3) := by decide +kernel
theorem dX7_fits_17 : decode cX7_fits 17 = .ok (.ifCond .ne 6, 3) := by decide +kernel
theorem dX7_fits_20 : decode cX7_fits 20 = .ok (.bipush (-2), 2) := by decide +kernel
theorem dX7_fits_22 : decode cX7_fits 22 = .ok (.ireturn, 1) := by decide +kernel
theorem dX7_fits_23 : decode cX7_fits 23 = .ok (.aload_n 0, 1) := by decide +kernel
theorem dX7_fits_24 : decode cX7_fits 24 = .ok (.iload_n 2, 1) := by decide +kernel
theorem dX7_fits_25 : decode cX7_fits 25 = .ok (.invokevirtual 195, 3) := by decide +kernel
theorem dX7_fits_28 : decode cX7_fits 28 = .ok (.aload_n 0, 1) := by decide +kernel
theorem dX7_fits_29 : decode cX7_fits 29 = .ok (.getfield 35, 3) := by decide +kernel
theorem dX7_fits_32 : decode cX7_fits 32 = .ok (.iload_n 1, 1) := by decide +kernel
theorem dX7_fits_33 : decode cX7_fits 33 = .ok (.invokevirtual 198, 3) := by decide +kernel
theorem dX7_fits_36 : decode cX7_fits 36 = .ok (.ireturn, 1) := by decide +kernel
theorem dX7_soonest_0 : decode cX7_soonest 0 = .ok (.aload_n 0, 1) := by decide +kernel
theorem dX7_soonest_1 : decode cX7_soonest 1 = .ok (.getfield 19, 3) := by decide +kernel
theorem dX7_soonest_4 : decode cX7_soonest 4 = .ok (.iload_n 1, 1) := by decide +kernel
theorem dX7_soonest_5 : decode cX7_soonest 5 = .ok (.invokevirtual 147, 3) := by decide +kernel
theorem dX7_soonest_8 : decode cX7_soonest 8 = .ok (.ifCond .ne 5, 3) := by decide +kernel
theorem dX7_soonest_11 : decode cX7_soonest 11 = .ok (.iconst (-1), 1) := by decide +kernel
theorem dX7_soonest_12 : decode cX7_soonest 12 = .ok (.ireturn, 1) := by decide +kernel
theorem dX7_soonest_13 : decode cX7_soonest 13 = .ok (.aload_n 0, 1) := by decide +kernel
theorem dX7_soonest_14 : decode cX7_soonest 14 = .ok (.getfield 31, 3) := by decide +kernel
theorem dX7_soonest_17 : decode cX7_soonest 17 = .ok (.getfield 156, 3) := by decide +kernel
theorem dX7_soonest_20 : decode cX7_soonest 20 = .ok (.iload_n 1, 1) := by decide +kernel
theorem dX7_soonest_21 : decode cX7_soonest 21 = .ok (.iaload, 1) := by decide +kernel
theorem dX7_soonest_22 : decode cX7_soonest 22 = .ok (.bipush 9, 2) := by decide +kernel
theorem dX7_soonest_24 : decode cX7_soonest 24 = .ok (.if_icmp .ne 6, 3) := by decide +kernel
theorem dX7_soonest_27 : decode cX7_soonest 27 = .ok (.bipush (-3), 2) := by decide +kernel
theorem dX7_soonest_29 : decode cX7_soonest 29 = .ok (.ireturn, 1) := by decide +kernel
theorem dX7_soonest_30 : decode cX7_soonest 30 = .ok (.aload_n 0, 1) := by decide +kernel
theorem dX7_soonest_31 : decode cX7_soonest 31 = .ok (.getfield 35, 3) := by decide +kernel
theorem dX7_soonest_34 : decode cX7_soonest 34 = .ok (.aload_n 0, 1) := by decide +kernel
theorem dX7_soonest_35 : decode cX7_soonest 35 = .ok (.getfield 31, 3) := by decide +kernel
theorem dX7_soonest_38 : decode cX7_soonest 38 = .ok (.invokevirtual 201, 3) := by decide +kernel
theorem dX7_soonest_41 : decode cX7_soonest 41 = .ok (.iconst 0, 1) := by decide +kernel
theorem dX7_soonest_42 : decode cX7_soonest 42 = .ok (.istore_n 2, 1) := by decide +kernel
theorem dX7_soonest_43 : decode cX7_soonest 43 = .ok (.iload_n 2, 1) := by decide +kernel
theorem dX7_soonest_44 : decode cX7_soonest 44 = .ok (.bipush 20, 2) := by decide +kernel
theorem dX7_soonest_46 : decode cX7_soonest 46 = .ok (.if_icmp .gt 30, 3) := by decide +kernel
theorem dX7_soonest_49 : decode cX7_soonest 49 = .ok (.aload_n 0, 1) := by decide +kernel
theorem dX7_soonest_50 : decode cX7_soonest 50 = .ok (.getfield 35, 3) := by decide +kernel
theorem dX7_soonest_53 : decode cX7_soonest 53 = .ok (.iload_n 1, 1) := by decide +kernel
theorem dX7_soonest_54 : decode cX7_soonest 54 = .ok (.invokevirtual 198, 3) := by decide +kernel
theorem dX7_soonest_57 : decode cX7_soonest 57 = .ok (.ifCond .eq 5, 3) := by decide +kernel
theorem dX7_soonest_60 : decode cX7_soonest 60 = .ok (.iload_n 2, 1) := by decide +kernel
theorem dX7_soonest_61 : decode cX7_soonest 61 = .ok (.ireturn, 1) := by decide +kernel
theorem dX7_soonest_62 : decode cX7_soonest 62 = .ok (.aload_n 0, 1) := by decide +kernel
theorem dX7_soonest_63 : decode cX7_soonest 63 = .ok (.getfield 35, 3) := by decide +kernel
theorem dX7_soonest_66 : decode cX7_soonest 66 = .ok (.invokevirtual 172, 3) := by decide +kernel
theorem dX7_soonest_69 : decode cX7_soonest 69 = .ok (.pop, 1) := by decide +kernel
theorem dX7_soonest_70 : decode cX7_soonest 70 = .ok (.iinc 2 1, 3) := by decide +kernel
theorem dX7_soonest_73 : decode cX7_soonest 73 = .ok (.goto (-30), 3) := by decide +kernel
theorem dX7_soonest_76 : decode cX7_soonest 76 = .ok (.bipush (-9), 2) := by decide +kernel
theorem dX7_soonest_78 : decode cX7_soonest 78 = .ok (.ireturn, 1) := by decide +kernel
theorem dX7_plan_0 : decode cX7_plan 0 = .ok (.aload_n 0, 1) := by decide +kernel
theorem dX7_plan_1 : decode cX7_plan 1 = .ok (.getfield 57, 3) := by decide +kernel
theorem dX7_plan_4 : decode cX7_plan 4 = .ok (.aload_n 0, 1) := by decide +kernel
theorem dX7_plan_5 : decode cX7_plan 5 = .ok (.getfield 31, 3) := by decide +kernel
theorem dX7_plan_8 : decode cX7_plan 8 = .ok (.aload_n 0, 1) := by decide +kernel
theorem dX7_plan_9 : decode cX7_plan 9 = .ok (.invokevirtual 204, 3) := by decide +kernel
theorem dX7_plan_12 : decode cX7_plan 12 = .ok (.invokevirtual 207, 3) := by decide +kernel
theorem dX7_plan_15 : decode cX7_plan 15 = .ok (.pop, 1) := by decide +kernel
theorem dX7_plan_16 : decode cX7_plan 16 = .ok (.iload_n 1, 1) := by decide +kernel
theorem dX7_plan_17 : decode cX7_plan 17 = .ok (.ifCond .eq 13, 3) := by decide +kernel
theorem dX7_plan_20 : decode cX7_plan 20 = .ok (.aload_n 0, 1) := by decide +kernel
theorem dX7_plan_21 : decode cX7_plan 21 = .ok (.getfield 57, 3) := by decide +kernel
theorem dX7_plan_24 : decode cX7_plan 24 = .ok (.getfield 211, 3) := by decide +kernel
theorem dX7_plan_27 : decode cX7_plan 27 = .ok (.goto 10, 3) := by decide +kernel
theorem dX7_plan_30 : decode cX7_plan 30 = .ok (.aload_n 0, 1) := by decide +kernel
theorem dX7_plan_31 : decode cX7_plan 31 = .ok (.getfield 57, 3) := by decide +kernel
theorem dX7_plan_34 : decode cX7_plan 34 = .ok (.getfield 214, 3) := by decide +kernel
theorem dX7_plan_37 : decode cX7_plan 37 = .ok (.ireturn, 1) := by decide +kernel
theorem dX7_judge_0 : decode cX7_judge 0 = .ok (.iload_n 1, 1) := by decide +kernel
theorem dX7_judge_1 : decode cX7_judge 1 = .ok (.iconst 1, 1) := by decide +kernel
theorem dX7_judge_2 : decode cX7_judge 2 = .ok (.if_icmp .lt 14, 3) := by decide +kernel
theorem dX7_judge_5 : decode cX7_judge 5 = .ok (.iload_n 1, 1) := by decide +kernel
theorem dX7_judge_6 : decode cX7_judge 6 = .ok (.iconst 4, 1) := by decide +kernel
theorem dX7_judge_7 : decode cX7_judge 7 = .ok (.if_icmp .gt 9, 3) := by decide +kernel
theorem dX7_judge_10 : decode cX7_judge 10 = .ok (.lload_n 2, 1) := by decide +kernel
theorem dX7_judge_11 : decode cX7_judge 11 = .ok (.lconst 0, 1) := by decide +kernel
theorem dX7_judge_12 : decode cX7_judge 12 = .ok (.lcmp, 1) := by decide +kernel
theorem dX7_judge_13 : decode cX7_judge 13 = .ok (.ifCond .ge 6, 3) := by decide +kernel
theorem dX7_judge_16 : decode cX7_judge 16 = .ok (.bipush (-2), 2) := by decide +kernel
theorem dX7_judge_18 : decode cX7_judge 18 = .ok (.ireturn, 1) := by decide +kernel
theorem dX7_judge_19 : decode cX7_judge 19 = .ok (.lload_n 2, 1) := by decide +kernel
theorem dX7_judge_20 : decode cX7_judge 20 = .ok (.iload_n 1, 1) := by decide +kernel
theorem dX7_judge_21 : decode cX7_judge 21 = .ok (.invokestatic 217, 3) := by decide +kernel
theorem dX7_judge_24 : decode cX7_judge 24 = .ok (.lconst 0, 1) := by decide +kernel
theorem dX7_judge_25 : decode cX7_judge 25 = .ok (.lcmp, 1) := by decide +kernel
theorem dX7_judge_26 : decode cX7_judge 26 = .ok (.ifCond .eq 6, 3) := by decide +kernel
theorem dX7_judge_29 : decode cX7_judge 29 = .ok (.bipush (-2), 2) := by decide +kernel
theorem dX7_judge_31 : decode cX7_judge 31 = .ok (.ireturn, 1) := by decide +kernel
theorem dX7_judge_32 : decode cX7_judge 32 = .ok (.aload_n 0, 1) := by decide +kernel
theorem dX7_judge_33 : decode cX7_judge 33 = .ok (.getfield 35, 3) := by decide +kernel
theorem dX7_judge_36 : decode cX7_judge 36 = .ok (.aload_n 0, 1) := by decide +kernel
theorem dX7_judge_37 : decode cX7_judge 37 = .ok (.getfield 31, 3) := by decide +kernel
theorem dX7_judge_40 : decode cX7_judge 40 = .ok (.invokevirtual 201, 3) := by decide +kernel
theorem dX7_judge_43 : decode cX7_judge 43 = .ok (.iconst 0, 1) := by decide +kernel
theorem dX7_judge_44 : decode cX7_judge 44 = .ok (.istore 4, 2) := by decide +kernel
theorem dX7_judge_46 : decode cX7_judge 46 = .ok (.iload 4, 2) := by decide +kernel
theorem dX7_judge_48 : decode cX7_judge 48 = .ok (.iload_n 1, 1) := by decide +kernel
theorem dX7_judge_49 : decode cX7_judge 49 = .ok (.if_icmp .ge 37, 3) := by decide +kernel
theorem dX7_judge_52 : decode cX7_judge 52 = .ok (.aload_n 0, 1) := by decide +kernel
theorem dX7_judge_53 : decode cX7_judge 53 = .ok (.getfield 35, 3) := by decide +kernel
theorem dX7_judge_56 : decode cX7_judge 56 = .ok (.lload_n 2, 1) := by decide +kernel
theorem dX7_judge_57 : decode cX7_judge 57 = .ok (.iload_n 1, 1) := by decide +kernel
theorem dX7_judge_58 : decode cX7_judge 58 = .ok (.iconst 1, 1) := by decide +kernel
theorem dX7_judge_59 : decode cX7_judge 59 = .ok (.isub, 1) := by decide +kernel
theorem dX7_judge_60 : decode cX7_judge 60 = .ok (.iload 4, 2) := by decide +kernel
theorem dX7_judge_62 : decode cX7_judge 62 = .ok (.isub, 1) := by decide +kernel
theorem dX7_judge_63 : decode cX7_judge 63 = .ok (.invokestatic 217, 3) := by decide +kernel
theorem dX7_judge_66 : decode cX7_judge 66 = .ok (.ldc2_w 221, 3) := by decide +kernel
theorem dX7_judge_69 : decode cX7_judge 69 = .ok (.lrem, 1) := by decide +kernel
theorem dX7_judge_70 : decode cX7_judge 70 = .ok (.l2i, 1) := by decide +kernel
theorem dX7_judge_71 : decode cX7_judge 71 = .ok (.invokevirtual 223, 3) := by decide +kernel
theorem dX7_judge_74 : decode cX7_judge 74 = .ok (.ifCond .ne 6, 3) := by decide +kernel
theorem dX7_judge_77 : decode cX7_judge 77 = .ok (.iload 4, 2) := by decide +kernel
theorem dX7_judge_79 : decode cX7_judge 79 = .ok (.ireturn, 1) := by decide +kernel
theorem dX7_judge_80 : decode cX7_judge 80 = .ok (.iinc 4 1, 3) := by decide +kernel
theorem dX7_judge_83 : decode cX7_judge 83 = .ok (.goto (-37), 3) := by decide +kernel
theorem dX7_judge_86 : decode cX7_judge 86 = .ok (.bipush (-9), 2) := by decide +kernel
theorem dX7_judge_88 : decode cX7_judge 88 = .ok (.ireturn, 1) := by decide +kernel
theorem dX7_share_0 : decode cX7_share 0 = .ok (.aload_n 0, 1) := by decide +kernel
theorem dX7_share_1 : decode cX7_share 1 = .ok (.getfield 19, 3) := by decide +kernel
theorem dX7_share_4 : decode cX7_share 4 = .ok (.iload_n 1, 1) := by decide +kernel
theorem dX7_share_5 : decode cX7_share 5 = .ok (.invokevirtual 130, 3) := by decide +kernel
theorem dX7_share_8 : decode cX7_share 8 = .ok (.ifCond .ne 5, 3) := by decide +kernel
theorem dX7_share_11 : decode cX7_share 11 = .ok (.iconst (-1), 1) := by decide +kernel
theorem dX7_share_12 : decode cX7_share 12 = .ok (.ireturn, 1) := by decide +kernel
theorem dX7_share_13 : decode cX7_share 13 = .ok (.iconst 0, 1) := by decide +kernel
theorem dX7_share_14 : decode cX7_share 14 = .ok (.istore_n 3, 1) := by decide +kernel
theorem dX7_share_15 : decode cX7_share 15 = .ok (.iconst 0, 1) := by decide +kernel
theorem dX7_share_16 : decode cX7_share 16 = .ok (.istore 4, 2) := by decide +kernel
theorem dX7_share_18 : decode cX7_share 18 = .ok (.iload 4, 2) := by decide +kernel
theorem dX7_share_20 : decode cX7_share 20 = .ok (.aload_n 0, 1) := by decide +kernel
theorem dX7_share_21 : decode cX7_share 21 = .ok (.invokevirtual 204, 3) := by decide +kernel
theorem dX7_share_24 : decode cX7_share 24 = .ok (.if_icmp .gt 87, 3) := by decide +kernel
theorem dX7_share_27 : decode cX7_share 27 = .ok (.iload 4, 2) := by decide +kernel
theorem dX7_share_29 : decode cX7_share 29 = .ok (.iload_n 1, 1) := by decide +kernel
theorem dX7_share_30 : decode cX7_share 30 = .ok (.ishr, 1) := by decide +kernel
theorem dX7_share_31 : decode cX7_share 31 = .ok (.iconst 1, 1) := by decide +kernel
theorem dX7_share_32 : decode cX7_share 32 = .ok (.iand, 1) := by decide +kernel
theorem dX7_share_33 : decode cX7_share 33 = .ok (.ifCond .ne 72, 3) := by decide +kernel
theorem dX7_share_36 : decode cX7_share 36 = .ok (.iload 4, 2) := by decide +kernel
theorem dX7_share_38 : decode cX7_share 38 = .ok (.invokestatic 226, 3) := by decide +kernel
theorem dX7_share_41 : decode cX7_share 41 = .ok (.istore 5, 2) := by decide +kernel
theorem dX7_share_43 : decode cX7_share 43 = .ok (.getstatic 231, 3) := by decide +kernel
theorem dX7_share_46 : decode cX7_share 46 = .ok (.iload 5, 2) := by decide +kernel
theorem dX7_share_48 : decode cX7_share 48 = .ok (.iaload, 1) := by decide +kernel
theorem dX7_share_49 : decode cX7_share 49 = .ok (.getstatic 231, 3) := by decide +kernel
theorem dX7_share_52 : decode cX7_share 52 = .ok (.aload_n 0, 1) := by decide +kernel
theorem dX7_share_53 : decode cX7_share 53 = .ok (.getfield 19, 3) := by decide +kernel
theorem dX7_share_56 : decode cX7_share 56 = .ok (.getfield 102, 3) := by decide +kernel
theorem dX7_share_59 : decode cX7_share 59 = .ok (.iconst 1, 1) := by decide +kernel
theorem dX7_share_60 : decode cX7_share 60 = .ok (.isub, 1) := by decide +kernel
theorem dX7_share_61 : decode cX7_share 61 = .ok (.iload 5, 2) := by decide +kernel
theorem dX7_share_63 : decode cX7_share 63 = .ok (.isub, 1) := by decide +kernel
theorem dX7_share_64 : decode cX7_share 64 = .ok (.iaload, 1) := by decide +kernel
theorem dX7_share_65 : decode cX7_share 65 = .ok (.imul, 1) := by decide +kernel
theorem dX7_share_66 : decode cX7_share 66 = .ok (.istore 6, 2) := by decide +kernel
theorem dX7_share_68 : decode cX7_share 68 = .ok (.iload_n 3, 1) := by decide +kernel
theorem dX7_share_69 : decode cX7_share 69 = .ok (.iload 6, 2) := by decide +kernel
theorem dX7_share_71 : decode cX7_share 71 = .ok (.aload_n 0, 1) := by decide +kernel
theorem dX7_share_72 : decode cX7_share 72 = .ok (.getfield 57, 3) := by decide +kernel
theorem dX7_share_75 : decode cX7_share 75 = .ok (.aload_n 0, 1) := by decide +kernel
theorem dX7_share_76 : decode cX7_share 76 = .ok (.getfield 31, 3) := by decide +kernel
theorem dX7_share_79 : decode cX7_share 79 = .ok (.iload 4, 2) := by decide +kernel
theorem dX7_share_81 : decode cX7_share 81 = .ok (.iconst 1, 1) := by decide +kernel
theorem dX7_share_82 : decode cX7_share 82 = .ok (.iload_n 1, 1) := by decide +kernel
theorem dX7_share_83 : decode cX7_share 83 = .ok (.ishl, 1) := by decide +kernel
theorem dX7_share_84 : decode cX7_share 84 = .ok (.ior, 1) := by decide +kernel
theorem dX7_share_85 : decode cX7_share 85 = .ok (.invokevirtual 207, 3) := by decide +kernel
theorem dX7_share_88 : decode cX7_share 88 = .ok (.aload_n 0, 1) := by decide +kernel
theorem dX7_share_89 : decode cX7_share 89 = .ok (.getfield 57, 3) := by decide +kernel
theorem dX7_share_92 : decode cX7_share 92 = .ok (.aload_n 0, 1) := by decide +kernel
theorem dX7_share_93 : decode cX7_share 93 = .ok (.getfield 31, 3) := by decide +kernel
theorem dX7_share_96 : decode cX7_share 96 = .ok (.iload 4, 2) := by decide +kernel
theorem dX7_share_98 : decode cX7_share 98 = .ok (.invokevirtual 207, 3) := by decide +kernel
theorem dX7_share_101 : decode cX7_share 101 = .ok (.isub, 1) := by decide +kernel
theorem dX7_share_102 : decode cX7_share 102 = .ok (.imul, 1) := by decide +kernel
theorem dX7_share_103 : decode cX7_share 103 = .ok (.iadd, 1) := by decide +kernel
theorem dX7_share_104 : decode cX7_share 104 = .ok (.istore_n 3, 1) := by decide +kernel
theorem dX7_share_105 : decode cX7_share 105 = .ok (.iinc 4 1, 3) := by decide +kernel
theorem dX7_share_108 : decode cX7_share 108 = .ok (.goto (-90), 3) := by decide +kernel
theorem dX7_share_111 : decode cX7_share 111 = .ok (.iload_n 3, 1) := by decide +kernel
theorem dX7_share_112 : decode cX7_share 112 = .ok (.getstatic 231, 3) := by decide +kernel
theorem dX7_share_115 : decode cX7_share 115 = .ok (.aload_n 0, 1) := by decide +kernel
theorem dX7_share_116 : decode cX7_share 116 = .ok (.getfield 19, 3) := by decide +kernel
theorem dX7_share_119 : decode cX7_share 119 = .ok (.getfield 102, 3) := by decide +kernel
theorem dX7_share_122 : decode cX7_share 122 = .ok (.iaload, 1) := by decide +kernel
theorem dX7_share_123 : decode cX7_share 123 = .ok (.iload_n 2, 1) := by decide +kernel
theorem dX7_share_124 : decode cX7_share 124 = .ok (.invokestatic 234, 3) := by decide +kernel
theorem dX7_share_127 : decode cX7_share 127 = .ok (.ireturn, 1) := by decide +kernel
theorem dX7_sound_0 : decode cX7_sound 0 = .ok (.iload_n 1, 1) := by decide +kernel
theorem dX7_sound_1 : decode cX7_sound 1 = .ok (.iconst 1, 1) := by decide +kernel
theorem dX7_sound_2 : decode cX7_sound 2 = .ok (.if_icmp .lt 28, 3) := by decide +kernel
theorem dX7_sound_5 : decode cX7_sound 5 = .ok (.iload_n 1, 1) := by decide +kernel
theorem dX7_sound_6 : decode cX7_sound 6 = .ok (.bipush 9, 2) := by decide +kernel
theorem dX7_sound_8 : decode cX7_sound 8 = .ok (.if_icmp .gt 22, 3) := by decide +kernel
theorem dX7_sound_11 : decode cX7_sound 11 = .ok (.iload_n 2, 1) := by decide +kernel
theorem dX7_sound_12 : decode cX7_sound 12 = .ok (.ifCond .lt 18, 3) := by decide +kernel
theorem dX7_sound_15 : decode cX7_sound 15 = .ok (.iload_n 2, 1) := by decide +kernel
theorem dX7_sound_16 : decode cX7_sound 16 = .ok (.bipush 9, 2) := by decide +kernel
theorem dX7_sound_18 : decode cX7_sound 18 = .ok (.if_icmp .gt 12, 3) := by decide +kernel
theorem dX7_sound_21 : decode cX7_sound 21 = .ok (.iload_n 3, 1) := by decide +kernel
theorem dX7_sound_22 : decode cX7_sound 22 = .ok (.ifCond .lt 8, 3) := by decide +kernel
theorem dX7_sound_25 : decode cX7_sound 25 = .ok (.iload_n 3, 1) := by decide +kernel
theorem dX7_sound_26 : decode cX7_sound 26 = .ok (.iconst 1, 1) := by decide +kernel
theorem dX7_sound_27 : decode cX7_sound 27 = .ok (.if_icmp .le 6, 3) := by decide +kernel
theorem dX7_sound_30 : decode cX7_sound 30 = .ok (.bipush (-2), 2) := by decide +kernel
theorem dX7_sound_32 : decode cX7_sound 32 = .ok (.ireturn, 1) := by decide +kernel
theorem dX7_sound_33 : decode cX7_sound 33 = .ok (.aload_n 0, 1) := by decide +kernel
theorem dX7_sound_34 : decode cX7_sound 34 = .ok (.getfield 48, 3) := by decide +kernel
theorem dX7_sound_37 : decode cX7_sound 37 = .ok (.iload_n 1, 1) := by decide +kernel
theorem dX7_sound_38 : decode cX7_sound 38 = .ok (.iload_n 2, 1) := by decide +kernel
theorem dX7_sound_39 : decode cX7_sound 39 = .ok (.iload_n 3, 1) := by decide +kernel
theorem dX7_sound_40 : decode cX7_sound 40 = .ok (.iconst 1, 1) := by decide +kernel
theorem dX7_sound_41 : decode cX7_sound 41 = .ok (.if_icmp .ne 7, 3) := by decide +kernel
theorem dX7_sound_44 : decode cX7_sound 44 = .ok (.iconst 1, 1) := by decide +kernel
theorem dX7_sound_45 : decode cX7_sound 45 = .ok (.goto 4, 3) := by decide +kernel
theorem dX7_sound_48 : decode cX7_sound 48 = .ok (.iconst 0, 1) := by decide +kernel
theorem dX7_sound_49 : decode cX7_sound 49 = .ok (.invokevirtual 238, 3) := by decide +kernel
theorem dX7_sound_52 : decode cX7_sound 52 = .ok (.ireturn, 1) := by decide +kernel
theorem dX7_unsound_0 : decode cX7_unsound 0 = .ok (.aload_n 0, 1) := by decide +kernel
theorem dX7_unsound_1 : decode cX7_unsound 1 = .ok (.getfield 48, 3) := by decide +kernel
theorem dX7_unsound_4 : decode cX7_unsound 4 = .ok (.invokevirtual 240, 3) := by decide +kernel
theorem dX7_unsound_7 : decode cX7_unsound 7 = .ok (.ireturn, 1) := by decide +kernel
theorem dX7_depths_0 : decode cX7_depths 0 = .ok (.iload_n 1, 1) := by decide +kernel
theorem dX7_depths_1 : decode cX7_depths 1 = .ok (.ifCond .lt 8, 3) := by decide +kernel
theorem dX7_depths_4 : decode cX7_depths 4 = .ok (.iload_n 1, 1) := by decide +kernel
theorem dX7_depths_5 : decode cX7_depths 5 = .ok (.iconst 1, 1) := by decide +kernel
theorem dX7_depths_6 : decode cX7_depths 6 = .ok (.if_icmp .le 6, 3) := by decide +kernel
theorem dX7_depths_9 : decode cX7_depths 9 = .ok (.bipush (-2), 2) := by decide +kernel
theorem dX7_depths_11 : decode cX7_depths 11 = .ok (.ireturn, 1) := by decide +kernel
theorem dX7_depths_12 : decode cX7_depths 12 = .ok (.iconst 0, 1) := by decide +kernel
theorem dX7_depths_13 : decode cX7_depths 13 = .ok (.istore_n 2, 1) := by decide +kernel
theorem dX7_depths_14 : decode cX7_depths 14 = .ok (.bipush (-9), 2) := by decide +kernel
theorem dX7_depths_16 : decode cX7_depths 16 = .ok (.istore_n 3, 1) := by decide +kernel
theorem dX7_depths_17 : decode cX7_depths 17 = .ok (.iconst 0, 1) := by decide +kernel
theorem dX7_depths_18 : decode cX7_depths 18 = .ok (.istore 4, 2) := by decide +kernel
theorem dX7_depths_20 : decode cX7_depths 20 = .ok (.iload 4, 2) := by decide +kernel
theorem dX7_depths_22 : decode cX7_depths 22 = .ok (.iconst 3, 1) := by decide +kernel
theorem dX7_depths_23 : decode cX7_depths 23 = .ok (.if_icmp .gt 65, 3) := by decide +kernel
theorem dX7_depths_26 : decode cX7_depths 26 = .ok (.iconst 0, 1) := by decide +kernel
theorem dX7_depths_27 : decode cX7_depths 27 = .ok (.istore 5, 2) := by decide +kernel
theorem dX7_depths_29 : decode cX7_depths 29 = .ok (.iload 5, 2) := by decide +kernel
theorem dX7_depths_31 : decode cX7_depths 31 = .ok (.bipush 9, 2) := by decide +kernel
theorem dX7_depths_33 : decode cX7_depths 33 = .ok (.if_icmp .gt 49, 3) := by decide +kernel
theorem dX7_depths_36 : decode cX7_depths 36 = .ok (.aload_n 0, 1) := by decide +kernel
theorem dX7_depths_37 : decode cX7_depths 37 = .ok (.getfield 48, 3) := by decide +kernel
theorem dX7_depths_40 : decode cX7_depths 40 = .ok (.iload 4, 2) := by decide +kernel
theorem dX7_depths_42 : decode cX7_depths 42 = .ok (.iload 5, 2) := by decide +kernel
theorem dX7_depths_44 : decode cX7_depths 44 = .ok (.aload_n 0, 1) := by decide +kernel
theorem dX7_depths_45 : decode cX7_depths 45 = .ok (.getfield 19, 3) := by decide +kernel
theorem dX7_depths_48 : decode cX7_depths 48 = .ok (.invokevirtual 241, 3) := by decide +kernel
theorem dX7_depths_51 : decode cX7_depths 51 = .ok (.ifCond .eq 25, 3) := by decide +kernel
theorem dX7_depths_54 : decode cX7_depths 54 = .ok (.iinc 2 1, 3) := by decide +kernel
theorem dX7_depths_57 : decode cX7_depths 57 = .ok (.iload_n 3, 1) := by decide +kernel
theorem dX7_depths_58 : decode cX7_depths 58 = .ok (.bipush (-9), 2) := by decide +kernel
theorem dX7_depths_60 : decode cX7_depths 60 = .ok (.if_icmp .ne 14, 3) := by decide +kernel
theorem dX7_depths_63 : decode cX7_depths 63 = .ok (.bipush 10, 2) := by decide +kernel
theorem dX7_depths_65 : decode cX7_depths 65 = .ok (.iload 4, 2) := by decide +kernel
theorem dX7_depths_67 : decode cX7_depths 67 = .ok (.imul, 1) := by decide +kernel
theorem dX7_depths_68 : decode cX7_depths 68 = .ok (.iload 5, 2) := by decide +kernel
theorem dX7_depths_70 : decode cX7_depths 70 = .ok (.iadd, 1) := by decide +kernel
theorem dX7_depths_71 : decode cX7_depths 71 = .ok (.goto 4, 3) := by decide +kernel
theorem dX7_depths_74 : decode cX7_depths 74 = .ok (.iload_n 3, 1) := by decide +kernel
theorem dX7_depths_75 : decode cX7_depths 75 = .ok (.istore_n 3, 1) := by decide +kernel
theorem dX7_depths_76 : decode cX7_depths 76 = .ok (.iinc 5 1, 3) := by decide +kernel
theorem dX7_depths_79 : decode cX7_depths 79 = .ok (.goto (-50), 3) := by decide +kernel
theorem dX7_depths_82 : decode cX7_depths 82 = .ok (.iinc 4 3, 3) := by decide +kernel
theorem dX7_depths_85 : decode cX7_depths 85 = .ok (.goto (-65), 3) := by decide +kernel
theorem dX7_depths_88 : decode cX7_depths 88 = .ok (.iload_n 1, 1) := by decide +kernel
theorem dX7_depths_89 : decode cX7_depths 89 = .ok (.ifCond .ne 7, 3) := by decide +kernel
theorem dX7_depths_92 : decode cX7_depths 92 = .ok (.iload_n 2, 1) := by decide +kernel
theorem dX7_depths_93 : decode cX7_depths 93 = .ok (.goto 4, 3) := by decide +kernel
theorem dX7_depths_96 : decode cX7_depths 96 = .ok (.iload_n 3, 1) := by decide +kernel
theorem dX7_depths_97 : decode cX7_depths 97 = .ok (.ireturn, 1) := by decide +kernel
theorem dX7_rests_0 : decode cX7_rests 0 = .ok (.aload_n 0, 1) := by decide +kernel
theorem dX7_rests_1 : decode cX7_rests 1 = .ok (.getfield 19, 3) := by decide +kernel
theorem dX7_rests_4 : decode cX7_rests 4 = .ok (.iload_n 1, 1) := by decide +kernel
theorem dX7_rests_5 : decode cX7_rests 5 = .ok (.invokevirtual 147, 3) := by decide +kernel
theorem dX7_rests_8 : decode cX7_rests 8 = .ok (.ifCond .eq 14, 3) := by decide +kernel
theorem dX7_rests_11 : decode cX7_rests 11 = .ok (.aload_n 0, 1) := by decide +kernel
theorem dX7_rests_12 : decode cX7_rests 12 = .ok (.getfield 19, 3) := by decide +kernel
theorem dX7_rests_15 : decode cX7_rests 15 = .ok (.iload_n 2, 1) := by decide +kernel
theorem dX7_rests_16 : decode cX7_rests 16 = .ok (.invokevirtual 147, 3) := by decide +kernel
theorem dX7_rests_19 : decode cX7_rests 19 = .ok (.ifCond .ne 5, 3) := by decide +kernel
theorem dX7_rests_22 : decode cX7_rests 22 = .ok (.iconst (-1), 1) := by decide +kernel
theorem dX7_rests_23 : decode cX7_rests 23 = .ok (.ireturn, 1) := by decide +kernel
theorem dX7_rests_24 : decode cX7_rests 24 = .ok (.iload_n 1, 1) := by decide +kernel
theorem dX7_rests_25 : decode cX7_rests 25 = .ok (.iload_n 2, 1) := by decide +kernel
theorem dX7_rests_26 : decode cX7_rests 26 = .ok (.if_icmp .eq 12, 3) := by decide +kernel
theorem dX7_rests_29 : decode cX7_rests 29 = .ok (.iload_n 3, 1) := by decide +kernel
theorem dX7_rests_30 : decode cX7_rests 30 = .ok (.ifCond .lt 8, 3) := by decide +kernel
theorem dX7_rests_33 : decode cX7_rests 33 = .ok (.iload_n 3, 1) := by decide +kernel
theorem dX7_rests_34 : decode cX7_rests 34 = .ok (.iconst 1, 1) := by decide +kernel
theorem dX7_rests_35 : decode cX7_rests 35 = .ok (.if_icmp .le 6, 3) := by decide +kernel
theorem dX7_rests_38 : decode cX7_rests 38 = .ok (.bipush (-2), 2) := by decide +kernel
theorem dX7_rests_40 : decode cX7_rests 40 = .ok (.ireturn, 1) := by decide +kernel
theorem dX7_rests_41 : decode cX7_rests 41 = .ok (.aload_n 0, 1) := by decide +kernel
theorem dX7_rests_42 : decode cX7_rests 42 = .ok (.getfield 31, 3) := by decide +kernel
theorem dX7_rests_45 : decode cX7_rests 45 = .ok (.iload_n 1, 1) := by decide +kernel
theorem dX7_rests_46 : decode cX7_rests 46 = .ok (.invokevirtual 159, 3) := by decide +kernel
theorem dX7_rests_49 : decode cX7_rests 49 = .ok (.ifCond .eq 14, 3) := by decide +kernel
theorem dX7_rests_52 : decode cX7_rests 52 = .ok (.aload_n 0, 1) := by decide +kernel
theorem dX7_rests_53 : decode cX7_rests 53 = .ok (.getfield 31, 3) := by decide +kernel
theorem dX7_rests_56 : decode cX7_rests 56 = .ok (.iload_n 2, 1) := by decide +kernel
theorem dX7_rests_57 : decode cX7_rests 57 = .ok (.invokevirtual 159, 3) := by decide +kernel
theorem dX7_rests_60 : decode cX7_rests 60 = .ok (.ifCond .ne 6, 3) := by decide +kernel
theorem dX7_rests_63 : decode cX7_rests 63 = .ok (.bipush (-3), 2) := by decide +kernel
theorem dX7_rests_65 : decode cX7_rests 65 = .ok (.ireturn, 1) := by decide +kernel
theorem dX7_rests_66 : decode cX7_rests 66 = .ok (.aload_n 0, 1) := by decide +kernel
theorem dX7_rests_67 : decode cX7_rests 67 = .ok (.getfield 35, 3) := by decide +kernel
theorem dX7_rests_70 : decode cX7_rests 70 = .ok (.aload_n 0, 1) := by decide +kernel
theorem dX7_rests_71 : decode cX7_rests 71 = .ok (.getfield 31, 3) := by decide +kernel
theorem dX7_rests_74 : decode cX7_rests 74 = .ok (.invokevirtual 201, 3) := by decide +kernel
theorem dX7_rests_77 : decode cX7_rests 77 = .ok (.iconst 0, 1) := by decide +kernel
theorem dX7_rests_78 : decode cX7_rests 78 = .ok (.istore 4, 2) := by decide +kernel
theorem dX7_rests_80 : decode cX7_rests 80 = .ok (.bipush (-9), 2) := by decide +kernel
theorem dX7_rests_82 : decode cX7_rests 82 = .ok (.istore 5, 2) := by decide +kernel
theorem dX7_rests_84 : decode cX7_rests 84 = .ok (.iconst 0, 1) := by decide +kernel
theorem dX7_rests_85 : decode cX7_rests 85 = .ok (.istore 6, 2) := by decide +kernel
theorem dX7_rests_87 : decode cX7_rests 87 = .ok (.iload 6, 2) := by decide +kernel
theorem dX7_rests_89 : decode cX7_rests 89 = .ok (.iconst 5, 1) := by decide +kernel
theorem dX7_rests_90 : decode cX7_rests 90 = .ok (.if_icmp .ge 81, 3) := by decide +kernel
theorem dX7_rests_93 : decode cX7_rests 93 = .ok (.iconst 0, 1) := by decide +kernel
theorem dX7_rests_94 : decode cX7_rests 94 = .ok (.istore 7, 2) := by decide +kernel
theorem dX7_rests_96 : decode cX7_rests 96 = .ok (.iload 7, 2) := by decide +kernel
theorem dX7_rests_98 : decode cX7_rests 98 = .ok (.iconst 5, 1) := by decide +kernel
theorem dX7_rests_99 : decode cX7_rests 99 = .ok (.if_icmp .ge 66, 3) := by decide +kernel
theorem dX7_rests_102 : decode cX7_rests 102 = .ok (.aload_n 0, 1) := by decide +kernel
theorem dX7_rests_103 : decode cX7_rests 103 = .ok (.getfield 64, 3) := by decide +kernel
theorem dX7_rests_106 : decode cX7_rests 106 = .ok (.iload_n 1, 1) := by decide +kernel
theorem dX7_rests_107 : decode cX7_rests 107 = .ok (.iload 6, 2) := by decide +kernel
theorem dX7_rests_109 : decode cX7_rests 109 = .ok (.iload_n 2, 1) := by decide +kernel
theorem dX7_rests_110 : decode cX7_rests 110 = .ok (.iload 7, 2) := by decide +kernel
theorem dX7_rests_112 : decode cX7_rests 112 = .ok (.invokevirtual 245, 3) := by decide +kernel
theorem dX7_rests_115 : decode cX7_rests 115 = .ok (.ifCond .eq 44, 3) := by decide +kernel
theorem dX7_rests_118 : decode cX7_rests 118 = .ok (.aload_n 0, 1) := by decide +kernel
theorem dX7_rests_119 : decode cX7_rests 119 = .ok (.getfield 64, 3) := by decide +kernel
theorem dX7_rests_122 : decode cX7_rests 122 = .ok (.iload_n 2, 1) := by decide +kernel
end
section
theorem dX7_rests_123 : decode cX7_rests 123 = .ok (.iload 7, 2) := by decide +kernel
theorem dX7_rests_125 : decode cX7_rests 125 = .ok (.iload_n 1, 1) := by decide +kernel
theorem dX7_rests_126 : decode cX7_rests 126 = .ok (.iload 6, 2) := by decide +kernel
theorem dX7_rests_128 : decode cX7_rests 128 = .ok (.invokevirtual 245, 3) := by decide +kernel
theorem dX7_rests_131 : decode cX7_rests 131 = .ok (.ifCond .eq 28, 3) := by decide +kernel
theorem dX7_rests_134 : decode cX7_rests 134 = .ok (.iinc 4 1, 3) := by decide +kernel
theorem dX7_rests_137 : decode cX7_rests 137 = .ok (.iload 5, 2) := by decide +kernel
theorem dX7_rests_139 : decode cX7_rests 139 = .ok (.bipush (-9), 2) := by decide +kernel
theorem dX7_rests_141 : decode cX7_rests 141 = .ok (.if_icmp .ne 14, 3) := by decide +kernel
theorem dX7_rests_144 : decode cX7_rests 144 = .ok (.bipush 10, 2) := by decide +kernel
theorem dX7_rests_146 : decode cX7_rests 146 = .ok (.iload 6, 2) := by decide +kernel
theorem dX7_rests_148 : decode cX7_rests 148 = .ok (.imul, 1) := by decide +kernel
theorem dX7_rests_149 : decode cX7_rests 149 = .ok (.iload 7, 2) := by decide +kernel
theorem dX7_rests_151 : decode cX7_rests 151 = .ok (.iadd, 1) := by decide +kernel
theorem dX7_rests_152 : decode cX7_rests 152 = .ok (.goto 5, 3) := by decide +kernel
theorem dX7_rests_155 : decode cX7_rests 155 = .ok (.iload 5, 2) := by decide +kernel
theorem dX7_rests_157 : decode cX7_rests 157 = .ok (.istore 5, 2) := by decide +kernel
theorem dX7_rests_159 : decode cX7_rests 159 = .ok (.iinc 7 1, 3) := by decide +kernel
theorem dX7_rests_162 : decode cX7_rests 162 = .ok (.goto (-66), 3) := by decide +kernel
theorem dX7_rests_165 : decode cX7_rests 165 = .ok (.iinc 6 1, 3) := by decide +kernel
theorem dX7_rests_168 : decode cX7_rests 168 = .ok (.goto (-81), 3) := by decide +kernel
theorem dX7_rests_171 : decode cX7_rests 171 = .ok (.iload_n 3, 1) := by decide +kernel
theorem dX7_rests_172 : decode cX7_rests 172 = .ok (.ifCond .ne 8, 3) := by decide +kernel
theorem dX7_rests_175 : decode cX7_rests 175 = .ok (.iload 4, 2) := by decide +kernel
theorem dX7_rests_177 : decode cX7_rests 177 = .ok (.goto 5, 3) := by decide +kernel
theorem dX7_rests_180 : decode cX7_rests 180 = .ok (.iload 5, 2) := by decide +kernel
theorem dX7_rests_182 : decode cX7_rests 182 = .ok (.ireturn, 1) := by decide +kernel
theorem dX7_ebb_0 : decode cX7_ebb 0 = .ok (.iload_n 1, 1) := by decide +kernel
theorem dX7_ebb_1 : decode cX7_ebb 1 = .ok (.ifCond .lt 18, 3) := by decide +kernel
theorem dX7_ebb_4 : decode cX7_ebb 4 = .ok (.iload_n 1, 1) := by decide +kernel
theorem dX7_ebb_5 : decode cX7_ebb 5 = .ok (.iconst 5, 1) := by decide +kernel
theorem dX7_ebb_6 : decode cX7_ebb 6 = .ok (.if_icmp .gt 13, 3) := by decide +kernel
theorem dX7_ebb_9 : decode cX7_ebb 9 = .ok (.iload_n 2, 1) := by decide +kernel
theorem dX7_ebb_10 : decode cX7_ebb 10 = .ok (.ifCond .lt 9, 3) := by decide +kernel
theorem dX7_ebb_13 : decode cX7_ebb 13 = .ok (.iload_n 2, 1) := by decide +kernel
theorem dX7_ebb_14 : decode cX7_ebb 14 = .ok (.bipush 10, 2) := by decide +kernel
theorem dX7_ebb_16 : decode cX7_ebb 16 = .ok (.if_icmp .le 6, 3) := by decide +kernel
theorem dX7_ebb_19 : decode cX7_ebb 19 = .ok (.bipush (-2), 2) := by decide +kernel
theorem dX7_ebb_21 : decode cX7_ebb 21 = .ok (.ireturn, 1) := by decide +kernel
theorem dX7_ebb_22 : decode cX7_ebb 22 = .ok (.iconst 0, 1) := by decide +kernel
theorem dX7_ebb_23 : decode cX7_ebb 23 = .ok (.istore 4, 2) := by decide +kernel
theorem dX7_ebb_25 : decode cX7_ebb 25 = .ok (.iconst 1, 1) := by decide +kernel
theorem dX7_ebb_26 : decode cX7_ebb 26 = .ok (.istore 5, 2) := by decide +kernel
theorem dX7_ebb_28 : decode cX7_ebb 28 = .ok (.iconst 0, 1) := by decide +kernel
theorem dX7_ebb_29 : decode cX7_ebb 29 = .ok (.istore 6, 2) := by decide +kernel
theorem dX7_ebb_31 : decode cX7_ebb 31 = .ok (.iload 6, 2) := by decide +kernel
theorem dX7_ebb_33 : decode cX7_ebb 33 = .ok (.aload_n 0, 1) := by decide +kernel
theorem dX7_ebb_34 : decode cX7_ebb 34 = .ok (.getfield 19, 3) := by decide +kernel
theorem dX7_ebb_37 : decode cX7_ebb 37 = .ok (.getfield 102, 3) := by decide +kernel
theorem dX7_ebb_40 : decode cX7_ebb 40 = .ok (.if_icmp .ge 16, 3) := by decide +kernel
theorem dX7_ebb_43 : decode cX7_ebb 43 = .ok (.iload 5, 2) := by decide +kernel
theorem dX7_ebb_45 : decode cX7_ebb 45 = .ok (.bipush 10, 2) := by decide +kernel
theorem dX7_ebb_47 : decode cX7_ebb 47 = .ok (.imul, 1) := by decide +kernel
theorem dX7_ebb_48 : decode cX7_ebb 48 = .ok (.istore 5, 2) := by decide +kernel
theorem dX7_ebb_50 : decode cX7_ebb 50 = .ok (.iinc 6 1, 3) := by decide +kernel
theorem dX7_ebb_53 : decode cX7_ebb 53 = .ok (.goto (-22), 3) := by decide +kernel
theorem dX7_ebb_56 : decode cX7_ebb 56 = .ok (.iconst 0, 1) := by decide +kernel
theorem dX7_ebb_57 : decode cX7_ebb 57 = .ok (.istore 6, 2) := by decide +kernel
theorem dX7_ebb_59 : decode cX7_ebb 59 = .ok (.iload 6, 2) := by decide +kernel
theorem dX7_ebb_61 : decode cX7_ebb 61 = .ok (.aload_n 0, 1) := by decide +kernel
theorem dX7_ebb_62 : decode cX7_ebb 62 = .ok (.invokevirtual 204, 3) := by decide +kernel
theorem dX7_ebb_65 : decode cX7_ebb 65 = .ok (.if_icmp .gt 34, 3) := by decide +kernel
theorem dX7_ebb_68 : decode cX7_ebb 68 = .ok (.aload_n 0, 1) := by decide +kernel
theorem dX7_ebb_69 : decode cX7_ebb 69 = .ok (.getfield 31, 3) := by decide +kernel
theorem dX7_ebb_72 : decode cX7_ebb 72 = .ok (.iload 6, 2) := by decide +kernel
theorem dX7_ebb_74 : decode cX7_ebb 74 = .ok (.invokevirtual 249, 3) := by decide +kernel
theorem dX7_ebb_77 : decode cX7_ebb 77 = .ok (.iload_n 1, 1) := by decide +kernel
theorem dX7_ebb_78 : decode cX7_ebb 78 = .ok (.if_icmp .lt 15, 3) := by decide +kernel
theorem dX7_ebb_81 : decode cX7_ebb 81 = .ok (.iload 4, 2) := by decide +kernel
theorem dX7_ebb_83 : decode cX7_ebb 83 = .ok (.aload_n 0, 1) := by decide +kernel
theorem dX7_ebb_84 : decode cX7_ebb 84 = .ok (.iload 6, 2) := by decide +kernel
theorem dX7_ebb_86 : decode cX7_ebb 86 = .ok (.iload_n 2, 1) := by decide +kernel
theorem dX7_ebb_87 : decode cX7_ebb 87 = .ok (.invokevirtual 252, 3) := by decide +kernel
theorem dX7_ebb_90 : decode cX7_ebb 90 = .ok (.iadd, 1) := by decide +kernel
theorem dX7_ebb_91 : decode cX7_ebb 91 = .ok (.istore 4, 2) := by decide +kernel
theorem dX7_ebb_93 : decode cX7_ebb 93 = .ok (.iinc 6 1, 3) := by decide +kernel
theorem dX7_ebb_96 : decode cX7_ebb 96 = .ok (.goto (-37), 3) := by decide +kernel
theorem dX7_ebb_99 : decode cX7_ebb 99 = .ok (.iload 4, 2) := by decide +kernel
theorem dX7_ebb_101 : decode cX7_ebb 101 = .ok (.iload 5, 2) := by decide +kernel
theorem dX7_ebb_103 : decode cX7_ebb 103 = .ok (.iload_n 3, 1) := by decide +kernel
theorem dX7_ebb_104 : decode cX7_ebb 104 = .ok (.invokestatic 234, 3) := by decide +kernel
theorem dX7_ebb_107 : decode cX7_ebb 107 = .ok (.ireturn, 1) := by decide +kernel
theorem dX7_seed_0 : decode cX7_seed 0 = .ok (.aload_n 0, 1) := by decide +kernel
theorem dX7_seed_1 : decode cX7_seed 1 = .ok (.getfield 76, 3) := by decide +kernel
theorem dX7_seed_4 : decode cX7_seed 4 = .ok (.lstore_n 3, 1) := by decide +kernel
theorem dX7_seed_5 : decode cX7_seed 5 = .ok (.aload_n 0, 1) := by decide +kernel
theorem dX7_seed_6 : decode cX7_seed 6 = .ok (.lload_n 1, 1) := by decide +kernel
theorem dX7_seed_7 : decode cX7_seed 7 = .ok (.putfield 76, 3) := by decide +kernel
theorem dX7_seed_10 : decode cX7_seed 10 = .ok (.lload_n 3, 1) := by decide +kernel
theorem dX7_seed_11 : decode cX7_seed 11 = .ok (.lreturn, 1) := by decide +kernel
theorem dX7_years_0 : decode cX7_years 0 = .ok (.iload_n 1, 1) := by decide +kernel
theorem dX7_years_1 : decode cX7_years 1 = .ok (.iconst 1, 1) := by decide +kernel
theorem dX7_years_2 : decode cX7_years 2 = .ok (.if_icmp .lt 9, 3) := by decide +kernel
theorem dX7_years_5 : decode cX7_years 5 = .ok (.iload_n 1, 1) := by decide +kernel
theorem dX7_years_6 : decode cX7_years 6 = .ok (.bipush 30, 2) := by decide +kernel
theorem dX7_years_8 : decode cX7_years 8 = .ok (.if_icmp .le 6, 3) := by decide +kernel
theorem dX7_years_11 : decode cX7_years 11 = .ok (.bipush (-2), 2) := by decide +kernel
theorem dX7_years_13 : decode cX7_years 13 = .ok (.ireturn, 1) := by decide +kernel
theorem dX7_years_14 : decode cX7_years 14 = .ok (.aload_n 0, 1) := by decide +kernel
theorem dX7_years_15 : decode cX7_years 15 = .ok (.getfield 35, 3) := by decide +kernel
theorem dX7_years_18 : decode cX7_years 18 = .ok (.aload_n 0, 1) := by decide +kernel
theorem dX7_years_19 : decode cX7_years 19 = .ok (.getfield 31, 3) := by decide +kernel
theorem dX7_years_22 : decode cX7_years 22 = .ok (.invokevirtual 201, 3) := by decide +kernel
theorem dX7_years_25 : decode cX7_years 25 = .ok (.iconst 0, 1) := by decide +kernel
theorem dX7_years_26 : decode cX7_years 26 = .ok (.istore_n 2, 1) := by decide +kernel
theorem dX7_years_27 : decode cX7_years 27 = .ok (.iconst 0, 1) := by decide +kernel
theorem dX7_years_28 : decode cX7_years 28 = .ok (.istore_n 3, 1) := by decide +kernel
theorem dX7_years_29 : decode cX7_years 29 = .ok (.iload_n 3, 1) := by decide +kernel
theorem dX7_years_30 : decode cX7_years 30 = .ok (.iload_n 1, 1) := by decide +kernel
theorem dX7_years_31 : decode cX7_years 31 = .ok (.if_icmp .ge 56, 3) := by decide +kernel
theorem dX7_years_34 : decode cX7_years 34 = .ok (.aload_n 0, 1) := by decide +kernel
theorem dX7_years_35 : decode cX7_years 35 = .ok (.aload_n 0, 1) := by decide +kernel
theorem dX7_years_36 : decode cX7_years 36 = .ok (.getfield 76, 3) := by decide +kernel
theorem dX7_years_39 : decode cX7_years 39 = .ok (.ldc2_w 256, 3) := by decide +kernel
theorem dX7_years_42 : decode cX7_years 42 = .ok (.lmul, 1) := by decide +kernel
theorem dX7_years_43 : decode cX7_years 43 = .ok (.ldc2_w 258, 3) := by decide +kernel
theorem dX7_years_46 : decode cX7_years 46 = .ok (.ladd, 1) := by decide +kernel
theorem dX7_years_47 : decode cX7_years 47 = .ok (.putfield 76, 3) := by decide +kernel
theorem dX7_years_50 : decode cX7_years 50 = .ok (.aload_n 0, 1) := by decide +kernel
theorem dX7_years_51 : decode cX7_years 51 = .ok (.getfield 35, 3) := by decide +kernel
theorem dX7_years_54 : decode cX7_years 54 = .ok (.aload_n 0, 1) := by decide +kernel
theorem dX7_years_55 : decode cX7_years 55 = .ok (.getfield 76, 3) := by decide +kernel
theorem dX7_years_58 : decode cX7_years 58 = .ok (.bipush 33, 2) := by decide +kernel
theorem dX7_years_60 : decode cX7_years 60 = .ok (.lushr, 1) := by decide +kernel
theorem dX7_years_61 : decode cX7_years 61 = .ok (.ldc2_w 260, 3) := by decide +kernel
theorem dX7_years_64 : decode cX7_years 64 = .ok (.lrem, 1) := by decide +kernel
theorem dX7_years_65 : decode cX7_years 65 = .ok (.l2i, 1) := by decide +kernel
theorem dX7_years_66 : decode cX7_years 66 = .ok (.invokevirtual 262, 3) := by decide +kernel
theorem dX7_years_69 : decode cX7_years 69 = .ok (.iload_n 2, 1) := by decide +kernel
theorem dX7_years_70 : decode cX7_years 70 = .ok (.aload_n 0, 1) := by decide +kernel
theorem dX7_years_71 : decode cX7_years 71 = .ok (.getfield 35, 3) := by decide +kernel
theorem dX7_years_74 : decode cX7_years 74 = .ok (.bipush 9, 2) := by decide +kernel
theorem dX7_years_76 : decode cX7_years 76 = .ok (.invokevirtual 179, 3) := by decide +kernel
theorem dX7_years_79 : decode cX7_years 79 = .ok (.iadd, 1) := by decide +kernel
theorem dX7_years_80 : decode cX7_years 80 = .ok (.istore_n 2, 1) := by decide +kernel
theorem dX7_years_81 : decode cX7_years 81 = .ok (.iinc 3 1, 3) := by decide +kernel
theorem dX7_years_84 : decode cX7_years 84 = .ok (.goto (-55), 3) := by decide +kernel
theorem dX7_years_87 : decode cX7_years 87 = .ok (.iload_n 2, 1) := by decide +kernel
theorem dX7_years_88 : decode cX7_years 88 = .ok (.ireturn, 1) := by decide +kernel
theorem dX7_keep_0 : decode cX7_keep 0 = .ok (.iload_n 1, 1) := by decide +kernel
theorem dX7_keep_1 : decode cX7_keep 1 = .ok (.ifCond .lt 8, 3) := by decide +kernel
theorem dX7_keep_4 : decode cX7_keep 4 = .ok (.iload_n 1, 1) := by decide +kernel
theorem dX7_keep_5 : decode cX7_keep 5 = .ok (.iconst 2, 1) := by decide +kernel
theorem dX7_keep_6 : decode cX7_keep 6 = .ok (.if_icmp .lt 5, 3) := by decide +kernel
theorem dX7_keep_9 : decode cX7_keep 9 = .ok (.iconst (-1), 1) := by decide +kernel
theorem dX7_keep_10 : decode cX7_keep 10 = .ok (.ireturn, 1) := by decide +kernel
theorem dX7_keep_11 : decode cX7_keep 11 = .ok (.aload_n 0, 1) := by decide +kernel
theorem dX7_keep_12 : decode cX7_keep 12 = .ok (.getfield 68, 3) := by decide +kernel
theorem dX7_keep_15 : decode cX7_keep 15 = .ok (.iload_n 1, 1) := by decide +kernel
theorem dX7_keep_16 : decode cX7_keep 16 = .ok (.aaload, 1) := by decide +kernel
theorem dX7_keep_17 : decode cX7_keep 17 = .ok (.aload_n 0, 1) := by decide +kernel
theorem dX7_keep_18 : decode cX7_keep 18 = .ok (.getfield 31, 3) := by decide +kernel
theorem dX7_keep_21 : decode cX7_keep 21 = .ok (.invokevirtual 201, 3) := by decide +kernel
theorem dX7_keep_24 : decode cX7_keep 24 = .ok (.aload_n 0, 1) := by decide +kernel
theorem dX7_keep_25 : decode cX7_keep 25 = .ok (.getfield 72, 3) := by decide +kernel
theorem dX7_keep_28 : decode cX7_keep 28 = .ok (.iload_n 1, 1) := by decide +kernel
theorem dX7_keep_29 : decode cX7_keep 29 = .ok (.iconst 1, 1) := by decide +kernel
theorem dX7_keep_30 : decode cX7_keep 30 = .ok (.bastore, 1) := by decide +kernel
theorem dX7_keep_31 : decode cX7_keep 31 = .ok (.aload_n 0, 1) := by decide +kernel
theorem dX7_keep_32 : decode cX7_keep 32 = .ok (.getfield 31, 3) := by decide +kernel
theorem dX7_keep_35 : decode cX7_keep 35 = .ok (.getfield 108, 3) := by decide +kernel
theorem dX7_keep_38 : decode cX7_keep 38 = .ok (.ireturn, 1) := by decide +kernel
theorem dX7_again_0 : decode cX7_again 0 = .ok (.iload_n 1, 1) := by decide +kernel
theorem dX7_again_1 : decode cX7_again 1 = .ok (.ifCond .lt 8, 3) := by decide +kernel
theorem dX7_again_4 : decode cX7_again 4 = .ok (.iload_n 1, 1) := by decide +kernel
theorem dX7_again_5 : decode cX7_again 5 = .ok (.iconst 2, 1) := by decide +kernel
theorem dX7_again_6 : decode cX7_again 6 = .ok (.if_icmp .lt 5, 3) := by decide +kernel
theorem dX7_again_9 : decode cX7_again 9 = .ok (.iconst (-1), 1) := by decide +kernel
theorem dX7_again_10 : decode cX7_again 10 = .ok (.ireturn, 1) := by decide +kernel
theorem dX7_again_11 : decode cX7_again 11 = .ok (.aload_n 0, 1) := by decide +kernel
theorem dX7_again_12 : decode cX7_again 12 = .ok (.getfield 72, 3) := by decide +kernel
theorem dX7_again_15 : decode cX7_again 15 = .ok (.iload_n 1, 1) := by decide +kernel
theorem dX7_again_16 : decode cX7_again 16 = .ok (.baload, 1) := by decide +kernel
theorem dX7_again_17 : decode cX7_again 17 = .ok (.ifCond .ne 6, 3) := by decide +kernel
theorem dX7_again_20 : decode cX7_again 20 = .ok (.bipush (-3), 2) := by decide +kernel
theorem dX7_again_22 : decode cX7_again 22 = .ok (.ireturn, 1) := by decide +kernel
theorem dX7_again_23 : decode cX7_again 23 = .ok (.aload_n 0, 1) := by decide +kernel
theorem dX7_again_24 : decode cX7_again 24 = .ok (.getfield 31, 3) := by decide +kernel
theorem dX7_again_27 : decode cX7_again 27 = .ok (.aload_n 0, 1) := by decide +kernel
theorem dX7_again_28 : decode cX7_again 28 = .ok (.getfield 68, 3) := by decide +kernel
theorem dX7_again_31 : decode cX7_again 31 = .ok (.iload_n 1, 1) := by decide +kernel
theorem dX7_again_32 : decode cX7_again 32 = .ok (.aaload, 1) := by decide +kernel
theorem dX7_again_33 : decode cX7_again 33 = .ok (.invokevirtual 201, 3) := by decide +kernel
theorem dX7_again_36 : decode cX7_again 36 = .ok (.aload_n 0, 1) := by decide +kernel
theorem dX7_again_37 : decode cX7_again 37 = .ok (.getfield 41, 3) := by decide +kernel
theorem dX7_again_40 : decode cX7_again 40 = .ok (.invokevirtual 95, 3) := by decide +kernel
theorem dX7_again_43 : decode cX7_again 43 = .ok (.aload_n 0, 1) := by decide +kernel
theorem dX7_again_44 : decode cX7_again 44 = .ok (.getfield 31, 3) := by decide +kernel
theorem dX7_again_47 : decode cX7_again 47 = .ok (.getfield 108, 3) := by decide +kernel
theorem dX7_again_50 : decode cX7_again 50 = .ok (.ireturn, 1) := by decide +kernel
theorem dX7_isNights_0 : decode cX7_isNights 0 = .ok (.iload_n 0, 1) := by decide +kernel
theorem dX7_isNights_1 : decode cX7_isNights 1 = .ok (.ifCond .lt 13, 3) := by decide +kernel
theorem dX7_isNights_4 : decode cX7_isNights 4 = .ok (.iload_n 0, 1) := by decide +kernel
theorem dX7_isNights_5 : decode cX7_isNights 5 = .ok (.bipush 20, 2) := by decide +kernel
theorem dX7_isNights_7 : decode cX7_isNights 7 = .ok (.if_icmp .gt 7, 3) := by decide +kernel
theorem dX7_isNights_10 : decode cX7_isNights 10 = .ok (.iconst 1, 1) := by decide +kernel
theorem dX7_isNights_11 : decode cX7_isNights 11 = .ok (.goto 4, 3) := by decide +kernel
theorem dX7_isNights_14 : decode cX7_isNights 14 = .ok (.iconst 0, 1) := by decide +kernel
theorem dX7_isNights_15 : decode cX7_isNights 15 = .ok (.ireturn, 1) := by decide +kernel
theorem dX7_lookAhead_0 : decode cX7_lookAhead 0 = .ok (.aload_n 0, 1) := by decide +kernel
theorem dX7_lookAhead_1 : decode cX7_lookAhead 1 = .ok (.getfield 35, 3) := by decide +kernel
theorem dX7_lookAhead_4 : decode cX7_lookAhead 4 = .ok (.aload_n 0, 1) := by decide +kernel
theorem dX7_lookAhead_5 : decode cX7_lookAhead 5 = .ok (.getfield 31, 3) := by decide +kernel
theorem dX7_lookAhead_8 : decode cX7_lookAhead 8 = .ok (.invokevirtual 201, 3) := by decide +kernel
theorem dX7_lookAhead_11 : decode cX7_lookAhead 11 = .ok (.iconst 0, 1) := by decide +kernel
theorem dX7_lookAhead_12 : decode cX7_lookAhead 12 = .ok (.istore_n 2, 1) := by decide +kernel
theorem dX7_lookAhead_13 : decode cX7_lookAhead 13 = .ok (.iload_n 2, 1) := by decide +kernel
theorem dX7_lookAhead_14 : decode cX7_lookAhead 14 = .ok (.iload_n 1, 1) := by decide +kernel
theorem dX7_lookAhead_15 : decode cX7_lookAhead 15 = .ok (.if_icmp .ge 17, 3) := by decide +kernel
theorem dX7_lookAhead_18 : decode cX7_lookAhead 18 = .ok (.aload_n 0, 1) := by decide +kernel
theorem dX7_lookAhead_19 : decode cX7_lookAhead 19 = .ok (.getfield 35, 3) := by decide +kernel
theorem dX7_lookAhead_22 : decode cX7_lookAhead 22 = .ok (.invokevirtual 172, 3) := by decide +kernel
theorem dX7_lookAhead_25 : decode cX7_lookAhead 25 = .ok (.pop, 1) := by decide +kernel
theorem dX7_lookAhead_26 : decode cX7_lookAhead 26 = .ok (.iinc 2 1, 3) := by decide +kernel
theorem dX7_lookAhead_29 : decode cX7_lookAhead 29 = .ok (.goto (-16), 3) := by decide +kernel
theorem dX7_lookAhead_32 : decode cX7_lookAhead 32 = .ok (.return_, 1) := by decide +kernel
theorem dX7_withoutLast_0 : decode cX7_withoutLast 0 = .ok (.lload_n 0, 1) := by decide +kernel
theorem dX7_withoutLast_1 : decode cX7_withoutLast 1 = .ok (.lstore_n 3, 1) := by decide +kernel
theorem dX7_withoutLast_2 : decode cX7_withoutLast 2 = .ok (.iconst 0, 1) := by decide +kernel
theorem dX7_withoutLast_3 : decode cX7_withoutLast 3 = .ok (.istore 5, 2) := by decide +kernel
theorem dX7_withoutLast_5 : decode cX7_withoutLast 5 = .ok (.iload 5, 2) := by decide +kernel
theorem dX7_withoutLast_7 : decode cX7_withoutLast 7 = .ok (.iload_n 2, 1) := by decide +kernel
theorem dX7_withoutLast_8 : decode cX7_withoutLast 8 = .ok (.if_icmp .ge 15, 3) := by decide +kernel
theorem dX7_withoutLast_11 : decode cX7_withoutLast 11 = .ok (.lload_n 3, 1) := by decide +kernel
theorem dX7_withoutLast_12 : decode cX7_withoutLast 12 = .ok (.ldc2_w 221, 3) := by decide +kernel
theorem dX7_withoutLast_15 : decode cX7_withoutLast 15 = .ok (.ldiv, 1) := by decide +kernel
theorem dX7_withoutLast_16 : decode cX7_withoutLast 16 = .ok (.lstore_n 3, 1) := by decide +kernel
theorem dX7_withoutLast_17 : decode cX7_withoutLast 17 = .ok (.iinc 5 1, 3) := by decide +kernel
theorem dX7_withoutLast_20 : decode cX7_withoutLast 20 = .ok (.goto (-15), 3) := by decide +kernel
theorem dX7_withoutLast_23 : decode cX7_withoutLast 23 = .ok (.lload_n 3, 1) := by decide +kernel
theorem dX7_withoutLast_24 : decode cX7_withoutLast 24 = .ok (.lreturn, 1) := by decide +kernel
theorem dX7_allBerths_0 : decode cX7_allBerths 0 = .ok (.iconst 1, 1) := by decide +kernel
theorem dX7_allBerths_1 : decode cX7_allBerths 1 = .ok (.aload_n 0, 1) := by decide +kernel
theorem dX7_allBerths_2 : decode cX7_allBerths 2 = .ok (.getfield 19, 3) := by decide +kernel
theorem dX7_allBerths_5 : decode cX7_allBerths 5 = .ok (.getfield 102, 3) := by decide +kernel
theorem dX7_allBerths_8 : decode cX7_allBerths 8 = .ok (.ishl, 1) := by decide +kernel
theorem dX7_allBerths_9 : decode cX7_allBerths 9 = .ok (.iconst 1, 1) := by decide +kernel
theorem dX7_allBerths_10 : decode cX7_allBerths 10 = .ok (.isub, 1) := by decide +kernel
theorem dX7_allBerths_11 : decode cX7_allBerths 11 = .ok (.ireturn, 1) := by decide +kernel
theorem dX7_weightOf_0 : decode cX7_weightOf 0 = .ok (.iconst 1, 1) := by decide +kernel
theorem dX7_weightOf_1 : decode cX7_weightOf 1 = .ok (.istore_n 3, 1) := by decide +kernel
theorem dX7_weightOf_2 : decode cX7_weightOf 2 = .ok (.iconst 0, 1) := by decide +kernel
theorem dX7_weightOf_3 : decode cX7_weightOf 3 = .ok (.istore 4, 2) := by decide +kernel
theorem dX7_weightOf_5 : decode cX7_weightOf 5 = .ok (.iload 4, 2) := by decide +kernel
theorem dX7_weightOf_7 : decode cX7_weightOf 7 = .ok (.aload_n 0, 1) := by decide +kernel
theorem dX7_weightOf_8 : decode cX7_weightOf 8 = .ok (.getfield 19, 3) := by decide +kernel
theorem dX7_weightOf_11 : decode cX7_weightOf 11 = .ok (.getfield 102, 3) := by decide +kernel
theorem dX7_weightOf_14 : decode cX7_weightOf 14 = .ok (.if_icmp .ge 30, 3) := by decide +kernel
theorem dX7_weightOf_17 : decode cX7_weightOf 17 = .ok (.iload_n 3, 1) := by decide +kernel
theorem dX7_weightOf_18 : decode cX7_weightOf 18 = .ok (.iload_n 1, 1) := by decide +kernel
theorem dX7_weightOf_19 : decode cX7_weightOf 19 = .ok (.iload 4, 2) := by decide +kernel
theorem dX7_weightOf_21 : decode cX7_weightOf 21 = .ok (.ishr, 1) := by decide +kernel
theorem dX7_weightOf_22 : decode cX7_weightOf 22 = .ok (.iconst 1, 1) := by decide +kernel
theorem dX7_weightOf_23 : decode cX7_weightOf 23 = .ok (.iand, 1) := by decide +kernel
theorem dX7_weightOf_24 : decode cX7_weightOf 24 = .ok (.iconst 1, 1) := by decide +kernel
theorem dX7_weightOf_25 : decode cX7_weightOf 25 = .ok (.if_icmp .ne 7, 3) := by decide +kernel
theorem dX7_weightOf_28 : decode cX7_weightOf 28 = .ok (.iload_n 2, 1) := by decide +kernel
theorem dX7_weightOf_29 : decode cX7_weightOf 29 = .ok (.goto 7, 3) := by decide +kernel
theorem dX7_weightOf_32 : decode cX7_weightOf 32 = .ok (.bipush 10, 2) := by decide +kernel
theorem dX7_weightOf_34 : decode cX7_weightOf 34 = .ok (.iload_n 2, 1) := by decide +kernel
theorem dX7_weightOf_35 : decode cX7_weightOf 35 = .ok (.isub, 1) := by decide +kernel
theorem dX7_weightOf_36 : decode cX7_weightOf 36 = .ok (.imul, 1) := by decide +kernel
theorem dX7_weightOf_37 : decode cX7_weightOf 37 = .ok (.istore_n 3, 1) := by decide +kernel
theorem dX7_weightOf_38 : decode cX7_weightOf 38 = .ok (.iinc 4 1, 3) := by decide +kernel
theorem dX7_weightOf_41 : decode cX7_weightOf 41 = .ok (.goto (-36), 3) := by decide +kernel
theorem dX7_weightOf_44 : decode cX7_weightOf 44 = .ok (.iload_n 3, 1) := by decide +kernel
theorem dX7_weightOf_45 : decode cX7_weightOf 45 = .ok (.ireturn, 1) := by decide +kernel
theorem dX7_part_0 : decode cX7_part 0 = .ok (.iload_n 0, 1) := by decide +kernel
theorem dX7_part_1 : decode cX7_part 1 = .ok (.invokestatic 265, 3) := by decide +kernel
theorem dX7_part_4 : decode cX7_part 4 = .ok (.iload_n 1, 1) := by decide +kernel
theorem dX7_part_5 : decode cX7_part 5 = .ok (.invokestatic 270, 3) := by decide +kernel
theorem dX7_part_8 : decode cX7_part 8 = .ok (.istore_n 3, 1) := by decide +kernel
theorem dX7_part_9 : decode cX7_part 9 = .ok (.iload_n 3, 1) := by decide +kernel
theorem dX7_part_10 : decode cX7_part 10 = .ok (.ifCond .ne 5, 3) := by decide +kernel
theorem dX7_part_13 : decode cX7_part 13 = .ok (.iconst 0, 1) := by decide +kernel
theorem dX7_part_14 : decode cX7_part 14 = .ok (.ireturn, 1) := by decide +kernel
theorem dX7_part_15 : decode cX7_part 15 = .ok (.iload_n 2, 1) := by decide +kernel
theorem dX7_part_16 : decode cX7_part 16 = .ok (.ifCond .eq 9, 3) := by decide +kernel
theorem dX7_part_19 : decode cX7_part 19 = .ok (.iload_n 0, 1) := by decide +kernel
theorem dX7_part_20 : decode cX7_part 20 = .ok (.iload_n 3, 1) := by decide +kernel
theorem dX7_part_21 : decode cX7_part 21 = .ok (.idiv, 1) := by decide +kernel
theorem dX7_part_22 : decode cX7_part 22 = .ok (.goto 6, 3) := by decide +kernel
theorem dX7_part_25 : decode cX7_part 25 = .ok (.iload_n 1, 1) := by decide +kernel
theorem dX7_part_26 : decode cX7_part 26 = .ok (.iload_n 3, 1) := by decide +kernel
theorem dX7_part_27 : decode cX7_part 27 = .ok (.idiv, 1) := by decide +kernel
theorem dX7_part_28 : decode cX7_part 28 = .ok (.ireturn, 1) := by decide +kernel
theorem dX7_commonDivisor_0 : decode cX7_commonDivisor 0 = .ok (.iload_n 0, 1) := by decide +kernel
theorem dX7_commonDivisor_1 : decode cX7_commonDivisor 1 = .ok (.istore_n 2, 1) := by decide +kernel
theorem dX7_commonDivisor_2 : decode cX7_commonDivisor 2 = .ok (.iload_n 1, 1) := by decide +kernel
theorem dX7_commonDivisor_3 : decode cX7_commonDivisor 3 = .ok (.istore_n 3, 1) := by decide +kernel
theorem dX7_commonDivisor_4 : decode cX7_commonDivisor 4 = .ok (.iconst 0, 1) := by decide +kernel
theorem dX7_commonDivisor_5 : decode cX7_commonDivisor 5 = .ok (.istore 4, 2) := by decide +kernel
theorem dX7_commonDivisor_7 : decode cX7_commonDivisor 7 = .ok (.iload 4, 2) := by decide +kernel
theorem dX7_commonDivisor_9 : decode cX7_commonDivisor 9 = .ok (.bipush 64, 2) := by decide +kernel
theorem dX7_commonDivisor_11 : decode cX7_commonDivisor 11 = .ok (.if_icmp .ge 23, 3) := by decide +kernel
theorem dX7_commonDivisor_14 : decode cX7_commonDivisor 14 = .ok (.iload_n 3, 1) := by decide +kernel
theorem dX7_commonDivisor_15 : decode cX7_commonDivisor 15 = .ok (.ifCond .eq 19, 3) := by decide +kernel
theorem dX7_commonDivisor_18 : decode cX7_commonDivisor 18 = .ok (.iload_n 2, 1) := by decide +kernel
theorem dX7_commonDivisor_19 : decode cX7_commonDivisor 19 = .ok (.iload_n 3, 1) := by decide +kernel
theorem dX7_commonDivisor_20 : decode cX7_commonDivisor 20 = .ok (.irem, 1) := by decide +kernel
theorem dX7_commonDivisor_21 : decode cX7_commonDivisor 21 = .ok (.istore 5, 2) := by decide +kernel
theorem dX7_commonDivisor_23 : decode cX7_commonDivisor 23 = .ok (.iload_n 3, 1) := by decide +kernel
theorem dX7_commonDivisor_24 : decode cX7_commonDivisor 24 = .ok (.istore_n 2, 1) := by decide +kernel
theorem dX7_commonDivisor_25 : decode cX7_commonDivisor 25 = .ok (.iload 5, 2) := by decide +kernel
theorem dX7_commonDivisor_27 : decode cX7_commonDivisor 27 = .ok (.istore_n 3, 1) := by decide +kernel
theorem dX7_commonDivisor_28 : decode cX7_commonDivisor 28 = .ok (.iinc 4 1, 3) := by decide +kernel
theorem dX7_commonDivisor_31 : decode cX7_commonDivisor 31 = .ok (.goto (-24), 3) := by decide +kernel
theorem dX7_commonDivisor_34 : decode cX7_commonDivisor 34 = .ok (.iload_n 2, 1) := by decide +kernel
theorem dX7_commonDivisor_35 : decode cX7_commonDivisor 35 = .ok (.ireturn, 1) := by decide +kernel
end
section
/-! what the small machine's steps are on the big one: constants, locals, arithmetic, jumps -/
theorem ai_push_ok {len n : Nat} {v : Value} {st st' : List Value} (h : ai_push len n v st = some st') : len = n ∧ st' = v :: st := by
  unfold ai_push at h
  split at h
  · cases h; exact ⟨by assumption, rfl⟩
  · cases h
theorem ai_pushO_ok {len n : Nat} {v : Option Value} {st st' : List Value} (h : ai_pushO len n v st = some st') : ∃ x, v = some x ∧ len = n ∧ st' = x :: st := by
  cases v with
  | none => cases h
  | some x => exact ⟨x, rfl, ai_push_ok h⟩
theorem ai_ldi_ok {len n i : Nat} {L st st' : List Value} (h : ai_ldi len n L i st = some st') : len = n ∧ ∃ x, L[i]? = some (.int x) ∧ st' = .int x :: st := by
  unfold ai_ldi at h
  split at h
  · rename_i x hx
    obtain ⟨h1, h2⟩ := ai_push_ok h
    exact ⟨h1, x, hx, h2⟩
  · cases h
theorem ai_ldl_ok {len n i : Nat} {L st st' : List Value} (h : ai_ldl len n L i st = some st') : len = n ∧ ∃ x, L[i]? = some (.long x) ∧ st' = .long x :: st := by
  unfold ai_ldl at h
  split at h
  · rename_i x hx
    obtain ⟨h1, h2⟩ := ai_push_ok h
    exact ⟨h1, x, hx, h2⟩
  · cases h
theorem ai_lda_ok {len n i : Nat} {L st st' : List Value} (h : ai_lda len n L i st = some st') : len = n ∧ ∃ x, L[i]? = some (.ref x) ∧ st' = .ref x :: st := by
  unfold ai_lda at h
  split at h
  · rename_i x hx
    obtain ⟨h1, h2⟩ := ai_push_ok h
    exact ⟨h1, x, hx, h2⟩
  · cases h
theorem ai_un_ok {len : Nat} {f : Int32 → Value} {st st' : List Value} (h : ai_un len f st = some st') : len = 1 ∧ ∃ x r, st = .int x :: r ∧ st' = f x :: r := by
  unfold ai_un at h
  split at h
  · obtain ⟨h1, h2⟩ := ai_push_ok h
    exact ⟨h1, _, _, rfl, h2⟩
  · cases h
theorem ai_unL_ok {len : Nat} {f : Int64 → Value} {st st' : List Value} (h : ai_unL len f st = some st') : len = 1 ∧ ∃ x r, st = .long x :: r ∧ st' = f x :: r := by
  unfold ai_unL at h
  split at h
  · obtain ⟨h1, h2⟩ := ai_push_ok h
    exact ⟨h1, _, _, rfl, h2⟩
  · cases h
theorem ai_bin_ok {len : Nat} {f : Int32 → Int32 → Int32} {st st' : List Value} (h : ai_bin len f st = some st') : len = 1 ∧ ∃ x y r, st = .int y :: .int x :: r ∧ st' = .int (f x y) :: r := by
  unfold ai_bin at h
  split at h
  · obtain ⟨h1, h2⟩ := ai_push_ok h
    exact ⟨h1, _, _, _, rfl, h2⟩
  · cases h
theorem ai_binZ_ok {len : Nat} {f : Int32 → Int32 → Int32} {st st' : List Value} (h : ai_binZ len f st = some st') : len = 1 ∧ ∃ x y r, ¬ y = 0 ∧ st = .int y :: .int x :: r ∧ st' = .int (f x y) :: r := by
  unfold ai_binZ at h
  split at h
  · split at h
    · cases h
    · obtain ⟨h1, h2⟩ := ai_push_ok h
      exact ⟨h1, _, _, _, by assumption, rfl, h2⟩
  · cases h
theorem ai_binL_ok {len : Nat} {f : Int64 → Int64 → Value} {st st' : List Value} (h : ai_binL len f st = some st') : len = 1 ∧ ∃ x y r, st = .long y :: .long x :: r ∧ st' = f x y :: r := by
  unfold ai_binL at h
  split at h
  · obtain ⟨h1, h2⟩ := ai_push_ok h
    exact ⟨h1, _, _, _, rfl, h2⟩
  · cases h
theorem ai_binLZ_ok {len : Nat} {f : Int64 → Int64 → Int64} {st st' : List Value} (h : ai_binLZ len f st = some st') : len = 1 ∧ ∃ x y r, ¬ y = 0 ∧ st = .long y :: .long x :: r ∧ st' = .long (f x y) :: r := by
  unfold ai_binLZ at h
  split at h
  · split at h
    · cases h
    · obtain ⟨h1, h2⟩ := ai_push_ok h
      exact ⟨h1, _, _, _, by assumption, rfl, h2⟩
  · cases h
theorem ai_shL_ok {len : Nat} {f : Int64 → Int32 → Int64} {st st' : List Value} (h : ai_shL len f st = some st') : len = 1 ∧ ∃ x y r, st = .int y :: .long x :: r ∧ st' = .long (f x y) :: r := by
  unfold ai_shL at h
  split at h
  · obtain ⟨h1, h2⟩ := ai_push_ok h
    exact ⟨h1, _, _, _, rfl, h2⟩
  · cases h
/-- a value names a cell of the world, or one of the two arrays that were there before, if it names one -/
def ai_okv (n : Nat) (v : Value) : Prop := ∀ i, v = .ref i → i < n ∨ i = ai_O ∨ i = ai_O + 1
def ai_oks (n : Nat) (st : List Value) : Prop := ∀ v ∈ st, ai_okv n v
theorem ai_okI {n : Nat} {x : Int32} : ai_okv n (.int x) := fun i h => by cases h
theorem ai_okL {n : Nat} {x : Int64} : ai_okv n (.long x) := fun i h => by cases h
theorem ai_okN {n : Nat} : ai_okv n .null := fun i h => by cases h
theorem ai_oks_c {n : Nat} {v : Value} {st : List Value} (h1 : ai_okv n v) (h2 : ai_oks n st) : ai_oks n (v :: st) := fun u hu => by
  rcases List.mem_cons.mp hu with rfl | h
  · exact h1
  · exact h2 u h
theorem ai_oks_t {n : Nat} {v : Value} {st : List Value} (h : ai_oks n (v :: st)) : ai_oks n st := fun u hu => h u (List.mem_cons_of_mem _ hu)
theorem ai_oks_h {n : Nat} {v : Value} {st : List Value} (h : ai_oks n (v :: st)) : ai_okv n v := h v List.mem_cons_self
theorem ai_oks_n {n : Nat} : ai_oks n [] := fun _ h => by cases h
theorem ai_oks_at {n i : Nat} {v : Value} {L : List Value} (h : ai_oks n L) (hi : L[i]? = some v) : ai_okv n v := h v (List.mem_of_getElem? hi)
theorem ai_oks_set {n i : Nat} {v : Value} {L : List Value} (h : ai_oks n L) (hv : ai_okv n v) : ai_oks n (L.set i v) := fun u hu => by
  rcases List.mem_or_eq_of_mem_set hu with h1 | rfl
  · exact h u h1
  · exact hv
theorem ai_A_ok {own : String} {ins : Instr} {len n : Nat} {L st st' : List Value} (h : ai_A own ins len L st = some st') (hL : ai_oks n L) (hs : ai_oks n st) : ai_oks n st' := by
  unfold ai_A at h
  split at h
  all_goals first
    | (obtain ⟨x, hx, -, rfl⟩ := ai_pushO_ok h; rw [Option.map_eq_some_iff] at hx; obtain ⟨z, -, rfl⟩ := hx; exact ai_oks_c (fun i h => by cases h) hs)
    | (obtain ⟨-, rfl⟩ := ai_push_ok h; exact ai_oks_c (fun i h => by cases h) hs)
    | (obtain ⟨-, x, hx, rfl⟩ := ai_ldi_ok h; exact ai_oks_c ai_okI hs)
    | (obtain ⟨-, x, hx, rfl⟩ := ai_ldl_ok h; exact ai_oks_c ai_okL hs)
    | (obtain ⟨-, x, hx, rfl⟩ := ai_lda_ok h; exact ai_oks_c (ai_oks_at hL hx) hs)
    | (obtain ⟨-, x, y, r, rfl, rfl⟩ := ai_bin_ok h; exact ai_oks_c ai_okI (ai_oks_t (ai_oks_t hs)))
    | (obtain ⟨-, x, y, r, -, rfl, rfl⟩ := ai_binZ_ok h; exact ai_oks_c ai_okI (ai_oks_t (ai_oks_t hs)))
    | (obtain ⟨-, x, y, r, rfl, rfl⟩ := ai_binL_ok h; first | exact ai_oks_c ai_okL (ai_oks_t (ai_oks_t hs)) | exact ai_oks_c ai_okI (ai_oks_t (ai_oks_t hs)))
    | (obtain ⟨-, x, y, r, -, rfl, rfl⟩ := ai_binLZ_ok h; exact ai_oks_c ai_okL (ai_oks_t (ai_oks_t hs)))
    | (obtain ⟨-, x, y, r, rfl, rfl⟩ := ai_shL_ok h; exact ai_oks_c ai_okL (ai_oks_t (ai_oks_t hs)))
    | (obtain ⟨-, x, r, rfl, rfl⟩ := ai_un_ok h; first | exact ai_oks_c ai_okI (ai_oks_t hs) | exact ai_oks_c ai_okL (ai_oks_t hs))
    | (obtain ⟨-, x, r, rfl, rfl⟩ := ai_unL_ok h; exact ai_oks_c ai_okI (ai_oks_t hs))
    | skip
  · split at h
    · split at h
      · obtain ⟨-, rfl⟩ := ai_push_ok h
        exact ai_oks_c (ai_oks_h hs) hs
      · cases h
    · cases h
  · split at h
    · split at h
      · obtain ⟨-, rfl⟩ := ai_push_ok h
        exact ai_oks_c (ai_oks_h hs) (ai_oks_c (ai_oks_h (ai_oks_t hs)) hs)
      · cases h
    · cases h
  · split at h
    · split at h
      · cases h
        exact ai_oks_t hs
      · cases h
    · cases h
  · cases h
/-- the locals: what is known of each (null: nothing is) -/
def ai_L (ad : Nat → Nat) (nL : Nat) (L : List Value) (ls : Array Slot) : Prop := L.length = nL ∧ ls.size = nL ∧ lv_wf ls ∧ ∀ (i : Nat) (v : Value), L[i]? = some v → v ≠ .null → ls[i]? = some (.val (ai_cv ad v))
theorem ai_cat (ad : Nat → Nat) (v : Value) : (ai_cv ad v).category = v.category := by cases v <;> rfl
section SIMA
variable {p : Program} {l : Launch} {e : Env} {R : Room} {s : State} {m : MethodId} {args : Array Value} {below : List Frame} {meth : Method} {c : Code} {H : Heap} {locs : List Loc} {cells slots : Nat} {Q : State → Prop}
set_option maxHeartbeats 4000000 in
theorem ai_A_W {own : String} {cc : ByteArray} {ins : Instr} {len pc nL : Nat} {L st st' : List Value} {ad : Nat → Nat} {ls : Array Slot} (hx : p.tables.exec = Jvm.exec) (hb : c.code = cc) (hown : s.vm.findClass own = some m.cls) (hts : ∀ w ∈ ai_tb, w.before args s = true) (hdg : decode cc pc = .ok (ins, len)) (h : ai_A own ins len L st = some st') (hl : ai_L ad nL L ls)
    (k : W p l e R s m args below meth c H locs cells slots Q (F0 m (pc + len) ls (st'.map (ai_cv ad)))) : W p l e R s m args below meth c H locs cells slots Q (F0 m pc ls (st.map (ai_cv ad))) := by
  have hat : ∀ {i : Nat} {v : Value}, L[i]? = some v → v ≠ .null → ls[i]? = some (.val (ai_cv ad v)) := fun h1 h2 => hl.2.2.2 _ _ h1 h2
  unfold ai_A at h
  split at h
  · obtain ⟨rfl, rfl⟩ := ai_push_ok h; exact lv_iconst hx hb hdg rfl k
  · obtain ⟨rfl, rfl⟩ := ai_push_ok h; exact lv_bipush hx hb hdg rfl k
  · obtain ⟨rfl, rfl⟩ := ai_push_ok h; exact lv_sipush hx hb hdg rfl k
  · obtain ⟨rfl, rfl⟩ := ai_push_ok h; exact lv_lconst hx hb hdg rfl k
  · obtain ⟨x, hv, rfl, rfl⟩ := ai_pushO_ok h
    rw [Option.map_eq_some_iff] at hv
    obtain ⟨z, hc, rfl⟩ := hv
    exact lv_ldcw hx hb hown (hts _ (ai_cst_mem hc)) hdg k
  · obtain ⟨x, hv, rfl, rfl⟩ := ai_pushO_ok h
    rw [Option.map_eq_some_iff] at hv
    obtain ⟨z, hc, rfl⟩ := hv
    exact lv_ldc2 hx hb hown (hts _ (ai_cstL_mem hc)) hdg k
  · obtain ⟨rfl, x, hx1, rfl⟩ := ai_ldi_ok h; exact lv_iload hx hb hdg (hat hx1 (by simp)) k
  · obtain ⟨rfl, x, hx1, rfl⟩ := ai_ldi_ok h; exact lv_iload_n hx hb hdg rfl (hat hx1 (by simp)) k
  · obtain ⟨rfl, x, hx1, rfl⟩ := ai_ldl_ok h; exact lv_lload hx hb hdg (hat hx1 (by simp)) k
  · obtain ⟨rfl, x, hx1, rfl⟩ := ai_ldl_ok h; exact lv_lload_n hx hb hdg rfl (hat hx1 (by simp)) k
  · obtain ⟨rfl, x, hx1, rfl⟩ := ai_lda_ok h; exact lv_aload hx hb hdg (hat hx1 (by simp)) k
  · obtain ⟨rfl, x, hx1, rfl⟩ := ai_lda_ok h; exact lv_aload_n hx hb hdg rfl (hat hx1 (by simp)) k
  · obtain ⟨rfl, x, y, r, rfl, rfl⟩ := ai_bin_ok h; exact lv_iadd hx hb hdg k
  · obtain ⟨rfl, x, y, r, rfl, rfl⟩ := ai_bin_ok h; exact lv_isub hx hb hdg k
  · obtain ⟨rfl, x, y, r, rfl, rfl⟩ := ai_bin_ok h; exact lv_imul hx hb hdg k
  · obtain ⟨rfl, x, y, r, rfl, rfl⟩ := ai_bin_ok h; exact lv_iand hx hb hdg k
  · obtain ⟨rfl, x, y, r, rfl, rfl⟩ := ai_bin_ok h; exact lv_ior hx hb hdg k
  · obtain ⟨rfl, x, y, r, rfl, rfl⟩ := ai_bin_ok h; exact lv_ishl hx hb hdg k
  · obtain ⟨rfl, x, y, r, rfl, rfl⟩ := ai_bin_ok h; exact lv_ishr hx hb hdg k
  · obtain ⟨rfl, x, y, r, rfl, rfl⟩ := ai_bin_ok h; exact lv_iushr hx hb hdg rfl k
  · obtain ⟨rfl, x, y, r, hy, rfl, rfl⟩ := ai_binZ_ok h; exact lv_idiv hx hb hdg hy k
  · obtain ⟨rfl, x, y, r, hy, rfl, rfl⟩ := ai_binZ_ok h; exact lv_irem hx hb hdg hy k
  · obtain ⟨rfl, x, r, rfl, rfl⟩ := ai_un_ok h; exact lv_ineg hx hb hdg k
  · obtain ⟨rfl, x, r, rfl, rfl⟩ := ai_un_ok h; exact lv_i2l hx hb hdg rfl k
  · obtain ⟨rfl, x, r, rfl, rfl⟩ := ai_unL_ok h; exact lv_l2i hx hb hdg rfl k
  · obtain ⟨rfl, x, y, r, rfl, rfl⟩ := ai_binL_ok h; exact lv_ladd hx hb hdg k
  · obtain ⟨rfl, x, y, r, rfl, rfl⟩ := ai_binL_ok h; exact lv_lsub hx hb hdg k
  · obtain ⟨rfl, x, y, r, rfl, rfl⟩ := ai_binL_ok h; exact lv_lmul hx hb hdg k
  · obtain ⟨rfl, x, y, r, rfl, rfl⟩ := ai_binL_ok h; exact lv_land hx hb hdg k
  · obtain ⟨rfl, x, y, r, rfl, rfl⟩ := ai_binL_ok h; exact lv_lor hx hb hdg k
  · obtain ⟨rfl, x, y, r, rfl, rfl⟩ := ai_binL_ok h; exact W.lcmp hx hb hdg k
  · obtain ⟨rfl, x, y, r, hy, rfl, rfl⟩ := ai_binLZ_ok h; exact lv_ldiv hx hb hdg hy k
  · obtain ⟨rfl, x, y, r, hy, rfl, rfl⟩ := ai_binLZ_ok h; exact lv_lrem hx hb hdg hy k
  · obtain ⟨rfl, x, y, r, rfl, rfl⟩ := ai_shL_ok h; exact lv_lshl hx hb hdg rfl k
  · obtain ⟨rfl, x, y, r, rfl, rfl⟩ := ai_shL_ok h; exact lv_lushr hx hb hdg rfl k
  · split at h
    · split at h
      · rename_i hc
        obtain ⟨rfl, rfl⟩ := ai_push_ok h
        exact lv_dup hx hb hdg (by rw [ai_cat]; exact hc) k
      · cases h
    · cases h
  · split at h
    · split at h
      · rename_i hc
        obtain ⟨rfl, rfl⟩ := ai_push_ok h
        exact lv_dup2_11 hx hb hdg (by rw [ai_cat]; exact hc.1) (by rw [ai_cat]; exact hc.2) k
      · cases h
    · cases h
  · split at h
    · split at h
      · rename_i hc
        obtain ⟨h1, rfl⟩ := hc
        cases h
        exact lv_pop hx hb hdg (by rw [ai_cat]; exact h1) k
      · cases h
    · cases h
  · cases h
-- locals are set
def ai_lv (ad : Nat → Nat) (L : List Value) : List (Nat × Value) := (List.range L.length).filterMap fun (j : Nat) => match L[j]? with
  | some Value.null => none
  | some v => some (j, ai_cv ad v)
  | none => none
theorem ai_lv_mem {ad : Nat → Nat} {L : List Value} {j : Nat} {v : Value} (h : L[j]? = some v) (hn : v ≠ .null) : (j, ai_cv ad v) ∈ ai_lv ad L := by
  refine List.mem_filterMap.mpr ⟨j, List.mem_range.mpr (List.getElem?_eq_some_iff.mp h).1, ?_⟩
  rw [h]
  cases v <;> first | rfl | exact absurd rfl hn
theorem ai_lv_has {ad : Nat → Nat} {nL : Nat} {L : List Value} {ls : Array Slot} (h : ai_L ad nL L ls) : lv_has ls nL (ai_lv ad L) := by
  refine ⟨h.2.1, h.2.2.1, fun q hq => ?_⟩
  obtain ⟨j, -, hj⟩ := List.mem_filterMap.mp hq
  split at hj
  · cases hj
  · rename_i v hv1 hv2
    cases hj
    exact h.2.2.2 j v hv2 (fun z => hv1 z)
  · cases hj
theorem ai_cat2 {v : Value} : (ai_is2 (some v) = false) → ¬ v.category = 2 := by cases v <;> simp [ai_is2, Value.category]
theorem ai_L_set1 {ad : Nat → Nat} {nL i : Nat} {L : List Value} {ls' : Array Slot} {v : Value} (hn : L.length = nL) (hi : i < L.length) (h2 : i = 0 ∨ ai_is2 L[i - 1]? = false) (h : lv_has ls' nL ((i, ai_cv ad v) :: (ai_lv ad L).filter (fun q => !(q.1 == i) && !(q.1 + 1 == i && q.2.category == 2)))) : ai_L ad nL (L.set i v) ls' := by
  refine ⟨by rw [List.length_set]; exact hn, h.1, h.2.1, fun j u hj hu => ?_⟩
  by_cases hij : j = i
  · subst hij
    rw [List.getElem?_set_self hi] at hj
    cases hj
    exact h.2.2 _ List.mem_cons_self
  · rw [List.getElem?_set_ne (Ne.symm hij)] at hj
    refine h.2.2 (j, ai_cv ad u) (List.mem_cons_of_mem _ (List.mem_filter.mpr ⟨ai_lv_mem hj hu, ?_⟩))
    have e1 : (j == i) = false := by simp [hij]
    simp only [e1, ai_cat]
    by_cases hj1 : j + 1 = i
    · subst hj1
      have := ai_cat2 (v := u) (by rw [← hj]; rcases h2 with h2 | h2
                                   · omega
                                   · simpa using h2)
      simp [this]
    · simp [hj1]
theorem ai_L_set2 {ad : Nat → Nat} {nL i : Nat} {L : List Value} {ls' : Array Slot} {v : Value} (hn : L.length = nL) (hi : i + 1 < L.length) (h2 : i = 0 ∨ ai_is2 L[i - 1]? = false) (h : lv_has ls' nL ((i, ai_cv ad v) :: (ai_lv ad L).filter (fun q => !(q.1 == i) && (!(q.1 == i + 1) && !(q.1 + 1 == i && q.2.category == 2))))) : ai_L ad nL ((L.set i v).set (i + 1) .null) ls' := by
  refine ⟨by rw [List.length_set, List.length_set]; exact hn, h.1, h.2.1, fun j u hj hu => ?_⟩
  by_cases hj2 : j = i + 1
  · subst hj2
    rw [List.getElem?_set_self (by rw [List.length_set]; exact hi)] at hj
    cases hj
    exact absurd rfl hu
  · rw [List.getElem?_set_ne (Ne.symm hj2)] at hj
    by_cases hij : j = i
    · subst hij
      rw [List.getElem?_set_self (by omega)] at hj
      cases hj
      exact h.2.2 _ List.mem_cons_self
    · rw [List.getElem?_set_ne (Ne.symm hij)] at hj
      refine h.2.2 (j, ai_cv ad u) (List.mem_cons_of_mem _ (List.mem_filter.mpr ⟨ai_lv_mem hj hu, ?_⟩))
      have e1 : (j == i) = false := by simp [hij]
      have e2 : (j == i + 1) = false := by simp [hj2]
      simp only [e1, e2, ai_cat]
      by_cases hj1 : j + 1 = i
      · subst hj1
        have := ai_cat2 (v := u) (by rw [← hj]; rcases h2 with h2 | h2
                                     · omega
                                     · simpa using h2)
        simp [this]
      · simp [hj1]
theorem ai_sti_ok {len n i : Nat} {L st : List Value} {q : List Value × List Value} (h : ai_sti len n L i st = some q) : len = n ∧ i < L.length ∧ (i = 0 ∨ ai_is2 L[i - 1]? = false) ∧ ∃ x, st = .int x :: q.2 ∧ q.1 = L.set i (.int x) := by
  unfold ai_sti at h
  split at h
  · split at h
    · rename_i hc
      cases h
      exact ⟨hc.1, hc.2.1, hc.2.2, _, rfl, rfl⟩
    · cases h
  · cases h
theorem ai_sta_ok {len n i : Nat} {L st : List Value} {q : List Value × List Value} (h : ai_sta len n L i st = some q) : len = n ∧ i < L.length ∧ (i = 0 ∨ ai_is2 L[i - 1]? = false) ∧ ∃ x, st = .ref x :: q.2 ∧ q.1 = L.set i (.ref x) := by
  unfold ai_sta at h
  split at h
  · split at h
    · rename_i hc
      cases h
      exact ⟨hc.1, hc.2.1, hc.2.2, _, rfl, rfl⟩
    · cases h
  · cases h
theorem ai_stl_ok {len n i : Nat} {L st : List Value} {q : List Value × List Value} (h : ai_stl len n L i st = some q) : len = n ∧ i + 1 < L.length ∧ (i = 0 ∨ ai_is2 L[i - 1]? = false) ∧ ∃ x, st = .long x :: q.2 ∧ q.1 = (L.set i (.long x)).set (i + 1) .null := by
  unfold ai_stl at h
  split at h
  · split at h
    · rename_i hc
      cases h
      exact ⟨hc.1, hc.2.1, hc.2.2, _, rfl, rfl⟩
    · cases h
  · cases h
theorem ai_B_ok {ins : Instr} {len n : Nat} {L st L' st' : List Value} (h : ai_B ins len L st = some (L', st')) (hL : ai_oks n L) (hs : ai_oks n st) : ai_oks n L' ∧ ai_oks n st' := by
  unfold ai_B at h
  split at h
  all_goals first
    | (obtain ⟨-, -, -, x, rfl, rfl⟩ := ai_sti_ok h; exact ⟨ai_oks_set hL ai_okI, ai_oks_t hs⟩)
    | (obtain ⟨-, -, -, x, rfl, rfl⟩ := ai_stl_ok h; exact ⟨ai_oks_set (ai_oks_set hL ai_okL) ai_okN, ai_oks_t hs⟩)
    | (obtain ⟨-, -, -, x, rfl, rfl⟩ := ai_sta_ok h; exact ⟨ai_oks_set hL (ai_oks_h hs), ai_oks_t hs⟩)
    | skip
  · split at h
    · obtain ⟨-, -, -, x, h1, rfl⟩ := ai_sti_ok h
      cases h1
      exact ⟨ai_oks_set hL ai_okI, hs⟩
    · cases h
  · cases h
theorem ai_B_W {cc : ByteArray} {ins : Instr} {len pc nL : Nat} {L st L' st' : List Value} {ad : Nat → Nat} {ls : Array Slot} (hx : p.tables.exec = Jvm.exec) (hb : c.code = cc) (hdg : decode cc pc = .ok (ins, len)) (h : ai_B ins len L st = some (L', st')) (hl : ai_L ad nL L ls)
    (k : ∀ ls' : Array Slot, ai_L ad nL L' ls' → W p l e R s m args below meth c H locs cells slots Q (F0 m (pc + len) ls' (st'.map (ai_cv ad)))) : W p l e R s m args below meth c H locs cells slots Q (F0 m pc ls (st.map (ai_cv ad))) := by
  have hh := ai_lv_has hl
  have hlen := hl.1
  unfold ai_B at h
  split at h
  · obtain ⟨rfl, h1, h2, x, rfl, rfl⟩ := ai_sti_ok h; exact lv_istore hx hb hdg hh (by omega) rfl (fun ls' hl' => k ls' (ai_L_set1 (v := .int x) hlen h1 h2 hl'))
  · obtain ⟨rfl, h1, h2, x, rfl, rfl⟩ := ai_sti_ok h; exact lv_istore_n hx hb hdg rfl hh (by omega) rfl (fun ls' hl' => k ls' (ai_L_set1 (v := .int x) hlen h1 h2 hl'))
  · obtain ⟨rfl, h1, h2, x, rfl, rfl⟩ := ai_stl_ok h; exact lv_lstore hx hb hdg hh (by omega) rfl (fun ls' hl' => k ls' (ai_L_set2 (v := .long x) hlen h1 h2 hl'))
  · obtain ⟨rfl, h1, h2, x, rfl, rfl⟩ := ai_stl_ok h; exact lv_lstore_n hx hb hdg rfl hh (by omega) rfl (fun ls' hl' => k ls' (ai_L_set2 (v := .long x) hlen h1 h2 hl'))
  · obtain ⟨rfl, h1, h2, x, rfl, rfl⟩ := ai_sta_ok h; exact lv_astore hx hb hdg hh (by omega) rfl (fun ls' hl' => k ls' (ai_L_set1 (v := .ref x) hlen h1 h2 hl'))
  · obtain ⟨rfl, h1, h2, x, rfl, rfl⟩ := ai_sta_ok h; exact lv_astore_n hx hb hdg rfl hh (by omega) rfl (fun ls' hl' => k ls' (ai_L_set1 (v := .ref x) hlen h1 h2 hl'))
  · split at h
    · rename_i i n x hxi
      obtain ⟨rfl, h1, h2, y, h3, rfl⟩ := ai_sti_ok h
      cases h3
      obtain ⟨kk, hkk⟩ := List.getElem?_of_mem (ai_lv_mem (ad := ad) hxi (by simp))
      exact lv_iinc hx hb hdg hh hkk rfl (by omega) rfl (fun ls' hl' => k ls' (ai_L_set1 (v := .int _) hlen h1 h2 hl'))
    · cases h
  · cases h
-- jumps
theorem ai_tg_ok {pc pc' : Nat} {off : Int} {st st' : List Value} (h : ai_tg pc off st = some (pc', st')) : (pc : Int) + off = (pc' : Int) ∧ st' = st := by
  unfold ai_tg at h
  split at h
  · cases h
    exact ⟨by omega, rfl⟩
  · cases h
theorem ai_br_ok {b : Prop} {i : Decidable b} {len pc pc' : Nat} {off : Int} {st st' : List Value} (h : ai_br b i len pc off st = some (pc', st')) : len = 3 ∧ st' = st ∧ ∃ t : Nat, (pc : Int) + off = (t : Int) ∧ (b → pc' = t) ∧ (¬ b → pc' = pc + 3) := by
  unfold ai_br at h
  split at h
  · rename_i h0
    refine ⟨h0.1, ?_⟩
    split at h
    · rename_i hb
      cases h
      exact ⟨rfl, _, by omega, fun _ => rfl, fun z => absurd hb z⟩
    · rename_i hb
      cases h
      exact ⟨rfl, ((pc : Int) + off).toNat, by omega, fun z => absurd z hb, fun _ => rfl⟩
  · cases h
theorem ai_J_ok {ins : Instr} {len n pc pc' : Nat} {st st' : List Value} (h : ai_J ins len pc st = some (pc', st')) (hs : ai_oks n st) : ai_oks n st' := by
  unfold ai_J at h
  split at h
  · split at h
    · obtain ⟨-, rfl⟩ := ai_tg_ok h; exact hs
    · cases h
  · split at h
    · unfold ai_cmp at h
      split at h <;> (obtain ⟨-, rfl, -⟩ := ai_br_ok h; exact ai_oks_t hs)
    · cases h
  · split at h
    · unfold ai_cmp at h
      split at h <;> (obtain ⟨-, rfl, -⟩ := ai_br_ok h; exact ai_oks_t (ai_oks_t hs))
    · cases h
  · split at h
    · split at h
      · obtain ⟨-, rfl⟩ := ai_tg_ok h; exact ai_oks_t hs
      · split at h
        · obtain ⟨-, rfl⟩ := ai_tg_ok h; exact ai_oks_t hs
        · cases h
    · cases h
  · split at h
    · split at h
      · obtain ⟨-, rfl⟩ := ai_tg_ok h; exact ai_oks_t hs
      · cases h
    · cases h
  · cases h
theorem ai_J_W {cc : ByteArray} {ins : Instr} {len pc pc' : Nat} {st st' : List Value} {ad : Nat → Nat} {ls : Array Slot} (hx : p.tables.exec = Jvm.exec) (hb : c.code = cc) (hdg : decode cc pc = .ok (ins, len)) (h : ai_J ins len pc st = some (pc', st'))
    (k : W p l e R s m args below meth c H locs cells slots Q (F0 m pc' ls (st'.map (ai_cv ad)))) : W p l e R s m args below meth c H locs cells slots Q (F0 m pc ls (st.map (ai_cv ad))) := by
  unfold ai_J at h
  split at h
  · split at h
    · rename_i h0
      subst h0
      obtain ⟨h1, rfl⟩ := ai_tg_ok h
      exact lv_goto hx hb hdg h1 k
    · cases h
  · split at h
    · unfold ai_cmp at h
      split at h
      all_goals (obtain ⟨rfl, rfl, t, ht, h1, h2⟩ := ai_br_ok h)
      · exact lv_if_eq hx hb hdg ht (fun z => by rw [← h1 z]; exact k) (fun z => by rw [← h2 z]; exact k)
      · exact lv_if_ne hx hb hdg ht (fun z => by rw [← h1 z]; exact k) (fun z => by rw [← h2 (fun y => y z)]; exact k)
      · exact lv_if_lt hx hb hdg ht (fun z => by rw [← h1 z]; exact k) (fun z => by rw [← h2 z]; exact k)
      · exact lv_if_ge hx hb hdg ht (fun z => by rw [← h1 z]; exact k) (fun z => by rw [← h2 z]; exact k)
      · exact lv_if_gt hx hb hdg ht (fun z => by rw [← h1 z]; exact k) (fun z => by rw [← h2 z]; exact k)
      · exact lv_if_le hx hb hdg ht (fun z => by rw [← h1 z]; exact k) (fun z => by rw [← h2 z]; exact k)
    · cases h
  · split at h
    · unfold ai_cmp at h
      split at h
      all_goals (obtain ⟨rfl, rfl, t, ht, h1, h2⟩ := ai_br_ok h)
      · exact lv_icmp_eq hx hb hdg ht (fun z => by rw [← h1 z]; exact k) (fun z => by rw [← h2 z]; exact k)
      · exact lv_icmp_ne hx hb hdg ht (fun z => by rw [← h1 z]; exact k) (fun z => by rw [← h2 (fun y => y z)]; exact k)
      · exact lv_icmp_lt hx hb hdg ht (fun z => by rw [← h1 z]; exact k) (fun z => by rw [← h2 z]; exact k)
      · exact lv_icmp_ge hx hb hdg ht (fun z => by rw [← h1 z]; exact k) (fun z => by rw [← h2 z]; exact k)
      · exact lv_icmp_gt hx hb hdg ht (fun z => by rw [← h1 z]; exact k) (fun z => by rw [← h2 z]; exact k)
      · exact lv_icmp_le hx hb hdg ht (fun z => by rw [← h1 z]; exact k) (fun z => by rw [← h2 z]; exact k)
    · cases h
  · split at h
    · split at h
      · rename_i h0
        obtain ⟨h1, rfl⟩ := ai_tg_ok h
        exact lv_tableOut hx hb hdg h0 h1 k
      · rename_i h0
        split at h
        · rename_i off ho
          obtain ⟨h1, rfl⟩ := ai_tg_ok h
          exact lv_tableIn hx hb hdg (fun z => h0 (Or.inl z)) (fun z => h0 (Or.inr z)) ho h1 k
        · cases h
    · cases h
  · split at h
    · split at h
      · rename_i h0
        obtain ⟨h1, rfl⟩ := ai_tg_ok h
        exact lv_lookup hx hb hdg h0 rfl h1 k
      · cases h
    · cases h
  · cases h
end SIMA
end
section
/-! the world of the small machine, as cells of the big one's heap -/
def ai_N (c : Nat) : Nat := match ai_cl[c]? with
  | some q => q.2.2
  | none => 0
def ai_fv (ad : Nat → Nat) (w : ai_W) (c i j : Nat) : Value := if ai_ty c j = .int then .int (w.2.2.2.2.1 i j) else if ai_ty c j = .long then .long (w.2.2.2.2.2 i j) else va_rf ((w.2.2.2.1 i j).map ad)
def ai_en (ad : Nat → Nat) (tc : Nat → ClassId) (w : ai_W) (i : Nat) : va_E := match (w.2.2.1 i).1 with
  | 0 => .inl (tc i, (w.2.2.1 i).2, .inl (w.2.2.2.2.1 i))
  | 1 => .inl (tc i, (w.2.2.1 i).2, .inl (w.2.2.2.2.1 i))
  | 2 => .inl (tc i, (w.2.2.1 i).2, .inr (.inr (.inr (.inr (fun j => (w.2.2.2.1 i j).map ad)))))
  | c + 3 => .inr (c, (List.range (ai_N c)).map (ai_fv ad w c i))
def ai_cells (ad : Nat → Nat) (tc : Nat → ClassId) (w : ai_W) : va_W := (List.range w.1).map fun i => (ad i, ai_en ad tc w i)
theorem ai_range_at {α : Type} {N k : Nat} {f : Nat → α} (h : k < N) : ((List.range N).map f)[k]? = some (f k) := by
  rw [List.getElem?_map, List.getElem?_range h]
  rfl
theorem ai_range_set {α : Type} {N k : Nat} {f g : Nat → α} {x : α} (hx : x = g k) (h : ∀ j, j < N → j ≠ k → f j = g j) : ((List.range N).map f).set k x = (List.range N).map g := by
  subst hx
  apply List.ext_getElem?
  intro j
  rw [List.getElem?_set]
  by_cases hj : j < N
  · by_cases hk : k = j
    · subst hk
      rw [if_pos rfl, if_pos (by simpa using hj), ai_range_at hj]
    · rw [if_neg hk, ai_range_at hj, ai_range_at hj, h j hj (Ne.symm hk)]
  · have e1 : ((List.range N).map f)[j]? = none := by simp; omega
    have e2 : ((List.range N).map g)[j]? = none := by simp; omega
    rw [e1, e2]
    split
    · split
      · rename_i h1 h2
        simp at h2
        omega
      · rfl
    · rfl
theorem ai_cells_at {ad : Nat → Nat} {tc : Nat → ClassId} {w : ai_W} {i : Nat} (h : i < w.1) : (ai_cells ad tc w)[i]? = some (ad i, ai_en ad tc w i) := ai_range_at h
theorem ai_en_i {ad : Nat → Nat} {tc : Nat → ClassId} {w : ai_W} {i k : Nat} (hk : k < 2) (h : (w.2.2.1 i).1 = k) : ai_en ad tc w i = .inl (tc i, (w.2.2.1 i).2, .inl (w.2.2.2.2.1 i)) := by
  unfold ai_en
  rw [h]
  match k, hk with
  | 0, _ => rfl
  | 1, _ => rfl
theorem ai_en_r {ad : Nat → Nat} {tc : Nat → ClassId} {w : ai_W} {i : Nat} (h : (w.2.2.1 i).1 = 2) : ai_en ad tc w i = .inl (tc i, (w.2.2.1 i).2, .inr (.inr (.inr (.inr (fun j => (w.2.2.2.1 i j).map ad))))) := by
  unfold ai_en
  rw [h]
theorem ai_en_o {ad : Nat → Nat} {tc : Nat → ClassId} {w : ai_W} {i c : Nat} (h : (w.2.2.1 i).1 = c + 3) : ai_en ad tc w i = .inr (c, (List.range (ai_N c)).map (ai_fv ad w c i)) := by
  unfold ai_en
  rw [h]
/-- two worlds, two maps, alike at a cell -/
theorem ai_en_eq {ad ad' : Nat → Nat} {tc tc' : Nat → ClassId} {w w' : ai_W} {i : Nat} (hk : w'.2.2.1 i = w.2.2.1 i) (ht : tc' i = tc i) (hm : w'.2.2.2.2.1 i = w.2.2.2.2.1 i) (hl : w'.2.2.2.2.2 i = w.2.2.2.2.2 i) (hr : w'.2.2.2.1 i = w.2.2.2.1 i) (ha : ∀ j k, w.2.2.2.1 i j = some k → ad' k = ad k) : ai_en ad' tc' w' i = ai_en ad tc w i := by
  have hra : ∀ j, (w.2.2.2.1 i j).map ad' = (w.2.2.2.1 i j).map ad := by
    intro j
    cases hj : w.2.2.2.1 i j with
    | none => rfl
    | some k => simp [ha j k hj]
  have hf : ∀ c, ai_fv ad' w' c i = ai_fv ad w c i := by
    intro c
    funext j
    unfold ai_fv
    rw [hm, hl, hr, hra]
  unfold ai_en
  rw [hk]
  simp only [ht, hm, hr, hra, hf]
theorem ai_cells_set {ad : Nat → Nat} {tc : Nat → ClassId} {w w' : ai_W} {i : Nat} {E : va_E} (hn : w'.1 = w.1) (hE : E = ai_en ad tc w' i) (hk : w'.2.2.1 = w.2.2.1) (ho : ∀ a, a ≠ i → w'.2.2.2.2.1 a = w.2.2.2.2.1 a ∧ w'.2.2.2.2.2 a = w.2.2.2.2.2 a ∧ w'.2.2.2.1 a = w.2.2.2.1 a) : (ai_cells ad tc w).set i (ad i, E) = ai_cells ad tc w' := by
  subst hE
  unfold ai_cells
  rw [hn]
  refine ai_range_set rfl (fun j _ hj => ?_)
  rw [ai_en_eq (w' := w') (w := w) (ad' := ad) (ad := ad) (tc' := tc) (tc := tc) (by rw [hk]) rfl (ho j hj).1 (ho j hj).2.1 (ho j hj).2.2 (fun _ _ _ => rfl)]
def ai_wf (w : ai_W) : Prop := w.1 ≤ 1000000 ∧ ∀ i j k, i < w.1 → w.2.2.2.1 i j = some k → k < w.1
theorem ai_cells_new {ad : Nat → Nat} {tc tc' : Nat → ClassId} {w : ai_W} {q k sl : Nat} {E : va_E} (hw : ai_wf w) (ht : ∀ i, i < w.1 → tc' i = tc i) (hE : E = ai_en (va_up ad w.1 q) tc' (ai_mk w k sl) w.1) : ai_cells ad tc w ++ [(q, E)] = ai_cells (va_up ad w.1 q) tc' (ai_mk w k sl) := by
  subst hE
  unfold ai_cells
  rw [show (ai_mk w k sl).1 = w.1 + 1 from rfl, List.range_succ, List.map_append]
  congr 1
  · refine List.map_congr_left (fun i hi => ?_)
    have hi := List.mem_range.mp hi
    have hne : i ≠ w.1 := by omega
    rw [ai_en_eq (w' := ai_mk w k sl) (w := w) (ad' := va_up ad w.1 q) (ad := ad) (tc' := tc') (tc := tc) (by simp [ai_mk, va_up, hne]) (ht i hi) (by simp [ai_mk, va_up, hne]) (by simp [ai_mk, va_up, hne]) (by simp [ai_mk, va_up, hne]) (fun j k hj => by
      have := hw.2 i j k hi hj
      simp [va_up, Nat.ne_of_lt this])]
    simp [va_up, hne]
  · simp [va_up]
def ai_kt (k : Nat) : FieldType := match k with
  | 0 => .int
  | 1 => .boolean
  | _ => .object RX2
def ai_V (D : va_G) (tc : Nat → ClassId) (w : ai_W) (U : State) : Prop := va_K D ai_cl [] U ∧ ∀ i, i < w.1 → (w.2.2.1 i).1 < 3 → ArrOfT U (tc i) (ai_kt (w.2.2.1 i).1) ∧ va_RA U (tc i) (ai_kt (w.2.2.1 i).1)
/-- an int array that was there before: its first N places -/
def ai_X (b N : Nat) (xs : Nat → Int32) (U : State) (H : Heap) : Prop := ∃ cell : Cell, H[b]? = some cell ∧ U.isArrayOf cell .int ∧ cell.vm ≠ .unknown ∧ N ≤ cell.slots.size ∧ cell.slots.size.toInt32 = Int32.ofNat N ∧ ∀ j : Nat, j < N → cell.slots[j]? = some (.int (xs j))
theorem ai_X.kept {b N : Nat} {xs : Nat → Int32} {U : State} {H H1 : Heap} (h : ai_X b N xs U H) (hq : H1[b]? = H[b]?) : ai_X b N xs U H1 := by
  obtain ⟨cell, h1, h2⟩ := h
  exact ⟨cell, by rw [hq]; exact h1, h2⟩
theorem ai_X.moved {b N : Nat} {xs : Nat → Int32} {u U : State} {H : Heap} (hvm : u.vm.Alike U.vm) (h : ai_X b N xs u H) : ai_X b N xs U H := by
  obtain ⟨cell, h1, h2, h3⟩ := h
  exact ⟨cell, h1, State.isArrayOf_alike hvm h2, h3⟩
def ai_Old (A : Nat → Prop) (oL : Nat → Nat) (ox : Nat → Nat → Int32) (ob : Nat → Nat) (U : State) (H : Heap) : Prop := (∀ k, k < 2 → ai_X (ob k) (oL k) (ox k) U H ∧ ob k < H.size ∧ ¬ A (ob k)) ∧ va_Z "SleepHarbour" "FACTORIAL" "[I" (.ref (ob 1)) A U H
def ai_Nw (U : State) : Prop := va_AO RX2 U ∧ ∀ (own : String) (idx : Nat) (z : MethodName) (host : String), Cond.methodLinkNest own idx z host ∈ lw_tbl → va_Nw (.methodLinkNest own idx z host) U
/-- the heap H holds the world, in the body of a method that was entered at s -/
def ai_I (sz : Nat) (oL : Nat → Nat) (ox : Nat → Nat → Int32) (ob : Nat → Nat) (D : va_G) (ad : Nat → Nat) (tc : Nat → ClassId) (w : ai_W) (s : State) (H : Heap) : Prop :=
  sz ≤ s.heap.size ∧ ai_V D tc w s ∧ va_P D ai_cl (ai_cells ad tc w) H ∧ va_D (fun q => sz ≤ q) (ai_cells ad tc w) ∧ ai_Old (fun q => sz ≤ q) oL ox ob s s.heap ∧ ai_Nw s ∧ ai_wf w ∧ ∀ k, k < 2 → ad (ai_O + k) = ob k
theorem ai_V.moved {D : va_G} {tc : Nat → ClassId} {w : ai_W} {u U : State} (hvm : u.vm.Alike U.vm) (h : ai_V D tc w u) : ai_V D tc w U := ⟨va_K.moved hvm h.1, fun i hi hk => ⟨arrOfT_moved hvm (h.2 i hi hk).1, (h.2 i hi hk).2.moved hvm⟩⟩
theorem ai_V.K {D : va_G} {tc : Nat → ClassId} {w : ai_W} {s : State} {i k : Nat} (h : ai_V D tc w s) (hi : i < w.1) (hk : (w.2.2.1 i).1 = k) (hk3 : k < 3) : va_K D ai_cl [(tc i, ai_kt k)] s := by
  refine ⟨h.1.1, fun j q hj => ?_⟩
  match j, hj with
  | 0, hj =>
    cases hj
    subst hk
    exact h.2 i hi hk3
/-- the world is the same, but for a new heap, of the same shape -/
theorem ai_V.same {D : va_G} {tc : Nat → ClassId} {w w' : ai_W} {s : State} (h : ai_V D tc w s) (hn : w'.1 = w.1) (hk : w'.2.2.1 = w.2.2.1) : ai_V D tc w' s := ⟨h.1, fun i hi h3 => by rw [hk] at h3 ⊢; exact h.2 i (by omega) h3⟩
theorem ai_cvs {ad ad' : Nat → Nat} {n : Nat} {v : Value} (h : ai_okv n v) (ha : ∀ i, i < n → ad' i = ad i) (ho : ∀ k, k < 2 → ad' (ai_O + k) = ad (ai_O + k)) : ai_cv ad' v = ai_cv ad v := by
  cases v with
  | ref i =>
    rcases h i rfl with h | h | h
    · simp [ai_cv, ha i h]
    · subst h; simp only [ai_cv]; rw [show ad' ai_O = ad ai_O from ho 0 (by decide)]
    · subst h; simp only [ai_cv]; rw [show ad' (ai_O + 1) = ad (ai_O + 1) from ho 1 (by decide)]
  | _ => rfl
theorem ai_cvm {ad ad' : Nat → Nat} {n : Nat} {st : List Value} (h : ai_oks n st) (ha : ∀ i, i < n → ad' i = ad i) (ho : ∀ k, k < 2 → ad' (ai_O + k) = ad (ai_O + k)) : st.map (ai_cv ad') = st.map (ai_cv ad) := List.map_congr_left (fun v hv => ai_cvs (h v hv) ha ho)
theorem ai_L.to {ad ad' : Nat → Nat} {n nL : Nat} {L : List Value} {ls : Array Slot} (hl : ai_L ad nL L ls) (h : ai_oks n L) (ha : ∀ i, i < n → ad' i = ad i) (ho : ∀ k, k < 2 → ad' (ai_O + k) = ad (ai_O + k)) : ai_L ad' nL L ls := ⟨hl.1, hl.2.1, hl.2.2.1, fun i v hi hv => by rw [ai_cvs (h v (List.mem_of_getElem? hi)) ha ho]; exact hl.2.2.2 i v hi hv⟩
theorem ai_okv.mono {n n' : Nat} {v : Value} (h : ai_okv n v) (hn : n ≤ n') : ai_okv n' v := fun i hi => (h i hi).imp (fun z => Nat.lt_of_lt_of_le z hn) id
theorem ai_oks.mono {n n' : Nat} {st : List Value} (h : ai_oks n st) (hn : n ≤ n') : ai_oks n' st := fun v hv => (h v hv).mono hn
/-- the entry of a method that is called, in the heap as it is -/
theorem ai_I.call {sz : Nat} {oL : Nat → Nat} {ox : Nat → Nat → Int32} {ob : Nat → Nat} {D : va_G} {ad : Nat → Nat} {tc : Nat → ClassId} {w : ai_W} {s U : State} {H : Heap} {locs : List Loc} (h : ai_I sz oL ox ob D ad tc w s H) (hS : va_S (fun q => sz ≤ q) s.heap H locs) (hU : U.heap = H) (hW : s.WarmedH U.vm) : ai_I sz oL ox ob D ad tc w U U.heap := by
  obtain ⟨h1, h2, h3, h4, h5, h6, h7, h8⟩ := h
  refine ⟨by rw [hU]; exact Nat.le_trans h1 hS.1, h2.moved hW.alike, by rw [hU]; exact h3, h4, ⟨fun k hk => ?_, ?_⟩, ⟨h6.1.moved hW.alike, fun own idx z host hm => (h6.2 own idx z host hm).warmM hW⟩, h7, h8⟩
  · obtain ⟨a1, a2, a3⟩ := h5.1 k hk
    rw [hU]
    exact ⟨(a1.moved hW.alike).kept (hS.2.1 _ a2 a3), Nat.lt_of_lt_of_le a2 hS.1, a3⟩
  · rw [hU]
    exact (h5.2.moved hW.alike).kept (fun a ha hn => hS.2.1 a ha hn)
theorem ai_I.blind {sz : Nat} {oL : Nat → Nat} {ox : Nat → Nat → Int32} {ob : Nat → Nat} {D : va_G} {ad : Nat → Nat} {tc : Nat → ClassId} {w : ai_W} {U : State} {g : JFrame} {mk : MethodId} {a : Array Value} (h : ai_I sz oL ox ob D ad tc w U U.heap) : ai_I sz oL ox ob D ad tc w (U.calling g mk a) (U.calling g mk a).heap := by
  obtain ⟨h1, h2, h3, h4, h5, h6, h7, h8⟩ := h
  have hv : U.vm.Alike (U.calling g mk a).vm := Vm.Alike.refl U.vm
  refine ⟨h1, h2.moved hv, h3, h4, ⟨fun k hk => ⟨(h5.1 k hk).1.moved hv, (h5.1 k hk).2⟩, h5.2.moved hv⟩, ⟨h6.1.moved hv, fun own idx z host hm => (h6.2 own idx z host hm).same rfl rfl⟩, h7, h8⟩
/-- behind a call: what the method left, seen from the caller -/
theorem ai_I.back {sz : Nat} {oL : Nat → Nat} {ox : Nat → Nat → Int32} {ob : Nat → Nat} {D : va_G} {ad ad' : Nat → Nat} {tc tc' : Nat → ClassId} {w w' : ai_W} {s t : State} {H : Heap} (h : ai_I sz oL ox ob D ad tc w s H) (ht : ai_I sz oL ox ob D ad' tc' w' t t.heap) (hvm : s.vm.Alike t.vm) : ai_I sz oL ox ob D ad' tc' w' s t.heap :=
  ⟨h.1, ht.2.1.moved hvm.symm, ht.2.2.1, ht.2.2.2.1, h.2.2.2.2.1, h.2.2.2.2.2.1, ht.2.2.2.2.2.2.1, ht.2.2.2.2.2.2.2⟩
end
section
/-! the small machine's steps on the heap, on the big one -/
theorem ai_keep_ok {o : Option (List Value)} {w : ai_W} {q : List Value × ai_W} (h : ai_keep o w = some q) : o = some q.1 ∧ q.2 = w := by
  cases o with
  | none => cases h
  | some st => cases h; exact ⟨rfl, rfl⟩
theorem ai_get_ok {own : String} {idx : Nat} {st st' : List Value} {w : ai_W} (h : ai_get own idx st w = some st') : ∃ (i : Nat) (r : List Value) (q : Nat × Nat) (v : Value), st = .ref i :: r ∧ ai_fld own idx = some q ∧ i < w.1 ∧ (w.2.2.1 i).1 = q.1 + 3 ∧ st' = v :: r ∧ (∀ ad, ai_fv ad w q.1 i q.2 = ai_cv ad v) ∧ (ai_wf w → ai_okv w.1 v) := by
  unfold ai_get at h
  split at h
  · rename_i i r
    split at h
    · rename_i q hq
      split at h
      · rename_i hc
        split at h
        · rename_i ht
          cases h
          exact ⟨i, r, q, _, rfl, hq, hc.1, hc.2, rfl, fun ad => by simp [ai_fv, ht, ai_cv], fun _ => ai_okI⟩
        · rename_i ht
          split at h
          · rename_i ht2
            cases h
            exact ⟨i, r, q, _, rfl, hq, hc.1, hc.2, rfl, fun ad => by simp [ai_fv, ht2, ai_cv], fun _ => ai_okL⟩
          · rename_i ht2
            split at h
            · split at h
              · rename_i k hk
                cases h
                exact ⟨i, r, q, _, rfl, hq, hc.1, hc.2, rfl, fun ad => by simp [ai_fv, ht, ht2, hk, ai_cv, va_rf], fun hw j hj => by cases hj; exact Or.inl (hw.2 _ _ _ hc.1 hk)⟩
              · cases h
            · cases h
      · cases h
    · cases h
  · cases h
theorem ai_may_ok {y : MethodName} {ci k : Nat} {q : vw_C} (hq : ai_cl[ci]? = some q) (h : ai_may y ci k = true) : (q.2.1 k).2.2.2 = false ∨ (y.name = "<init>" ∧ (q.2.1 k).1 = y.cls) := by
  unfold ai_may at h
  rw [hq] at h
  exact of_decide_eq_true h
theorem ai_put_ok {y : MethodName} {idx : Nat} {st st' : List Value} {w w' : ai_W} (h : ai_put y idx st w = some (st', w')) : ∃ (i : Nat) (q : Nat × Nat) (v : Value), st = v :: .ref i :: st' ∧ ai_fld y.cls idx = some q ∧ i < w.1 ∧ (w.2.2.1 i).1 = q.1 + 3 ∧ ai_may y q.1 q.2 = true ∧ w'.1 = w.1 ∧ w'.2.1 = w.2.1 ∧ w'.2.2.1 = w.2.2.1 ∧ (∀ a, a ≠ i → w'.2.2.2.2.1 a = w.2.2.2.2.1 a ∧ w'.2.2.2.2.2 a = w.2.2.2.2.2 a ∧ w'.2.2.2.1 a = w.2.2.2.1 a) ∧ (∀ ad, ai_cv ad v = ai_fv ad w' q.1 i q.2) ∧ (∀ ad j, j ≠ q.2 → ai_fv ad w q.1 i j = ai_fv ad w' q.1 i j) ∧ narrow (ai_ty q.1 q.2) v = v ∧ (∀ ad, narrow (ai_ty q.1 q.2) (ai_cv ad v) = ai_cv ad v ∧ fits (ai_ty q.1 q.2) (ai_cv ad v) = true) ∧ (ai_wf w → ai_wf w') := by
  unfold ai_put at h
  split at h
  · rename_i x i r
    split at h
    · rename_i q hq
      split at h
      · rename_i hc
        obtain ⟨c1, c2, c3, c4⟩ := hc
        cases h
        refine ⟨i, q, .int x, rfl, hq, c1, c2, c3, rfl, rfl, rfl, fun a ha => ⟨by simp [ai_up, ha], rfl, rfl⟩, fun ad => by simp [ai_fv, c4, ai_cv, ai_up, upd], fun ad j hj => by simp [ai_fv, ai_up, upd, hj], by rw [c4]; rfl, fun ad => by rw [c4]; exact ⟨rfl, rfl⟩, fun hw => hw⟩
      · cases h
    · cases h
  · rename_i x i r
    split at h
    · rename_i q hq
      split at h
      · rename_i hc
        obtain ⟨c1, c2, c3, c4⟩ := hc
        cases h
        refine ⟨i, q, .long x, rfl, hq, c1, c2, c3, rfl, rfl, rfl, fun a ha => ⟨rfl, by simp [ai_upL, ha], rfl⟩, fun ad => by simp [ai_fv, c4, ai_cv, ai_upL, vp_updL], fun ad j hj => by simp [ai_fv, ai_upL, vp_updL, hj], by rw [c4]; rfl, fun ad => by rw [c4]; exact ⟨rfl, rfl⟩, fun hw => hw⟩
      · cases h
    · cases h
  · rename_i x i r
    split at h
    · rename_i q hq
      split at h
      · rename_i hc
        obtain ⟨c1, c0, c2, c3, c4⟩ := hc
        cases h
        have n1 : ai_ty q.1 q.2 ≠ .int := fun z => by rw [z] at c4; cases c4
        have n2 : ai_ty q.1 q.2 ≠ .long := fun z => by rw [z] at c4; cases c4
        have n3 : ∀ a, narrow (ai_ty q.1 q.2) (.ref a) = .ref a ∧ fits (ai_ty q.1 q.2) (.ref a) = true := fun a => by
          cases hty : ai_ty q.1 q.2 with
          | object C => exact ⟨rfl, rfl⟩
          | array C => exact ⟨rfl, rfl⟩
          | _ => rw [hty] at c4; cases c4
        refine ⟨i, q, .ref x, rfl, hq, c1, c2, c3, rfl, rfl, rfl, fun a ha => ⟨rfl, rfl, by simp [ai_upR, ha]⟩, fun ad => by simp [ai_fv, n1, n2, ai_cv, ai_upR, va_up, va_rf], fun ad j hj => by simp [ai_fv, ai_upR, va_up, hj], (n3 x).1, fun ad => n3 (ad x), fun hw => ⟨hw.1, fun a j k ha hk => ?_⟩⟩
        by_cases hai : a = i
        · subst hai
          by_cases hj : j = q.2
          · subst hj
            simp [ai_upR, va_up] at hk
            subst hk
            exact c0
          · simp [ai_upR, va_up, hj] at hk
            exact hw.2 _ _ _ ha hk
        · simp [ai_upR, hai] at hk
          exact hw.2 _ _ _ ha hk
      · cases h
    · cases h
  · cases h
section SIMM
variable {p : Program} {l : Launch} {e : Env} {R : Room} {s : State} {m : MethodId} {args : Array Value} {below : List Frame} {meth : Method} {c : Code} {H : Heap} {locs : List Loc} {cells slots : Nat} {Q : State → Prop}
variable {sz : Nat} {oL : Nat → Nat} {ox : Nat → Nat → Int32} {ob : Nat → Nat} {D : va_G} {ad : Nat → Nat} {tc : Nat → ClassId} {w w' : ai_W} {cc : ByteArray} {pc idx : Nat} {ls : Array Slot} {st st' : List Value} {y : MethodName}
theorem ai_get_W (hx : p.tables.exec = Jvm.exec) (hb : c.code = cc) (hown : s.vm.findClass y.cls = some m.cls) (hts : ∀ w ∈ ai_tb, w.before args s = true) (hI : ai_I sz oL ox ob D ad tc w s H) (hdg : decode cc pc = .ok (.getfield idx, 3)) (h : ai_get y.cls idx st w = some st')
    (k : W p l e R s m args below meth c H locs cells slots Q (F0 m (pc + 3) ls (st'.map (ai_cv ad)))) : W p l e R s m args below meth c H locs cells slots Q (F0 m pc ls (st.map (ai_cv ad))) := by
  obtain ⟨i, r, q, v, rfl, hq, hi, hk, rfl, hv, -⟩ := ai_get_ok h
  obtain ⟨cl, g1, g2, g3, g4⟩ := ai_fld_ok hq
  obtain ⟨C, T, N⟩ := cl
  obtain ⟨h1, h2, h3, h4, h5, h6, h7, h8⟩ := hI
  have hN : ai_N q.1 = N := by unfold ai_N; rw [g1]
  refine va_get (D := D) (ci := q.1) (v := ai_cv ad v) (fs := (List.range (ai_N q.1)).map (ai_fv ad w q.1 i)) (C := C) (T := T) (N := N) hx hb hts (ai_ClA g1).1 hown h2.1 h3 i ?_ g1 q.2 g2 (hts _ g4) (fun _ z => z) ?_ hdg k
  · rw [ai_cells_at hi, ai_en_o hk]
  · rw [hN, ai_range_at g2, hv ad]
theorem ai_put_W (hx : p.tables.exec = Jvm.exec) (hb : c.code = cc) (hown : s.vm.findClass y.cls = some m.cls) (hnm : meth.name = y.name) (hts : ∀ w ∈ ai_tb, w.before args s = true) (hI : ai_I sz oL ox ob D ad tc w s H) (hS : va_S (fun q => sz ≤ q) s.heap H locs) (hdg : decode cc pc = .ok (.putfield idx, 3)) (h : ai_put y idx st w = some (st', w'))
    (k : ∀ (H' : Heap) (locs' : List Loc), ai_I sz oL ox ob D ad tc w' s H' → va_S (fun q => sz ≤ q) s.heap H' locs' → W p l e R s m args below meth c H' locs' cells slots Q (F0 m (pc + 3) ls (st'.map (ai_cv ad)))) : W p l e R s m args below meth c H locs cells slots Q (F0 m pc ls (st.map (ai_cv ad))) := by
  obtain ⟨i, q, v, rfl, hq, hi, hk, hmay, e1, e2, e3, e4, e5, e6, -, e7, e8⟩ := ai_put_ok h
  obtain ⟨cl, g1, g2, g3, g4⟩ := ai_fld_ok hq
  have hmay := ai_may_ok g1 hmay
  obtain ⟨C, T, N⟩ := cl
  obtain ⟨h1, h2, h3, h4, h5, h6, h7, h8⟩ := hI
  have hN : ai_N q.1 = N := by unfold ai_N; rw [g1]
  obtain ⟨k1, k2, k3, k4⟩ := ai_ClA g1
  have he : (ai_cells ad tc w)[i]? = some (ad i, .inr (q.1, (List.range (ai_N q.1)).map (ai_fv ad w q.1 i))) := by rw [ai_cells_at hi, ai_en_o hk]
  have hset : (ai_cells ad tc w).set i (ad i, .inr (q.1, ((List.range (ai_N q.1)).map (ai_fv ad w q.1 i)).set q.2 (ai_cv ad v))) = ai_cells ad tc w' := by
    refine ai_cells_set e1 ?_ e3 e4
    rw [ai_en_o (by rw [e3]; exact hk)]
    rw [ai_range_set (e5 ad) (fun j _ hj => e6 ad j hj)]
  have kk : ∀ (H1 : Heap) (locs1 : List Loc), va_P D ai_cl ((ai_cells ad tc w).set i (ad i, .inr (q.1, ((List.range (ai_N q.1)).map (ai_fv ad w q.1 i)).set q.2 (ai_cv ad v)))) H1 → va_D (fun q => sz ≤ q) ((ai_cells ad tc w).set i (ad i, .inr (q.1, ((List.range (ai_N q.1)).map (ai_fv ad w q.1 i)).set q.2 (ai_cv ad v)))) → va_S (fun q => sz ≤ q) s.heap H1 locs1 → W p l e R s m args below meth c H1 locs1 cells slots Q (F0 m (pc + 3) ls (st'.map (ai_cv ad))) := by
    intro H1 locs1 p1 p2 p3
    rw [hset] at p1 p2
    exact k H1 locs1 ⟨h1, h2.same e1 e3, p1, p2, h5, h6, e8 h7, h8⟩ p3
  cases hf : (T q.2).2.2.2 with
  | false => exact va_put (D := D) (ci := q.1) (v := ai_cv ad v) (ty := ai_ty q.1 q.2) (C := C) (T := T) (N := N) hx hb hts k1 (ai_ty q.1) k2 k3 hown h2.1 h3 h4 hS i he g1 q.2 g2 (hts _ g4) (fun _ z => z) hf (k2 _ g2) (e7 ad).1 (e7 ad).2 (by rw [List.length_map, List.length_range, hN]; exact g2) hdg kk
  | true =>
    have hm : y.name = "<init>" ∧ (T q.2).1 = y.cls := by
      rcases hmay with hm | hm
      · exact absurd (hf.symm.trans hm) (by decide)
      · exact hm
    exact va_putF (D := D) (ci := q.1) (v := ai_cv ad v) (ty := ai_ty q.1 q.2) (C := C) (T := T) (N := N) hx hb hts k1 (ai_ty q.1) k2 k3 hown h2.1 h3 h4 hS i he g1 q.2 g2 (hts _ g4) (fun _ z => z) hf (by rw [hnm]; exact hm.1) hm.2 (k2 _ g2) (e7 ad).1 (e7 ad).2 (by rw [List.length_map, List.length_range, hN]; exact g2) hdg kk
-- arrays
theorem ai_ald_ok {k : Nat} (h : ai_ald k oL ox st w = some st') : ∃ (x : Int32) (i : Nat) (r : List Value) (v : Int32), st = .int x :: .ref i :: r ∧ st' = .int v :: r ∧ ((i < w.1 ∧ (w.2.2.1 i).1 = k ∧ vp_in x (w.2.2.1 i).2 ∧ v = w.2.2.2.2.1 i x.toNatClampNeg) ∨ (k = 0 ∧ ∃ j, j < 2 ∧ i = ai_O + j ∧ vp_in x (oL j) ∧ v = ox j x.toNatClampNeg)) := by
  unfold ai_ald at h
  split at h
  · rename_i x i r
    split at h
    · rename_i hi
      split at h
      · rename_i hc
        cases h
        exact ⟨x, i, r, _, rfl, rfl, Or.inl ⟨hi, hc.1, hc.2, rfl⟩⟩
      · cases h
    · split at h
      · rename_i hc
        cases h
        obtain ⟨c1, c2, c3, c4⟩ := hc
        exact ⟨x, i, r, _, rfl, rfl, Or.inr ⟨c1, i - ai_O, Nat.sub_lt_left_of_lt_add c2 c3, (Nat.add_sub_cancel' c2).symm, c4, rfl⟩⟩
      · cases h
  · cases h
theorem ai_iald_W (hx : p.tables.exec = Jvm.exec) (hb : c.code = cc) (hI : ai_I sz oL ox ob D ad tc w s H) (hS : va_S (fun q => sz ≤ q) s.heap H locs) (hdg : decode cc pc = .ok (.iaload, 1)) (h : ai_ald 0 oL ox st w = some st')
    (k : W p l e R s m args below meth c H locs cells slots Q (F0 m (pc + 1) ls (st'.map (ai_cv ad)))) : W p l e R s m args below meth c H locs cells slots Q (F0 m pc ls (st.map (ai_cv ad))) := by
  have hh := ai_ald_ok h
  clear h
  obtain ⟨x, i, r, v, rfl, rfl, h⟩ := hh
  obtain ⟨h1, h2, h3, h4, h5, h6, h7, h8⟩ := hI
  rcases h with ⟨hi, hk, hin, rfl⟩ | ⟨-, j, hj, rfl, hin, rfl⟩
  · refine va_iald hx hb (h2.K hi hk (by decide)) h3 i 0 (cA := tc i) (n := (w.2.2.1 i).2) (f := w.2.2.2.2.1 i) ?_ rfl hin hdg k
    rw [ai_cells_at hi, ai_en_i (by decide) hk]
  · obtain ⟨a1, a2, a3⟩ := h5.1 j hj
    have e : ai_cv ad (.ref (ai_O + j)) = .ref (ob j) := by simp only [ai_cv]; rw [h8 j hj]
    rw [List.map_cons, List.map_cons, e]
    obtain ⟨cell, b1, b2, b3, b4, b5, b6⟩ := a1
    have hlt : x.toNatClampNeg < oL j := Nat.not_le.mp fun q => hin (Or.inr q)
    exact W.iald (v := .int (ox j x.toNatClampNeg)) hx hb (by rw [hS.2.1 _ a2 a3]; exact b1) b2 b3 (fun q => hin (q.imp id (fun z => Nat.le_trans b4 z))) (b6 _ hlt) rfl rfl hdg k
theorem ai_zald_W (hx : p.tables.exec = Jvm.exec) (hb : c.code = cc) (hI : ai_I sz oL ox ob D ad tc w s H) (hdg : decode cc pc = .ok (.baload, 1)) (h : ai_ald 1 oL ox st w = some st')
    (k : W p l e R s m args below meth c H locs cells slots Q (F0 m (pc + 1) ls (st'.map (ai_cv ad)))) : W p l e R s m args below meth c H locs cells slots Q (F0 m pc ls (st.map (ai_cv ad))) := by
  have hh := ai_ald_ok h
  clear h
  obtain ⟨x, i, r, v, rfl, rfl, h⟩ := hh
  obtain ⟨h1, h2, h3, h4, h5, h6, h7, h8⟩ := hI
  rcases h with ⟨hi, hk, hin, rfl⟩ | ⟨h0, -⟩
  · refine va_zald hx hb (h2.K hi hk (by decide)) h3 i 0 (cA := tc i) (n := (w.2.2.1 i).2) (f := w.2.2.2.2.1 i) ?_ rfl hin hdg k
    rw [ai_cells_at hi, ai_en_i (by decide) hk]
  · cases h0
theorem ai_aldR_ok (h : ai_aldR st w = some st') : ∃ (x : Int32) (i : Nat) (r : List Value) (q : Nat), st = .int x :: .ref i :: r ∧ st' = .ref q :: r ∧ i < w.1 ∧ (w.2.2.1 i).1 = 2 ∧ vp_in x (w.2.2.1 i).2 ∧ w.2.2.2.1 i x.toNatClampNeg = some q := by
  unfold ai_aldR at h
  split at h
  · rename_i x i r
    split at h
    · rename_i hc
      split at h
      · rename_i q hq
        cases h
        exact ⟨x, i, r, q, rfl, rfl, hc.1, hc.2.1, hc.2.2, hq⟩
      · cases h
    · cases h
  · cases h
theorem ai_rald_W (hx : p.tables.exec = Jvm.exec) (hb : c.code = cc) (hI : ai_I sz oL ox ob D ad tc w s H) (hdg : decode cc pc = .ok (.aaload, 1)) (h : ai_aldR st w = some st')
    (k : W p l e R s m args below meth c H locs cells slots Q (F0 m (pc + 1) ls (st'.map (ai_cv ad)))) : W p l e R s m args below meth c H locs cells slots Q (F0 m pc ls (st.map (ai_cv ad))) := by
  obtain ⟨x, i, r, q, rfl, rfl, hi, hk, hin, hq⟩ := ai_aldR_ok h
  obtain ⟨h1, h2, h3, h4, h5, h6, h7, h8⟩ := hI
  refine va_aldq hx hb (h2.K hi hk (by decide)) h3 i 0 (cA := tc i) (C := RX2) (n := (w.2.2.1 i).2) (f := fun j => (w.2.2.2.1 i j).map ad) ?_ rfl hin hdg ?_
  · rw [ai_cells_at hi, ai_en_r hk]
  · rw [hq]
    exact k
theorem ai_ast_ok {k : Nat} {f : Int32 → Int32} (h : ai_ast k f st w = some (st', w')) : ∃ (v x : Int32) (i : Nat), st = .int v :: .int x :: .ref i :: st' ∧ i < w.1 ∧ (w.2.2.1 i).1 = k ∧ vp_in x (w.2.2.1 i).2 ∧ w' = (w.1, w.2.1, w.2.2.1, w.2.2.2.1, ai_up w.2.2.2.2.1 i x.toNatClampNeg (f v), w.2.2.2.2.2) := by
  unfold ai_ast at h
  split at h
  · rename_i v x i r
    split at h
    · rename_i hc
      cases h
      exact ⟨v, x, i, rfl, hc.1, hc.2.1, hc.2.2, rfl⟩
    · cases h
  · cases h
theorem ai_iast_W (hx : p.tables.exec = Jvm.exec) (hb : c.code = cc) (hI : ai_I sz oL ox ob D ad tc w s H) (hS : va_S (fun q => sz ≤ q) s.heap H locs) (hdg : decode cc pc = .ok (.iastore, 1)) (h : ai_ast 0 (fun x => x) st w = some (st', w'))
    (k : ∀ (H' : Heap) (locs' : List Loc), ai_I sz oL ox ob D ad tc w' s H' → va_S (fun q => sz ≤ q) s.heap H' locs' → W p l e R s m args below meth c H' locs' cells slots Q (F0 m (pc + 1) ls (st'.map (ai_cv ad)))) : W p l e R s m args below meth c H locs cells slots Q (F0 m pc ls (st.map (ai_cv ad))) := by
  obtain ⟨v, x, i, rfl, hi, hk, hin, rfl⟩ := ai_ast_ok h
  obtain ⟨h1, h2, h3, h4, h5, h6, h7, h8⟩ := hI
  refine va_iast hx hb (h2.K hi hk (by decide)) h3 h4 hS i 0 (cA := tc i) (n := (w.2.2.1 i).2) (f := w.2.2.2.2.1 i) ?_ rfl hin hdg (fun H1 locs1 p1 p2 p3 => ?_)
  · rw [ai_cells_at hi, ai_en_i (by decide) hk]
  · have hset : (ai_cells ad tc w).set i (ad i, .inl (tc i, (w.2.2.1 i).2, .inl (upd (w.2.2.2.2.1 i) x.toNatClampNeg v))) = ai_cells ad tc (w.1, w.2.1, w.2.2.1, w.2.2.2.1, ai_up w.2.2.2.2.1 i x.toNatClampNeg v, w.2.2.2.2.2) := ai_cells_set (w := w) rfl (by rw [ai_en_i (w := (w.1, w.2.1, w.2.2.1, w.2.2.2.1, ai_up w.2.2.2.2.1 i x.toNatClampNeg v, w.2.2.2.2.2)) (k := 0) (by decide) hk]; simp [ai_up]) rfl (fun a ha => ⟨by simp [ai_up, ha], rfl, rfl⟩)
    rw [hset] at p1 p2
    exact k H1 locs1 ⟨h1, h2.same rfl rfl, p1, p2, h5, h6, h7, h8⟩ p3
theorem ai_zast_W (hx : p.tables.exec = Jvm.exec) (hb : c.code = cc) (hI : ai_I sz oL ox ob D ad tc w s H) (hS : va_S (fun q => sz ≤ q) s.heap H locs) (hdg : decode cc pc = .ok (.bastore, 1)) (h : ai_ast 1 (fun x => vp_nar .boolean x) st w = some (st', w'))
    (k : ∀ (H' : Heap) (locs' : List Loc), ai_I sz oL ox ob D ad tc w' s H' → va_S (fun q => sz ≤ q) s.heap H' locs' → W p l e R s m args below meth c H' locs' cells slots Q (F0 m (pc + 1) ls (st'.map (ai_cv ad)))) : W p l e R s m args below meth c H locs cells slots Q (F0 m pc ls (st.map (ai_cv ad))) := by
  obtain ⟨v, x, i, rfl, hi, hk, hin, rfl⟩ := ai_ast_ok h
  obtain ⟨h1, h2, h3, h4, h5, h6, h7, h8⟩ := hI
  refine va_zast hx hb (h2.K hi hk (by decide)) h3 h4 hS i 0 (cA := tc i) (n := (w.2.2.1 i).2) (f := w.2.2.2.2.1 i) ?_ rfl hin hdg (fun H1 locs1 p1 p2 p3 => ?_)
  · rw [ai_cells_at hi, ai_en_i (by decide) hk]
  · have hset : (ai_cells ad tc w).set i (ad i, .inl (tc i, (w.2.2.1 i).2, .inl (upd (w.2.2.2.2.1 i) x.toNatClampNeg (vp_nar .boolean v)))) = ai_cells ad tc (w.1, w.2.1, w.2.2.1, w.2.2.2.1, ai_up w.2.2.2.2.1 i x.toNatClampNeg (vp_nar .boolean v), w.2.2.2.2.2) := ai_cells_set (w := w) rfl (by rw [ai_en_i (w := (w.1, w.2.1, w.2.2.1, w.2.2.2.1, ai_up w.2.2.2.2.1 i x.toNatClampNeg (vp_nar .boolean v), w.2.2.2.2.2)) (k := 1) (by decide) hk]; simp [ai_up]) rfl (fun a ha => ⟨by simp [ai_up, ha], rfl, rfl⟩)
    rw [hset] at p1 p2
    exact k H1 locs1 ⟨h1, h2.same rfl rfl, p1, p2, h5, h6, h7, h8⟩ p3
theorem ai_astR_ok (h : ai_astR st w = some (st', w')) : ∃ (v : Nat) (x : Int32) (i : Nat), st = .ref v :: .int x :: .ref i :: st' ∧ i < w.1 ∧ v < w.1 ∧ (w.2.2.1 v).1 = 5 ∧ (w.2.2.1 i).1 = 2 ∧ vp_in x (w.2.2.1 i).2 ∧ w' = (w.1, w.2.1, w.2.2.1, ai_upR w.2.2.2.1 i x.toNatClampNeg (some v), w.2.2.2.2.1, w.2.2.2.2.2) := by
  unfold ai_astR at h
  split at h
  · rename_i v x i r
    split at h
    · rename_i hc
      cases h
      exact ⟨v, x, i, rfl, hc.1, hc.2.1, hc.2.2.1, hc.2.2.2.1, hc.2.2.2.2, rfl⟩
    · cases h
  · cases h
theorem ai_wf_upR {i j v : Nat} (hw : ai_wf w) (hv : v < w.1) : ai_wf (w.1, w.2.1, w.2.2.1, ai_upR w.2.2.2.1 i j (some v), w.2.2.2.2.1, w.2.2.2.2.2) := by
  refine ⟨hw.1, fun a b k ha hk => ?_⟩
  by_cases hai : a = i
  · subst hai
    by_cases hj : b = j
    · subst hj
      simp [ai_upR, va_up] at hk
      subst hk
      exact hv
    · simp [ai_upR, va_up, hj] at hk
      exact hw.2 _ _ _ ha hk
  · simp [ai_upR, hai] at hk
    exact hw.2 _ _ _ ha hk
theorem ai_rast_W (hx : p.tables.exec = Jvm.exec) (hb : c.code = cc) (hI : ai_I sz oL ox ob D ad tc w s H) (hS : va_S (fun q => sz ≤ q) s.heap H locs) (hdg : decode cc pc = .ok (.aastore, 1)) (h : ai_astR st w = some (st', w'))
    (k : ∀ (H' : Heap) (locs' : List Loc), ai_I sz oL ox ob D ad tc w' s H' → va_S (fun q => sz ≤ q) s.heap H' locs' → W p l e R s m args below meth c H' locs' cells slots Q (F0 m (pc + 1) ls (st'.map (ai_cv ad)))) : W p l e R s m args below meth c H locs cells slots Q (F0 m pc ls (st.map (ai_cv ad))) := by
  obtain ⟨v, x, i, rfl, hi, hvn, hkv, hk, hin, rfl⟩ := ai_astR_ok h
  obtain ⟨h1, h2, h3, h4, h5, h6, h7, h8⟩ := hI
  refine va_astq hx hb (h2.K hi hk (by decide)) h3 h4 hS i 0 v 2 (cA := tc i) (r := (RX2, TX2, 7)) (vs := (List.range (ai_N 2)).map (ai_fv ad w 2 v)) (n := (w.2.2.1 i).2) (f := fun j => (w.2.2.2.1 i j).map ad) ?_ rfl ?_ rfl hin hdg (fun H1 locs1 p1 p2 p3 => ?_)
  · rw [ai_cells_at hi, ai_en_r hk]
  · rw [ai_cells_at hvn, ai_en_o hkv]
  · have hset : (ai_cells ad tc w).set i (ad i, .inl (tc i, (w.2.2.1 i).2, .inr (.inr (.inr (.inr (va_up (fun j => (w.2.2.2.1 i j).map ad) x.toNatClampNeg (some (ad v)))))))) = ai_cells ad tc (w.1, w.2.1, w.2.2.1, ai_upR w.2.2.2.1 i x.toNatClampNeg (some v), w.2.2.2.2.1, w.2.2.2.2.2) := ai_cells_set (w := w) rfl (by
      rw [ai_en_r (w := (w.1, w.2.1, w.2.2.1, ai_upR w.2.2.2.1 i x.toNatClampNeg (some v), w.2.2.2.2.1, w.2.2.2.2.2)) hk]
      have : (va_up (fun j => (w.2.2.2.1 i j).map ad) x.toNatClampNeg (some (ad v))) = fun j => (ai_upR w.2.2.2.1 i x.toNatClampNeg (some v) i j).map ad := by
        funext j
        by_cases hj : j = x.toNatClampNeg
        · simp [ai_upR, va_up, hj]
        · simp [ai_upR, va_up, hj]
      rw [this]) rfl (fun a ha => ⟨rfl, rfl, by simp [ai_upR, ha]⟩)
    rw [hset] at p1 p2
    exact k H1 locs1 ⟨h1, h2.same rfl rfl, p1, p2, h5, h6, ai_wf_upR h7 hvn, h8⟩ p3
end SIMM
end
section
/-! the small machine: new cells, copies; all its heap steps in one row -/
theorem ai_news_ok {own : String} {idx : Nat} {st st' : List Value} {w w' : ai_W} (h : ai_news own idx st w = some (st', w')) : ∃ (ci : Nat) (q : vw_C), ai_cls own idx = some ci ∧ ai_cl[ci]? = some q ∧ w.1 < 1000000 ∧ st' = .ref w.1 :: st ∧ w' = ai_mk w (ci + 3) q.2.2 := by
  unfold ai_news at h
  split at h
  · rename_i ci hci
    split at h
    · rename_i q hq
      split at h
      · rename_i hn
        cases h
        exact ⟨ci, q, hci, hq, hn, rfl, rfl⟩
      · cases h
    · cases h
  · cases h
theorem ai_newa_ok {k : Nat} {ty : FieldType} {st st' : List Value} {w w' : ai_W} (h : ai_newa k ty st w = some (st', w')) : ∃ (x : Int32) (r : List Value), st = .int x :: r ∧ ¬ x < 0 ∧ x.toNatClampNeg ≤ 1000 ∧ Cond.arrayClass ty ∈ ai_tb ∧ w.1 < 1000000 ∧ st' = .ref w.1 :: r ∧ w' = ai_mk w k x.toNatClampNeg := by
  unfold ai_newa at h
  split at h
  · rename_i x r
    split at h
    · rename_i hc
      cases h
      exact ⟨x, r, rfl, hc.1, hc.2.1, hc.2.2.1, hc.2.2.2, rfl, rfl⟩
    · cases h
  · cases h
theorem ai_newR_ok {own : String} {idx : Nat} {st st' : List Value} {w w' : ai_W} (h : ai_newR own idx st w = some (st', w')) : ∃ (x : Int32) (r : List Value), st = .int x :: r ∧ ¬ x < 0 ∧ x.toNatClampNeg ≤ 1000 ∧ ai_clk own idx = some RX2 ∧ w.1 < 1000000 ∧ st' = .ref w.1 :: r ∧ w' = ai_mk w 2 x.toNatClampNeg := by
  unfold ai_newR at h
  split at h
  · rename_i x r
    split at h
    · rename_i hc
      cases h
      exact ⟨x, r, rfl, hc.1, hc.2.1, hc.2.2.1, hc.2.2.2, rfl, rfl⟩
    · cases h
  · cases h
theorem ai_wf_mk {w : ai_W} {k sl : Nat} (hw : ai_wf w) (hn : w.1 < 1000000) : ai_wf (ai_mk w k sl) := by
  refine ⟨hn, fun i j q hi hq => ?_⟩
  have hi' : i < w.1 + 1 := hi
  by_cases he : i = w.1
  · subst he
    simp [ai_mk, va_up] at hq
  · simp [ai_mk, va_up, he] at hq
    exact Nat.lt_succ_of_lt (hw.2 i j q (by omega) hq)
theorem ai_ty_def {c k : Nat} (h : ai_ty c k = .int ∨ ai_ty c k = .long ∨ ai_isRef (ai_ty c k) = true) : defaultValue (ai_ty c k) = if ai_ty c k = .int then .int 0 else if ai_ty c k = .long then .long 0 else .null := by
  rcases h with h | h | h
  · rw [h]; rfl
  · rw [h]; rfl
  · cases hty : ai_ty c k with
    | object C => rfl
    | array C => rfl
    | _ => rw [hty] at h; cases h
section SIMN
variable {p : Program} {l : Launch} {e : Env} {R : Room} {s : State} {m : MethodId} {args : Array Value} {below : List Frame} {meth : Method} {c : Code} {H : Heap} {locs : List Loc} {cells slots : Nat} {Q : State → Prop}
variable {sz : Nat} {oL : Nat → Nat} {ox : Nat → Nat → Int32} {ob : Nat → Nat} {D : va_G} {ad : Nat → Nat} {tc : Nat → ClassId} {w w' : ai_W} {cc : ByteArray} {pc idx : Nat} {ls : Array Slot} {st st' : List Value} {y : MethodName}
theorem ai_upO {q : Nat} (hn : w.1 < 1000000) (h8 : ∀ k, k < 2 → ad (ai_O + k) = ob k) : ∀ k, k < 2 → va_up ad w.1 q (ai_O + k) = ob k := by
  intro k hk
  have : ai_O + k ≠ w.1 := by
    have : ai_O = 1000000000 := rfl
    omega
  simp only [va_up, if_neg this]
  exact h8 k hk
theorem ai_new_st {q : Nat} {r : List Value} (hn : w.1 < 1000000) (hs : ai_oks w.1 r) (h8 : ∀ k, k < 2 → ad (ai_O + k) = ob k) : (Value.ref w.1 :: r).map (ai_cv (va_up ad w.1 q)) = .ref q :: r.map (ai_cv ad) := by
  rw [List.map_cons, ai_cvm (ad := ad) (ad' := va_up ad w.1 q) hs (fun i hi => by simp [va_up, Nat.ne_of_lt hi]) (fun k hk => by rw [ai_upO hn h8 k hk, h8 k hk])]
  simp [ai_cv, va_up]
theorem ai_news_W (hx : p.tables.exec = Jvm.exec) (hb : c.code = cc) (hown : s.vm.findClass y.cls = some m.cls) (hts : ∀ w ∈ ai_tb, w.before args s = true) (hI : ai_I sz oL ox ob D ad tc w s H) (hS : va_S (fun q => sz ≤ q) s.heap H locs) (hs : ai_oks w.1 st) (hdg : decode cc pc = .ok (.new idx, 3)) (h : ai_news y.cls idx st w = some (st', w')) (hc1 : cells + (w'.1 - w.1) ≤ R.cells) (hc2 : slots + (w'.2.1 - w.2.1) ≤ R.slots)
    (k : ∀ (H' : Heap) (locs' : List Loc) (ad' : Nat → Nat) (tc' : Nat → ClassId), (∀ i, i < w.1 → ad' i = ad i) → ai_I sz oL ox ob D ad' tc' w' s H' → va_S (fun q => sz ≤ q) s.heap H' locs' → W p l e R s m args below meth c H' locs' (cells + (w'.1 - w.1)) (slots + (w'.2.1 - w.2.1)) Q (F0 m (pc + 3) ls (st'.map (ai_cv ad')))) : W p l e R s m args below meth c H locs cells slots Q (F0 m pc ls (st.map (ai_cv ad))) := by
  obtain ⟨ci, q, hci, hq, hn, rfl, rfl⟩ := ai_news_ok h
  obtain ⟨q', g1, g2, g3, g4⟩ := ai_cls_ok hci
  have : q' = q := Option.some.inj (g1.symm.trans hq)
  subst this
  obtain ⟨k1, k2, k3, k4⟩ := ai_ClA hq
  obtain ⟨C, T, N⟩ := q'
  obtain ⟨h1, h2, h3, h4, h5, h6, h7, h8⟩ := hI
  have hN : ai_N ci = N := by unfold ai_N; rw [hq]
  have ec : (ai_mk w (ci + 3) N).1 - w.1 = 1 := by show w.1 + 1 - w.1 = 1; omega
  have es : (ai_mk w (ci + 3) N).2.1 - w.2.1 = N := by show w.2.1 + N - w.2.1 = N; omega
  simp only [ec, es] at hc1 hc2 k
  refine va_new (ci := ci) (fs := (List.range N).map (fun j => if ai_ty ci j = .int then Value.int 0 else if ai_ty ci j = .long then .long 0 else .null)) (C := C) (T := T) (N := N) hx hb hts k1 (ai_ty ci) k2 hown (hts _ g2) (hts _ g3) (hts _ g4) h2.1 h3 h4 hS (fun q hq => Nat.le_trans h1 hq) hq (fun j hj => ?_) hc1 hc2 hdg (fun q H1 p1 p2 p3 => ?_)
  · rw [ai_ty_def (k4 j hj)]
    unfold vp_V
    rw [List.getD_eq_getElem?_getD, ai_range_at hj]
    rfl
  · have hcell : ai_cells ad tc w ++ [(q, .inr (ci, (List.range N).map (fun j => if ai_ty ci j = .int then Value.int 0 else if ai_ty ci j = .long then .long 0 else .null)))] = ai_cells (va_up ad w.1 q) tc (ai_mk w (ci + 3) N) := by
      refine ai_cells_new h7 (fun _ _ => rfl) ?_
      rw [ai_en_o (c := ci) (by simp [ai_mk, va_up]), hN]
      congr 2
      refine List.map_congr_left (fun j _ => ?_)
      simp [ai_fv, ai_mk, va_up, va_rf]
    rw [hcell] at p1 p2
    have := k H1 _ (va_up ad w.1 q) tc (fun i hi => by simp [va_up, Nat.ne_of_lt hi]) ⟨h1, ⟨h2.1, fun i hi h3 => ?_⟩, p1, p2, h5, h6, ai_wf_mk h7 hn, ai_upO hn h8⟩ p3
    · rw [ai_new_st hn hs h8] at this
      exact this
    · have hi' : i < w.1 + 1 := hi
      by_cases he : i = w.1
      · subst he
        simp [ai_mk, va_up] at h3
        exact absurd h3 (by omega)
      · have e : (ai_mk w (ci + 3) N).2.2.1 i = w.2.2.1 i := by simp [ai_mk, va_up, he]
        rw [e] at h3 ⊢
        exact h2.2 i (by omega) h3
theorem ai_newa_W {kd : Nat} {ty : FieldType} {at0 : ArrayType} (hkd : kd < 2) (hty : ai_kt kd = ty) (hat : newarray.typeOf at0 = ty) (hcm : componentBytes ty ≤ 8) (hdf : defaultValue ty = .int 0) (hx : p.tables.exec = Jvm.exec) (hb : c.code = cc) (hts : ∀ w ∈ ai_tb, w.before args s = true) (hI : ai_I sz oL ox ob D ad tc w s H) (hS : va_S (fun q => sz ≤ q) s.heap H locs) (hs : ai_oks w.1 st) (hdg : decode cc pc = .ok (.newarray at0, 2)) (h : ai_newa kd ty st w = some (st', w')) (hc1 : cells + (w'.1 - w.1) ≤ R.cells) (hc2 : slots + (w'.2.1 - w.2.1) ≤ R.slots)
    (k : ∀ (H' : Heap) (locs' : List Loc) (ad' : Nat → Nat) (tc' : Nat → ClassId), (∀ i, i < w.1 → ad' i = ad i) → ai_I sz oL ox ob D ad' tc' w' s H' → va_S (fun q => sz ≤ q) s.heap H' locs' → W p l e R s m args below meth c H' locs' (cells + (w'.1 - w.1)) (slots + (w'.2.1 - w.2.1)) Q (F0 m (pc + 2) ls (st'.map (ai_cv ad')))) : W p l e R s m args below meth c H locs cells slots Q (F0 m pc ls (st.map (ai_cv ad))) := by
  obtain ⟨x, r, rfl, hx0, hx1, harr, hn, rfl, rfl⟩ := ai_newa_ok h
  obtain ⟨h1, h2, h3, h4, h5, h6, h7, h8⟩ := hI
  have ec : (ai_mk w kd x.toNatClampNeg).1 - w.1 = 1 := by show w.1 + 1 - w.1 = 1; omega
  have es : (ai_mk w kd x.toNatClampNeg).2.1 - w.2.1 = x.toNatClampNeg := by show w.2.1 + _ - w.2.1 = _; omega
  simp only [ec, es] at hc1 hc2 k
  refine va_newa (N' := x.toNatClampNeg) (a0 := (x.toNatClampNeg, .inl (fun _ => 0))) hx hb (by rw [hat]; exact hts _ harr) hat h2.1 h3 h4 hS (fun q hq => Nat.le_trans h1 hq) (fun cA => by rw [vp_cell_i, hdf]) hx0 rfl ?_ hc1 hc2 hdg (fun q cA H1 p0 p1 p2 p3 => ?_)
  · exact Nat.le_trans (Nat.mul_le_mul hx1 hcm) (by decide)
  · have hcell : ai_cells ad tc w ++ [(q, .inl (cA, x.toNatClampNeg, .inl (fun _ => 0)))] = ai_cells (va_up ad w.1 q) (va_up tc w.1 cA) (ai_mk w kd x.toNatClampNeg) := by
      refine ai_cells_new h7 (fun i hi => by simp [va_up, Nat.ne_of_lt hi]) ?_
      rw [ai_en_i (k := kd) hkd (by simp [ai_mk, va_up])]
      simp [ai_mk, va_up]
    rw [hcell] at p1 p2
    have := k H1 _ (va_up ad w.1 q) (va_up tc w.1 cA) (fun i hi => by simp [va_up, Nat.ne_of_lt hi]) ⟨h1, ⟨h2.1, fun i hi h3 => ?_⟩, p1, p2, h5, h6, ai_wf_mk h7 hn, ai_upO hn h8⟩ p3
    · rw [ai_new_st hn (ai_oks_t hs) h8] at this
      exact this
    · have hi' : i < w.1 + 1 := hi
      by_cases he : i = w.1
      · subst he
        have e : (ai_mk w kd x.toNatClampNeg).2.2.1 w.1 = (kd, x.toNatClampNeg) := by simp [ai_mk, va_up]
        rw [e]
        have := p0.2 0 (cA, ty) (by simp)
        simp only [va_up, if_pos, hty]
        exact this
      · have e : (ai_mk w kd x.toNatClampNeg).2.2.1 i = w.2.2.1 i := by simp [ai_mk, va_up, he]
        rw [e] at h3 ⊢
        simp only [va_up, if_neg he]
        exact h2.2 i (by omega) h3
theorem ai_newR_W (hx : p.tables.exec = Jvm.exec) (hb : c.code = cc) (hown : s.vm.findClass y.cls = some m.cls) (hts : ∀ w ∈ ai_tb, w.before args s = true) (hI : ai_I sz oL ox ob D ad tc w s H) (hS : va_S (fun q => sz ≤ q) s.heap H locs) (hs : ai_oks w.1 st) (hdg : decode cc pc = .ok (.anewarray idx, 3)) (h : ai_newR y.cls idx st w = some (st', w')) (hc1 : cells + (w'.1 - w.1) ≤ R.cells) (hc2 : slots + (w'.2.1 - w.2.1) ≤ R.slots)
    (k : ∀ (H' : Heap) (locs' : List Loc) (ad' : Nat → Nat) (tc' : Nat → ClassId), (∀ i, i < w.1 → ad' i = ad i) → ai_I sz oL ox ob D ad' tc' w' s H' → va_S (fun q => sz ≤ q) s.heap H' locs' → W p l e R s m args below meth c H' locs' (cells + (w'.1 - w.1)) (slots + (w'.2.1 - w.2.1)) Q (F0 m (pc + 3) ls (st'.map (ai_cv ad')))) : W p l e R s m args below meth c H locs cells slots Q (F0 m pc ls (st.map (ai_cv ad))) := by
  obtain ⟨x, r, rfl, hx0, hx1, hcl, hn, rfl, rfl⟩ := ai_newR_ok h
  obtain ⟨h1, h2, h3, h4, h5, h6, h7, h8⟩ := hI
  have ec : (ai_mk w 2 x.toNatClampNeg).1 - w.1 = 1 := by show w.1 + 1 - w.1 = 1; omega
  have es : (ai_mk w 2 x.toNatClampNeg).2.1 - w.2.1 = x.toNatClampNeg := by show w.2.1 + _ - w.2.1 = _; omega
  simp only [ec, es] at hc1 hc2 k
  refine va_newq (N' := x.toNatClampNeg) hx hb hown (hts _ (ai_clk_mem hcl)) h6.1 h2.1 h3 h4 hS (fun q hq => Nat.le_trans h1 hq) hx0 rfl (by omega) hc1 hc2 hdg (fun q cA H1 p0 p1 p2 p3 => ?_)
  have hcell : ai_cells ad tc w ++ [(q, .inl (cA, x.toNatClampNeg, .inr (.inr (.inr (.inr (fun _ => none))))))] = ai_cells (va_up ad w.1 q) (va_up tc w.1 cA) (ai_mk w 2 x.toNatClampNeg) := by
    refine ai_cells_new h7 (fun i hi => by simp [va_up, Nat.ne_of_lt hi]) ?_
    rw [ai_en_r (by simp [ai_mk, va_up])]
    simp [ai_mk, va_up]
  rw [hcell] at p1 p2
  have := k H1 _ (va_up ad w.1 q) (va_up tc w.1 cA) (fun i hi => by simp [va_up, Nat.ne_of_lt hi]) ⟨h1, ⟨h2.1, fun i hi h3 => ?_⟩, p1, p2, h5, h6, ai_wf_mk h7 hn, ai_upO hn h8⟩ p3
  · rw [ai_new_st hn (ai_oks_t hs) h8] at this
    exact this
  · have hi' : i < w.1 + 1 := hi
    by_cases he : i = w.1
    · subst he
      have e : (ai_mk w 2 x.toNatClampNeg).2.2.1 w.1 = (2, x.toNatClampNeg) := by simp [ai_mk, va_up]
      rw [e]
      have := p0.2 0 (cA, .object RX2) (by simp)
      simp only [va_up, if_pos]
      exact this
    · have e : (ai_mk w 2 x.toNatClampNeg).2.2.1 i = w.2.2.1 i := by simp [ai_mk, va_up, he]
      rw [e] at h3 ⊢
      simp only [va_up, if_neg he]
      exact h2.2 i (by omega) h3
theorem ai_cpy_ok (h : ai_cpy st w = some (st', w')) : ∃ (n dp sp : Int32) (a b : Nat), st = .int n :: .int dp :: .ref b :: .int sp :: .ref a :: st' ∧ a < w.1 ∧ b < w.1 ∧ (w.2.2.1 a).1 = 0 ∧ (w.2.2.1 b).1 = 0 ∧ ¬ sp < 0 ∧ ¬ dp < 0 ∧ ¬ n < 0 ∧ sp.toNatClampNeg + n.toNatClampNeg ≤ (w.2.2.1 a).2 ∧ dp.toNatClampNeg + n.toNatClampNeg ≤ (w.2.2.1 b).2 ∧ (st'.map fun v => v.category).sum ≤ 8 ∧ w' = (w.1, w.2.1, w.2.2.1, w.2.2.2.1, va_up w.2.2.2.2.1 b (va_cpy (w.2.2.2.2.1 a) (w.2.2.2.2.1 b) sp.toNatClampNeg dp.toNatClampNeg n.toNatClampNeg), w.2.2.2.2.2) := by
  unfold ai_cpy at h
  split at h
  · rename_i n dp b sp a r
    split at h
    · rename_i hc
      obtain ⟨c1, c2, c3, c4, c5, c6, c7, c8, c9, c10⟩ := hc
      cases h
      exact ⟨n, dp, sp, a, b, rfl, c1, c2, c3, c4, c5, c6, c7, c8, c9, c10, rfl⟩
    · cases h
  · cases h
theorem ai_sum {r : List Value} (h : (r.map fun v => v.category).sum ≤ 8) : ((r.map (ai_cv ad)).map fun v => v.category).sum ≤ 8 := by
  rw [List.map_map]
  have : ((fun v : Value => v.category) ∘ ai_cv ad) = fun v => v.category := by
    funext v
    exact ai_cat ad v
  rw [this]
  exact h
theorem ai_cpy_W {d nL : Nat} (hd0 : 0 < d) (hd : d ≤ R.frames) (hdl : 40 * d ≤ R.locals) (hml : c.maxLocals = ls.size) (hx : p.tables.exec = Jvm.exec) (hb : c.code = cc) (hown : s.vm.findClass y.cls = some m.cls) (hts : ∀ w ∈ ai_tb, w.before args s = true) (hl : ai_mlk y.cls idx = some arraycopyName) (hn1 : Cond.native arraycopyName ∈ ai_tb) (hn2 : Cond.static arraycopyName ∈ ai_tb) (hn3 : Cond.initialized "java/lang/System" ∈ ai_tb) (hI : ai_I sz oL ox ob D ad tc w s H) (hS : va_S (fun q => sz ≤ q) s.heap H locs) (hdg : decode cc pc = .ok (.invokestatic idx, 3)) (h : ai_cpy st w = some (st', w'))
    (k : ∀ (H' : Heap) (locs' : List Loc), ai_I sz oL ox ob D ad tc w' s H' → va_S (fun q => sz ≤ q) s.heap H' locs' → W p l e R s m args below meth c H' locs' cells slots Q (F0 m (pc + 3) ls (st'.map (ai_cv ad)))) : W p l e R s m args below meth c H locs cells slots Q (F0 m pc ls (st.map (ai_cv ad))) := by
  obtain ⟨n, dp, sp, a, b, rfl, c1, c2, c3, c4, c5, c6, c7, c8, c9, c10, rfl⟩ := ai_cpy_ok h
  obtain ⟨h1, h2, h3, h4, h5, h6, h7, h8⟩ := hI
  have hK2 : va_K D ai_cl [(tc a, .int), (tc b, .int)] s := (h2.K c1 c3 (by decide)).app (h2.K c2 c4 (by decide))
  have hsum := ai_sum (ad := ad) c10
  refine va_copyi (ty := .int) hx hb hml hown (hts _ (ai_mlk_mem hl)) (hts _ hn1) (hts _ hn2) (hts _ hn3) hK2 h3 h4 hS a b 0 1 (c0 := tc a) (c1 := tc b) (n0 := (w.2.2.1 a).2) (n1 := (w.2.2.1 b).2) (f := w.2.2.2.2.1 a) (g := w.2.2.2.2.1 b) ?_ ?_ rfl rfl rfl c5 c6 c7 c8 c9 (fun _ _ => rfl) (by omega) ?_ hdg (fun H1 locs1 p1 p2 p3 => ?_)
  · rw [ai_cells_at c1, ai_en_i (by decide) c3]
  · rw [ai_cells_at c2, ai_en_i (by decide) c4]
  · have e : nativeFrameWords "java/lang/System" "arraycopy" 5 = 7 := by decide
    rw [e]
    omega
  · have hset : (ai_cells ad tc w).set b (ad b, .inl (tc b, (w.2.2.1 b).2, .inl (va_cpy (w.2.2.2.2.1 a) (w.2.2.2.2.1 b) sp.toNatClampNeg dp.toNatClampNeg n.toNatClampNeg))) = ai_cells ad tc (w.1, w.2.1, w.2.2.1, w.2.2.2.1, va_up w.2.2.2.2.1 b (va_cpy (w.2.2.2.2.1 a) (w.2.2.2.2.1 b) sp.toNatClampNeg dp.toNatClampNeg n.toNatClampNeg), w.2.2.2.2.2) := ai_cells_set (w := w) rfl (by rw [ai_en_i (w := (w.1, w.2.1, w.2.2.1, w.2.2.2.1, va_up w.2.2.2.2.1 b (va_cpy (w.2.2.2.2.1 a) (w.2.2.2.2.1 b) sp.toNatClampNeg dp.toNatClampNeg n.toNatClampNeg), w.2.2.2.2.2)) (k := 0) (by decide) c4]; simp [va_up]) rfl (fun a ha => ⟨by simp [va_up, ha], rfl, rfl⟩)
    rw [hset] at p1 p2
    exact k H1 locs1 ⟨h1, h2.same rfl rfl, p1, p2, h5, h6, h7, h8⟩ p3
end SIMN
end
section
theorem ai_m2_ok {f : Int32 → Int32 → Int32} {st st' : List Value} {w w' : ai_W} (h : ai_m2 f st w = some (st', w')) : ∃ x y r, st = .int y :: .int x :: r ∧ st' = .int (f x y) :: r ∧ w' = w ∧ (r.map fun v => v.category).sum ≤ 8 := by
  unfold ai_m2 at h
  split at h
  · split at h
    · cases h; exact ⟨_, _, _, rfl, rfl, rfl, by assumption⟩
    · cases h
  · cases h
theorem ai_m1_ok {f : Int32 → Int32} {st st' : List Value} {w w' : ai_W} (h : ai_m1 f st w = some (st', w')) : ∃ x r, st = .int x :: r ∧ st' = .int (f x) :: r ∧ w' = w ∧ (r.map fun v => v.category).sum ≤ 8 := by
  unfold ai_m1 at h
  split at h
  · split at h
    · cases h; exact ⟨_, _, rfl, rfl, rfl, by assumption⟩
    · cases h
  · cases h
theorem ai_mth_ok {own : String} {idx len d : Nat} {st st' : List Value} {w w' : ai_W} (h : ai_mth own idx len d st w = some (st', w')) : len = 3 ∧ 0 < d ∧ Cond.initialized "java/lang/Math" ∈ ai_tb ∧
    ((ai_mlk own idx = some Lib.Math.max.name ∧ Cond.static Lib.Math.max.name ∈ ai_tb ∧ Cond.code Lib.Math.max.name Lib.Math.max.code 2 (some .int) ∈ ai_tb ∧ ai_m2 (fun x y => if x < y then y else x) st w = some (st', w'))
    ∨ (ai_mlk own idx = some Lib.Math.min.name ∧ Cond.static Lib.Math.min.name ∈ ai_tb ∧ Cond.code Lib.Math.min.name Lib.Math.min.code 2 (some .int) ∈ ai_tb ∧ ai_m2 (fun x y => if y < x then y else x) st w = some (st', w'))
    ∨ (ai_mlk own idx = some Lib.Math.abs.name ∧ Cond.static Lib.Math.abs.name ∈ ai_tb ∧ Cond.code Lib.Math.abs.name Lib.Math.abs.code 1 (some .int) ∈ ai_tb ∧ ai_m1 (fun x => if 0 ≤ x then x else 0 - x) st w = some (st', w'))) := by
  unfold ai_mth at h
  split at h
  · cases h
  · split at h
    · rename_i h0
      refine ⟨h0.1, h0.2.1, h0.2.2, ?_⟩
      split at h
      · rename_i h1; exact Or.inl ⟨h1.1, h1.2.1, h1.2.2, h⟩
      · split at h
        · rename_i h1; exact Or.inr (Or.inl ⟨h1.1, h1.2.1, h1.2.2, h⟩)
        · split at h
          · rename_i h1; exact Or.inr (Or.inr ⟨h1.1, h1.2.1, h1.2.2, h⟩)
          · cases h
    · cases h
theorem ai_mth_w {own : String} {idx len d : Nat} {st st' : List Value} {w w' : ai_W} (h : ai_mth own idx len d st w = some (st', w')) : w' = w ∧ ∀ n, ai_oks n st → ai_oks n st' := by
  obtain ⟨-, -, -, h | h | h⟩ := ai_mth_ok h
  · obtain ⟨-, -, -, h⟩ := h
    obtain ⟨x, y, r, rfl, rfl, rfl, -⟩ := ai_m2_ok h
    exact ⟨rfl, fun n hs => ai_oks_c ai_okI (ai_oks_t (ai_oks_t hs))⟩
  · obtain ⟨-, -, -, h⟩ := h
    obtain ⟨x, y, r, rfl, rfl, rfl, -⟩ := ai_m2_ok h
    exact ⟨rfl, fun n hs => ai_oks_c ai_okI (ai_oks_t (ai_oks_t hs))⟩
  · obtain ⟨-, -, -, h⟩ := h
    obtain ⟨x, r, rfl, rfl, rfl, -⟩ := ai_m1_ok h
    exact ⟨rfl, fun n hs => ai_oks_c ai_okI (ai_oks_t hs)⟩
theorem ai_M_ok {oL : Nat → Nat} {ox : Nat → Nat → Int32} {y : MethodName} {ins : Instr} {len d : Nat} {st st' : List Value} {w w' : ai_W} (h : ai_M oL ox y ins len d st w = some (st', w')) : w.1 ≤ w'.1 ∧ w.2.1 ≤ w'.2.1 ∧ (ai_wf w → ai_oks w.1 st → ai_oks w'.1 st') := by
  unfold ai_M at h
  split at h
  · split at h
    · obtain ⟨h1, h2⟩ := ai_keep_ok h
      cases h2
      obtain ⟨i, r, q, v, rfl, -, -, -, h3, -, h4⟩ := ai_get_ok h1
      cases h3
      exact ⟨Nat.le_refl _, Nat.le_refl _, fun hw hs => ai_oks_c (h4 hw) (ai_oks_t hs)⟩
    · cases h
  · split at h
    · obtain ⟨i, q, v, rfl, hq, hi, hk, hmay, e1, e2, e3, -⟩ := ai_put_ok h
      exact ⟨by omega, by omega, fun hw hs => by rw [e1]; exact ai_oks_t (ai_oks_t hs)⟩
    · cases h
  · split at h
    · obtain ⟨h1, h2⟩ := ai_keep_ok h
      cases h2
      obtain ⟨x, i, r, v, rfl, h3, -⟩ := ai_ald_ok h1
      cases h3
      exact ⟨Nat.le_refl _, Nat.le_refl _, fun hw hs => ai_oks_c ai_okI (ai_oks_t (ai_oks_t hs))⟩
    · cases h
  · split at h
    · obtain ⟨h1, h2⟩ := ai_keep_ok h
      cases h2
      obtain ⟨x, i, r, v, rfl, h3, -⟩ := ai_ald_ok h1
      cases h3
      exact ⟨Nat.le_refl _, Nat.le_refl _, fun hw hs => ai_oks_c ai_okI (ai_oks_t (ai_oks_t hs))⟩
    · cases h
  · split at h
    · obtain ⟨h1, h2⟩ := ai_keep_ok h
      cases h2
      obtain ⟨x, i, r, q, rfl, h3, hi, -, -, hq⟩ := ai_aldR_ok h1
      cases h3
      exact ⟨Nat.le_refl _, Nat.le_refl _, fun hw hs => ai_oks_c (fun j hj => by cases hj; exact Or.inl (hw.2 _ _ _ hi hq)) (ai_oks_t (ai_oks_t hs))⟩
    · cases h
  · split at h
    · obtain ⟨v, x, i, rfl, -, -, -, rfl⟩ := ai_ast_ok h
      exact ⟨Nat.le_refl _, Nat.le_refl _, fun hw hs => ai_oks_t (ai_oks_t (ai_oks_t hs))⟩
    · cases h
  · split at h
    · obtain ⟨v, x, i, rfl, -, -, -, rfl⟩ := ai_ast_ok h
      exact ⟨Nat.le_refl _, Nat.le_refl _, fun hw hs => ai_oks_t (ai_oks_t (ai_oks_t hs))⟩
    · cases h
  · split at h
    · obtain ⟨v, x, i, rfl, -, -, -, -, -, rfl⟩ := ai_astR_ok h
      exact ⟨Nat.le_refl _, Nat.le_refl _, fun hw hs => ai_oks_t (ai_oks_t (ai_oks_t hs))⟩
    · cases h
  · split at h
    · obtain ⟨ci, q, -, -, -, rfl, rfl⟩ := ai_news_ok h
      exact ⟨Nat.le_succ _, Nat.le_add_right _ _, fun hw hs => ai_oks_c (fun j hj => by cases hj; exact Or.inl (Nat.lt_succ_self _)) (hs.mono (Nat.le_succ _))⟩
    · cases h
  · split at h
    · split at h
      · obtain ⟨x, r, rfl, -, -, -, -, rfl, rfl⟩ := ai_newa_ok h
        exact ⟨Nat.le_succ _, Nat.le_add_right _ _, fun hw hs => ai_oks_c (fun j hj => by cases hj; exact Or.inl (Nat.lt_succ_self _)) ((ai_oks_t hs).mono (Nat.le_succ _))⟩
      · obtain ⟨x, r, rfl, -, -, -, -, rfl, rfl⟩ := ai_newa_ok h
        exact ⟨Nat.le_succ _, Nat.le_add_right _ _, fun hw hs => ai_oks_c (fun j hj => by cases hj; exact Or.inl (Nat.lt_succ_self _)) ((ai_oks_t hs).mono (Nat.le_succ _))⟩
      · cases h
    · cases h
  · split at h
    · obtain ⟨x, r, rfl, -, -, -, -, rfl, rfl⟩ := ai_newR_ok h
      exact ⟨Nat.le_succ _, Nat.le_add_right _ _, fun hw hs => ai_oks_c (fun j hj => by cases hj; exact Or.inl (Nat.lt_succ_self _)) ((ai_oks_t hs).mono (Nat.le_succ _))⟩
    · cases h
  · split at h
    · split at h
      · split at h
        · cases h
          exact ⟨Nat.le_refl _, Nat.le_refl _, fun hw hs => ai_oks_c ai_okI (ai_oks_t hs)⟩
        · cases h
      · cases h
    · cases h
  · split at h
    · cases h
      exact ⟨Nat.le_refl _, Nat.le_refl _, fun hw hs => ai_oks_c (fun j hj => by cases hj; exact Or.inr (Or.inr rfl)) hs⟩
    · cases h
  · split at h
    · obtain ⟨n, dp, sp, a, b, rfl, -, -, -, -, -, -, -, -, -, -, rfl⟩ := ai_cpy_ok h
      exact ⟨Nat.le_refl _, Nat.le_refl _, fun hw hs => ai_oks_t (ai_oks_t (ai_oks_t (ai_oks_t (ai_oks_t hs))))⟩
    · obtain ⟨rfl, h1⟩ := ai_mth_w h
      exact ⟨Nat.le_refl _, Nat.le_refl _, fun hw hs => h1 _ hs⟩
  · split at h
    · split at h
      · split at h
        · cases h
          exact ⟨Nat.le_refl _, Nat.le_refl _, fun hw hs => ai_oks_t hs⟩
        · cases h
      · cases h
    · cases h
  · cases h
section SIMO
variable {p : Program} {l : Launch} {e : Env} {R : Room} {s : State} {m : MethodId} {args : Array Value} {below : List Frame} {meth : Method} {c : Code} {H : Heap} {locs : List Loc} {cells slots : Nat} {Q : State → Prop}
variable {sz : Nat} {oL : Nat → Nat} {ox : Nat → Nat → Int32} {ob : Nat → Nat} {D : va_G} {ad : Nat → Nat} {tc : Nat → ClassId} {w w' : ai_W} {cc : ByteArray} {pc : Nat} {ls : Array Slot} {st st' : List Value} {y : MethodName}
theorem ai_M_W {ins : Instr} {len d : Nat} (hx : p.tables.exec = Jvm.exec) (hb : c.code = cc) (hml : c.maxLocals = ls.size) (hown : s.vm.findClass y.cls = some m.cls) (hnm : meth.name = y.name) (hts : ∀ w ∈ ai_tb, w.before args s = true) (hI : ai_I sz oL ox ob D ad tc w s H) (hS : va_S (fun q => sz ≤ q) s.heap H locs) (hs : ai_oks w.1 st) (hd : d ≤ R.frames) (hdl : 40 * d ≤ R.locals) (hdg : decode cc pc = .ok (ins, len)) (h : ai_M oL ox y ins len d st w = some (st', w')) (hc1 : cells + (w'.1 - w.1) ≤ R.cells) (hc2 : slots + (w'.2.1 - w.2.1) ≤ R.slots)
    (k : ∀ (H' : Heap) (locs' : List Loc) (ad' : Nat → Nat) (tc' : Nat → ClassId), (∀ i, i < w.1 → ad' i = ad i) → ai_I sz oL ox ob D ad' tc' w' s H' → va_S (fun q => sz ≤ q) s.heap H' locs' → W p l e R s m args below meth c H' locs' (cells + (w'.1 - w.1)) (slots + (w'.2.1 - w.2.1)) Q (F0 m (pc + len) ls (st'.map (ai_cv ad')))) : W p l e R s m args below meth c H locs cells slots Q (F0 m pc ls (st.map (ai_cv ad))) := by
  unfold ai_M at h
  split at h
  · split at h
    · rename_i h0
      subst h0
      obtain ⟨h1, h2⟩ := ai_keep_ok h
      cases h2
      simp only [Nat.sub_self, Nat.add_zero] at k
      exact ai_get_W hx hb hown hts hI hdg h1 (k _ _ _ _ (fun _ _ => rfl) hI hS)
    · cases h
  · split at h
    · rename_i h0
      subst h0
      have e : w'.1 = w.1 ∧ w'.2.1 = w.2.1 := by
        obtain ⟨i, q, v, rfl, hq, hi, hk, hmay, e1, e2, e3, -⟩ := ai_put_ok h
        exact ⟨e1, e2⟩
      simp only [e.1, e.2, Nat.sub_self, Nat.add_zero] at k
      exact ai_put_W hx hb hown hnm hts hI hS hdg h (fun H' locs' i1 i2 => k _ _ _ _ (fun _ _ => rfl) i1 i2)
    · cases h
  · split at h
    · rename_i h0
      subst h0
      obtain ⟨h1, h2⟩ := ai_keep_ok h
      cases h2
      simp only [Nat.sub_self, Nat.add_zero] at k
      exact ai_iald_W hx hb hI hS hdg h1 (k _ _ _ _ (fun _ _ => rfl) hI hS)
    · cases h
  · split at h
    · rename_i h0
      subst h0
      obtain ⟨h1, h2⟩ := ai_keep_ok h
      cases h2
      simp only [Nat.sub_self, Nat.add_zero] at k
      exact ai_zald_W hx hb hI hdg h1 (k _ _ _ _ (fun _ _ => rfl) hI hS)
    · cases h
  · split at h
    · rename_i h0
      subst h0
      obtain ⟨h1, h2⟩ := ai_keep_ok h
      cases h2
      simp only [Nat.sub_self, Nat.add_zero] at k
      exact ai_rald_W hx hb hI hdg h1 (k _ _ _ _ (fun _ _ => rfl) hI hS)
    · cases h
  · split at h
    · rename_i h0
      subst h0
      have e : w'.1 = w.1 ∧ w'.2.1 = w.2.1 := by
        obtain ⟨v, x, i, -, -, -, -, rfl⟩ := ai_ast_ok h
        exact ⟨rfl, rfl⟩
      simp only [e.1, e.2, Nat.sub_self, Nat.add_zero] at k
      exact ai_iast_W hx hb hI hS hdg h (fun H' locs' i1 i2 => k _ _ _ _ (fun _ _ => rfl) i1 i2)
    · cases h
  · split at h
    · rename_i h0
      subst h0
      have e : w'.1 = w.1 ∧ w'.2.1 = w.2.1 := by
        obtain ⟨v, x, i, -, -, -, -, rfl⟩ := ai_ast_ok h
        exact ⟨rfl, rfl⟩
      simp only [e.1, e.2, Nat.sub_self, Nat.add_zero] at k
      exact ai_zast_W hx hb hI hS hdg h (fun H' locs' i1 i2 => k _ _ _ _ (fun _ _ => rfl) i1 i2)
    · cases h
  · split at h
    · rename_i h0
      subst h0
      have e : w'.1 = w.1 ∧ w'.2.1 = w.2.1 := by
        obtain ⟨v, x, i, -, -, -, -, -, -, rfl⟩ := ai_astR_ok h
        exact ⟨rfl, rfl⟩
      simp only [e.1, e.2, Nat.sub_self, Nat.add_zero] at k
      exact ai_rast_W hx hb hI hS hdg h (fun H' locs' i1 i2 => k _ _ _ _ (fun _ _ => rfl) i1 i2)
    · cases h
  · split at h
    · rename_i h0
      subst h0
      exact ai_news_W hx hb hown hts hI hS hs hdg h hc1 hc2 k
    · cases h
  · split at h
    · rename_i h0
      subst h0
      split at h
      · exact ai_newa_W (kd := 0) (ty := .int) (by decide) rfl rfl (by decide) rfl hx hb hts hI hS hs hdg h hc1 hc2 k
      · exact ai_newa_W (kd := 1) (ty := .boolean) (by decide) rfl rfl (by decide) rfl hx hb hts hI hS hs hdg h hc1 hc2 k
      · cases h
    · cases h
  · split at h
    · rename_i h0
      subst h0
      exact ai_newR_W hx hb hown hts hI hS hs hdg h hc1 hc2 k
    · cases h
  · split at h
    · rename_i h0
      subst h0
      split at h
      · rename_i i r
        split at h
        · rename_i hi
          subst hi
          cases h
          simp only [Nat.sub_self, Nat.add_zero] at k
          obtain ⟨a1, a2, a3⟩ := hI.2.2.2.2.1.1 0 (by decide)
          have e : ai_cv ad (.ref ai_O) = .ref (ob 0) := by simp only [ai_cv]; rw [show ad ai_O = ob 0 from hI.2.2.2.2.2.2.2 0 (by decide)]
          rw [List.map_cons, e]
          obtain ⟨cell, b1, b2, b3, b4, b5, b6⟩ := a1
          exact W.alen (n := Int32.ofNat (oL 0)) hx hb (by rw [hS.2.1 _ a2 a3]; exact b1) b2 b5 rfl rfl hdg (k _ _ _ _ (fun _ _ => rfl) hI hS)
        · cases h
      · cases h
    · cases h
  · split at h
    · rename_i h0
      obtain ⟨rfl, hf⟩ := h0
      cases h
      simp only [Nat.sub_self, Nat.add_zero] at k
      have e : ai_cv ad (.ref (ai_O + 1)) = .ref (ob 1) := by simp only [ai_cv]; rw [hI.2.2.2.2.2.2.2 1 (by decide)]
      have kk := k _ _ _ _ (fun _ _ => rfl) hI hS
      rw [List.map_cons, e] at kk
      exact va_gets hx hb hI.2.2.2.2.1.2 hS hown (hts _ (ai_fl_mem hf)) (fun _ z => z) hdg kk
    · cases h
  · split at h
    · rename_i h0
      obtain ⟨rfl, hd0, g1, g2, g3, g4⟩ := h0
      have e : w'.1 = w.1 ∧ w'.2.1 = w.2.1 := by
        obtain ⟨n, dp, sp, a, b, -, -, -, -, -, -, -, -, -, -, -, rfl⟩ := ai_cpy_ok h
        exact ⟨rfl, rfl⟩
      simp only [e.1, e.2, Nat.sub_self, Nat.add_zero] at k
      exact ai_cpy_W (nL := 0) hd0 hd hdl hml hx hb hown hts g1 g2 g3 g4 hI hS hdg h (fun H' locs' i1 i2 => k _ _ _ _ (fun _ _ => rfl) i1 i2)
    · obtain ⟨hw, -⟩ := ai_mth_w h
      obtain ⟨hl3, hd0, g1, hh⟩ := ai_mth_ok h
      clear h
      subst hl3
      subst hw
      simp only [Nat.sub_self, Nat.add_zero] at k hc1 hc2
      have kk := k _ _ _ _ (fun _ _ => rfl) hI hS
      rcases hh with ⟨g2, g3, g4, h⟩ | ⟨g2, g3, g4, h⟩ | ⟨g2, g3, g4, h⟩
      · obtain ⟨x, y, r, rfl, rfl, -, hsum⟩ := ai_m2_ok h
        have := ai_sum (ad := ad) hsum
        exact va_mmax hx hb hml hown (hts _ (ai_mlk_mem g2)) (hts _ g3) (hts _ g1) (hts _ g4) (by omega) (by omega) hc1 hc2 hdg kk
      · obtain ⟨x, y, r, rfl, rfl, -, hsum⟩ := ai_m2_ok h
        have := ai_sum (ad := ad) hsum
        exact va_mmin hx hb hml hown (hts _ (ai_mlk_mem g2)) (hts _ g3) (hts _ g1) (hts _ g4) (by omega) (by omega) hc1 hc2 hdg kk
      · obtain ⟨x, r, rfl, rfl, -, hsum⟩ := ai_m1_ok h
        have := ai_sum (ad := ad) hsum
        exact va_mabs hx hb hml hown (hts _ (ai_mlk_mem g2)) (hts _ g3) (hts _ g1) (hts _ g4) (by omega) (by omega) hc1 hc2 hdg kk
  · split at h
    · rename_i h0
      obtain ⟨rfl, hd0, g1, g2, g3⟩ := h0
      split at h
      · split at h
        · rename_i i r hsum
          cases h
          simp only [Nat.sub_self, Nat.add_zero] at k
          have hr := lv_room (m := m) (pc := pc) (ls := ls) (rest := (Value.ref (ad i) :: st'.map (ai_cv ad))) (ai_sum (ad := ad) hsum)
          exact W.objInit (g := F0 m pc ls (Value.ref (ad i) :: st'.map (ai_cv ad))) hx hb hown (hts _ (ai_mlk_mem g1)) (hts _ g2) (hts _ g3) rfl hml.symm rfl hdg (by omega) (by omega) (k _ _ _ _ (fun _ _ => rfl) hI hS)
        · cases h
      · cases h
    · cases h
  · cases h
end SIMO
end
section
/-! WHAT THE SMALL MACHINE ANSWERS, THE BIG ONE DOES -/
theorem ai_run_cases {oL : Nat → Nat} {ox : Nat → Nat → Int32} {n d pc : Nat} {y : MethodName × ByteArray × Nat × Option FieldType} {L st : List Value} {w w' : ai_W} {r : Option Value} (h : ai_run oL ox (n + 1) d y pc L st w = some (r, w')) : ∃ ins len, decode y.2.1 pc = .ok (ins, len) ∧
    ((∃ st', ai_A y.1.cls ins len L st = some st' ∧ ai_run oL ox n d y (pc + len) L st' w = some (r, w'))
    ∨ (∃ L' st', ai_B ins len L st = some (L', st') ∧ ai_run oL ox n d y (pc + len) L' st' w = some (r, w'))
    ∨ (∃ pc' st', ai_J ins len pc st = some (pc', st') ∧ ai_run oL ox n d y pc' L st' w = some (r, w'))
    ∨ (∃ st' w1, ai_M oL ox y.1 ins len d st w = some (st', w1) ∧ ai_run oL ox n d y (pc + len) L st' w1 = some (r, w'))
    ∨ (ai_R y.2.2.2 ins len st = some r ∧ w' = w)
    ∨ (∃ z As rest d' v w1, ai_C y.1 ins len st w = some (z, As, rest) ∧ d = d' + 1 ∧ ai_run oL ox n d' z 0 (ai_ent z.2.2.1 As) [] w = some (v, w1) ∧ ai_run oL ox n (d' + 1) y (pc + 3) L (v.toList ++ rest) w1 = some (r, w'))) := by
  rw [ai_run] at h
  split at h
  · cases h
  · rename_i ins len hd
    refine ⟨ins, len, hd, ?_⟩
    split at h
    · exact Or.inl ⟨_, by assumption, h⟩
    · split at h
      · exact Or.inr (Or.inl ⟨_, _, by assumption, h⟩)
      · split at h
        · exact Or.inr (Or.inr (Or.inl ⟨_, _, by assumption, h⟩))
        · split at h
          · exact Or.inr (Or.inr (Or.inr (Or.inl ⟨_, _, by assumption, h⟩)))
          · split at h
            · rename_i hr
              cases h
              exact Or.inr (Or.inr (Or.inr (Or.inr (Or.inl ⟨hr, rfl⟩))))
            · split at h
              · rename_i z As rest hC
                split at h
                · cases h
                · split at h
                  · rename_i v w1 hv
                    exact Or.inr (Or.inr (Or.inr (Or.inr (Or.inr ⟨z, As, rest, _, v, w1, hC, rfl, hv, h⟩))))
                  · cases h
              · cases h
def ai_pl (r : Option Value) : Prop := ∀ v ∈ r.toList, ∀ i, v ≠ .ref i
theorem ai_R_ok {ret : Option FieldType} {ins : Instr} {len : Nat} {st : List Value} {r : Option Value} (h : ai_R ret ins len st = some r) : len = 1 ∧ ((∃ v, ins = .ireturn ∧ st = [.int v] ∧ r = some (.int v) ∧ ∃ ty, ret = some ty ∧ narrow ty (.int v) = .int v) ∨ (∃ v, ins = .lreturn ∧ st = [.long v] ∧ r = some (.long v) ∧ ret = some .long) ∨ (ins = .return_ ∧ st = [] ∧ r = none ∧ ret = none)) := by
  unfold ai_R at h
  split at h
  · split at h
    · rename_i v
      split at h
      · rename_i hc
        cases h
        refine ⟨hc.1, Or.inl ⟨v, rfl, rfl, rfl, ?_⟩⟩
        rcases hc.2 with h1 | h1
        · exact ⟨_, h1, rfl⟩
        · exact ⟨_, h1.1, h1.2⟩
      · cases h
    · cases h
  · split at h
    · rename_i v
      split at h
      · rename_i hc
        cases h
        exact ⟨hc.1, Or.inr (Or.inl ⟨v, rfl, rfl, rfl, hc.2⟩)⟩
      · cases h
    · cases h
  · split at h
    · split at h
      · rename_i hc
        cases h
        exact ⟨hc.1, Or.inr (Or.inr ⟨rfl, rfl, rfl, hc.2⟩)⟩
      · cases h
    · cases h
  · cases h
theorem ai_R_pl {ret : Option FieldType} {ins : Instr} {len : Nat} {st : List Value} {r : Option Value} (h : ai_R ret ins len st = some r) : ai_pl r := by
  obtain ⟨-, h | h | h⟩ := ai_R_ok h
  · obtain ⟨v, -, -, rfl, -⟩ := h
    intro x hx i hi
    simp at hx
    subst hx
    cases hi
  · obtain ⟨v, -, -, rfl, -⟩ := h
    intro x hx i hi
    simp at hx
    subst hx
    cases hi
  · obtain ⟨-, -, rfl, -⟩ := h
    intro x hx
    simp at hx
theorem ai_run_mono {oL : Nat → Nat} {ox : Nat → Nat → Int32} : ∀ (n d pc : Nat) (y : MethodName × ByteArray × Nat × Option FieldType) (L st : List Value) (w w' : ai_W) (r : Option Value), ai_run oL ox n d y pc L st w = some (r, w') → w.1 ≤ w'.1 ∧ w.2.1 ≤ w'.2.1 ∧ ai_pl r := by
  intro n
  induction n with
  | zero => intro d pc y L st w w' r h; rw [ai_run] at h; cases h
  | succ n ih =>
    intro d pc y L st w w' r h
    obtain ⟨ins, len, hd, h | h | h | h | h | h⟩ := ai_run_cases h
    · obtain ⟨st', -, h⟩ := h
      exact ih _ _ _ _ _ _ _ _ h
    · obtain ⟨L', st', -, h⟩ := h
      exact ih _ _ _ _ _ _ _ _ h
    · obtain ⟨pc', st', -, h⟩ := h
      exact ih _ _ _ _ _ _ _ _ h
    · obtain ⟨st', w1, h1, h⟩ := h
      obtain ⟨a1, a2, -⟩ := ai_M_ok h1
      obtain ⟨b1, b2, b3⟩ := ih _ _ _ _ _ _ _ _ h
      exact ⟨Nat.le_trans a1 b1, Nat.le_trans a2 b2, b3⟩
    · obtain ⟨h1, rfl⟩ := h
      exact ⟨Nat.le_refl _, Nat.le_refl _, ai_R_pl h1⟩
    · obtain ⟨z, As, rest, d', v, w1, -, -, h1, h⟩ := h
      obtain ⟨a1, a2, -⟩ := ih _ _ _ _ _ _ _ _ h1
      obtain ⟨b1, b2, b3⟩ := ih _ _ _ _ _ _ _ _ h
      exact ⟨Nat.le_trans a1 b1, Nat.le_trans a2 b2, b3⟩
-- a method's entry
theorem ai_ent_len {n : Nat} {As : List Value} (h : (lg_sl As).length ≤ n) : (ai_ent n As).length = n := by
  have e : (As.flatMap fun v => if v.category = 2 then [v, Value.null] else [v]).length = (lg_sl As).length := by
    clear h
    induction As with
    | nil => rfl
    | cons a As ih =>
      unfold lg_sl at ih ⊢
      rw [List.flatMap_cons, List.flatMap_cons, List.length_append, List.length_append, ih]
      congr 1
      split <;> rfl
  unfold ai_ent
  rw [List.length_append, e, List.length_replicate]
  omega
theorem ai_ent_sl {ad : Nat → Nat} : ∀ (As : List Value) (i : Nat) (v : Value), (As.flatMap fun v => if v.category = 2 then [v, Value.null] else [v])[i]? = some v → v ≠ .null → (lg_sl (As.map (ai_cv ad)))[i]? = some (.val (ai_cv ad v)) := by
  intro As
  induction As with
  | nil => intro i v h; simp at h
  | cons a As ih =>
    intro i v h hn
    unfold lg_sl at ih ⊢
    rw [List.flatMap_cons] at h
    rw [List.map_cons, List.flatMap_cons, ai_cat]
    by_cases hc : a.category = 2
    · rw [if_pos hc] at h ⊢
      match i, h with
      | 0, h => simp at h; subst h; rfl
      | 1, h => simp at h; exact absurd h.symm hn
      | i + 2, h => exact ih i v h hn
    · rw [if_neg hc] at h ⊢
      match i, h with
      | 0, h => simp at h; subst h; rfl
      | i + 1, h => exact ih i v h hn
theorem ai_sl_len (ad : Nat → Nat) (As : List Value) : (lg_sl (As.map (ai_cv ad))).length = (lg_sl As).length := by
  induction As with
  | nil => rfl
  | cons a As ih =>
    unfold lg_sl at ih ⊢
    rw [List.map_cons, List.flatMap_cons, List.flatMap_cons, List.length_append, List.length_append, ih, ai_cat]
    congr 1
    split <;> rfl
theorem ai_ent_L {ad : Nat → Nat} {n : Nat} {As : List Value} (h : (lg_sl As).length ≤ n) : ai_L ad n (ai_ent n As) ((lg_sl (As.map (ai_cv ad)) ++ List.replicate (n - (lg_sl (As.map (ai_cv ad))).length) Slot.unset).toArray) := by
  have hl := lv_entry (As.map (ai_cv ad)) (n := n) (by rw [ai_sl_len]; exact h)
  refine ⟨ai_ent_len h, hl.1, hl.2.1, fun i v hi hv => ?_⟩
  rw [List.getElem?_toArray]
  unfold ai_ent at hi
  by_cases hlt : i < (As.flatMap fun v => if v.category = 2 then [v, Value.null] else [v]).length
  · rw [List.getElem?_append_left hlt] at hi
    have := ai_ent_sl (ad := ad) As i v hi hv
    rw [List.getElem?_append_left (List.getElem?_eq_some_iff.mp this).1]
    exact this
  · rw [List.getElem?_append_right (by omega)] at hi
    have := List.mem_of_getElem? hi
    rw [List.mem_replicate] at this
    exact absurd this.2 hv
theorem ai_ent_oks {n k : Nat} {As : List Value} (h : ai_oks k As) : ai_oks k (ai_ent n As) := by
  intro v hv
  unfold ai_ent at hv
  rcases List.mem_append.mp hv with h1 | h1
  · obtain ⟨a, ha, hb⟩ := List.mem_flatMap.mp h1
    split at hb
    · simp at hb
      rcases hb with rfl | rfl
      · exact h _ ha
      · exact ai_okN
    · simp at hb
      subst hb
      exact h _ ha
  · rw [(List.mem_replicate.mp h1).2]
    exact ai_okN
-- calls
theorem ai_pop_ok {n : Nat} {st As rest : List Value} (h : ai_pop n st = some (As, rest)) : st = As.reverse ++ rest ∧ As.length = n ∧ (rest.map fun v => v.category).sum ≤ 8 := by
  unfold ai_pop at h
  split at h
  · rename_i hc
    cases h
    refine ⟨by rw [List.reverse_reverse, List.take_append_drop], ?_, hc.2⟩
    rw [List.length_reverse, List.length_take]
    omega
  · cases h
theorem ai_popV_ok {n b : Nat} {st As rest : List Value} (h : ai_popV n st = some (b, As, rest)) : st = As.reverse ++ .ref b :: rest ∧ As.length = n ∧ (rest.map fun v => v.category).sum ≤ 8 := by
  unfold ai_popV at h
  split at h
  · rename_i As' b' rest' hp
    cases h
    obtain ⟨h1, h2, h3⟩ := ai_pop_ok hp
    refine ⟨h1, h2, ?_⟩
    simp only [List.map_cons, List.sum_cons] at h3
    omega
  · cases h
theorem ai_fine_ok {z : MethodName} {n : Nat} {mi : ByteArray × Nat × Option FieldType} (h : ai_fine z n mi = true) : z.cls ≠ "java/lang/invoke/MethodHandle" ∧ z.cls ≠ "java/lang/invoke/VarHandle" ∧ (parseMethodDescriptor z.desc).map (fun d => d.parameters.length) = some n ∧ Cond.initialized z.cls ∈ ai_tb ∧ plainName z.cls = true ∧ mi.2.1 ≤ 20 := of_decide_eq_true h
theorem ai_cV_ok {own : String} {idx n : Nat} {z : MethodName} {mi : ByteArray × Nat × Option FieldType} (h : ai_cV own idx = some (z, n, mi)) : ai_mlk own idx = some z ∧ ai_code z = some mi ∧ ai_fine z n mi = true ∧ Cond.instanceMethod z ∈ ai_tb ∧ Cond.selects z.cls z z ∈ ai_tb := by
  unfold ai_cV at h
  split at h
  · rename_i z' hz
    split at h
    · rename_i mi' hm
      split at h
      · rename_i hc
        cases h
        exact ⟨hz, hm, hc⟩
      · cases h
    · cases h
  · cases h
theorem ai_cS_ok {own : String} {idx n : Nat} {z : MethodName} {mi : ByteArray × Nat × Option FieldType} (h : ai_cS own idx = some (z, n, mi)) : ai_mlk own idx = some z ∧ ai_code z = some mi ∧ ai_fine z n mi = true ∧ Cond.static z ∈ ai_tb := by
  unfold ai_cS at h
  split at h
  · rename_i z' hz
    split at h
    · rename_i mi' hm
      split at h
      · rename_i hc
        cases h
        exact ⟨hz, hm, hc⟩
      · cases h
    · cases h
  · cases h
theorem ai_cI_ok {own : String} {idx n : Nat} {z : MethodName} {mi : ByteArray × Nat × Option FieldType} (h : ai_cI own idx = some (z, n, mi)) : ai_mlk own idx = some z ∧ ai_code z = some mi ∧ ai_fine z n mi = true ∧ z.name = "<init>" ∧ Cond.instanceMethod z ∈ ai_tb ∧ mi.2.2 = none := by
  unfold ai_cI at h
  split at h
  · rename_i z' hz
    split at h
    · rename_i mi' hm
      split at h
      · rename_i hc
        cases h
        exact ⟨hz, hm, hc⟩
      · cases h
    · cases h
  · cases h
theorem ai_cN_ok {own : String} {idx n : Nat} {z : MethodName} {mi : ByteArray × Nat × Option FieldType} (h : ai_cN own idx = some (z, n, mi)) : (∃ host, ai_nlk own idx = some (z, host)) ∧ ai_code z = some mi ∧ ai_fine z n mi = true ∧ z.name = "<init>" ∧ Cond.instanceMethod z ∈ ai_tb ∧ mi.2.2 = none := by
  unfold ai_cN at h
  split at h
  · rename_i z' hz
    split at h
    · rename_i mi' hm
      split at h
      · rename_i hc
        cases h
        exact ⟨⟨_, hz⟩, hm, hc⟩
      · cases h
    · cases h
  · cases h
/-- what a call leaves -/
def ai_Qc (sz : Nat) (oL : Nat → Nat) (ox : Nat → Nat → Int32) (ob : Nat → Nat) (D : va_G) (ad : Nat → Nat) (w : ai_W) (v : Option Value) (w' : ai_W) : Array Value → State → Outcome → State → Prop := fun _ st oc t => (∃ u : (Nat → Nat) × (Nat → ClassId), oc = .returned v ∧ (∀ i, i < w.1 → u.1 i = ad i) ∧ ai_I sz oL ox ob D u.1 u.2 w' t t.heap) ∧ va_F (fun q => sz ≤ q) st t
abbrev ai_ws (z : MethodName × ByteArray × Nat × Option FieldType) : List Cond := Cond.code z.1 z.2.1 z.2.2.1 z.2.2.2 :: ai_tb
abbrev ai_rm (d : Nat) (w w' : ai_W) : Room := { frames := d, cells := w'.1 - w.1, slots := w'.2.1 - w.2.1, locals := 40 * d }
section SIMC
variable {p : Program} {l : Launch} {e : Env} {R : Room} {s : State} {m : MethodId} {args : Array Value} {below : List Frame} {meth : Method} {c : Code} {H : Heap} {locs : List Loc} {cells slots : Nat} {Q : State → Prop}
variable {sz : Nat} {oL : Nat → Nat} {ox : Nat → Nat → Int32} {ob : Nat → Nat} {D : va_G} {ad : Nat → Nat} {tc : Nat → ClassId} {w w' : ai_W} {cc : ByteArray} {pc : Nat} {ls : Array Slot} {st st' : List Value}
theorem ai_call {a : Array Value} {v : Option Value} {mc ms : Nat} {st0 rest : List Value} (hI : ai_I sz oL ox ob D ad tc w s H) (hr : va_Run p l e R s m args below meth c H locs cells slots mc ms (F0 m pc ls st0) rest (ai_Qc sz oL ox ob D ad w v w' a) (fun q => sz ≤ q)) (hS : va_S (fun q => sz ≤ q) s.heap H locs)
    (kk : ∀ (ad' : Nat → Nat) (tc' : Nat → ClassId) (H1 : Heap) (locs1 : List Loc), (∀ i, i < w.1 → ad' i = ad i) → ai_I sz oL ox ob D ad' tc' w' s H1 → va_S (fun q => sz ≤ q) s.heap H1 locs1 → W p l e R s m args below meth c H1 locs1 (cells + mc) (slots + ms) Q (F0 m (pc + 3) ls (v.toList ++ rest))) : W p l e R s m args below meth c H locs cells slots Q (F0 m pc ls st0) := by
  intro T hT X
  obtain ⟨v', st₀, t, T', L, h0, X', hL, e1, e2, ⟨⟨u, hv, hu, hI'⟩, hz, hk⟩, st⟩ := hr T hT X
  cases hv
  rw [h0] at hz hk
  obtain ⟨t2, a1, b1⟩ := kk u.1 u.2 T'.heap (locs ++ L) hu (by rw [e1]; exact hI.back hI' (by rw [← e2]; exact X'.warmed.alike))
    ⟨Nat.le_trans hS.1 (by rw [e1]; exact hz), fun q h1 h2 => by rw [e1, hk q (Nat.lt_of_lt_of_le h1 hS.1) h2]; exact hS.2.1 q h1 h2, fun q hq => by
      rcases List.mem_append.mp hq with h | h
      · exact hS.2.2 q h
      · exact hL q h⟩ T' rfl X'
  exact ⟨t2, st t2 a1, b1⟩
theorem ai_ws_in {z : MethodName} {mi : ByteArray × Nat × Option FieldType} (h : ai_code z = some mi) : ∀ x ∈ ai_ws (z, mi), x ∈ ai_tb := fun x hx => by
  rcases List.mem_cons.mp hx with rfl | h1
  · exact ai_code_mem h
  · exact h1
/-- the four kinds of call, over the contract of what is called -/
theorem ai_C_run {y : MethodName} {z : MethodName × ByteArray × Nat × Option FieldType} {ins : Instr} {len d nL : Nat} {As rest : List Value} {v : Option Value} (hx : p.tables.exec = Jvm.exec) (hb : c.code = cc) (hml : c.maxLocals = nL) (hls : ls.size = nL) (hown : s.vm.findClass y.cls = some m.cls) (hts : ∀ w ∈ ai_tb, w.before args s = true) (hI : ai_I sz oL ox ob D ad tc w s H) (hS : va_S (fun q => sz ≤ q) s.heap H locs) (hd : d + 1 ≤ R.frames) (hdl : 40 * (d + 1) ≤ R.locals) (hdg : decode cc pc = .ok (ins, len)) (h : ai_C y ins len st w = some (z, As, rest)) (hc1 : cells + (w'.1 - w.1) ≤ R.cells) (hc2 : slots + (w'.2.1 - w.2.1) ≤ R.slots)
    (hM : ai_code z.1 = some z.2 → plainName z.1.cls = true → (lg_sl As).length ≤ z.2.2.1 → ai_oks w.1 As → Met l z.1 (ai_ws z) (ai_rm d w w') (va_Pc (As.map (ai_cv ad)) (fun U => ai_I sz oL ox ob D ad tc w U U.heap)) (ai_Qc sz oL ox ob D ad w v w') (w'.1 - w.1) (w'.2.1 - w.2.1) (fun q => sz ≤ q)) (hs : ai_oks w.1 st) :
    ai_oks w.1 rest ∧ va_Run p l e R s m args below meth c H locs cells slots (w'.1 - w.1) (w'.2.1 - w.2.1) (F0 m pc ls (st.map (ai_cv ad))) (rest.map (ai_cv ad)) (ai_Qc sz oL ox ob D ad w v w' (As.map (ai_cv ad)).toArray) (fun q => sz ≤ q) := by
  have hblind : ∀ AA : List Value, FrameBlind (va_Pc AA (fun U => ai_I sz oL ox ob D ad tc w U U.heap)) := fun AA a U g mk q => ⟨q.1, q.2.blind⟩
  have hpre : ∀ (AA : List Value) (U : State), U.heap = H → s.WarmedH U.vm → va_Pc AA (fun U => ai_I sz oL ox ob D ad tc w U U.heap) AA.toArray U := fun AA U hU hW => ⟨rfl, hI.call hS hU hW⟩
  have hsplit : ∀ {A0 r0 : List Value} {b : Nat}, st = A0.reverse ++ .ref b :: r0 → ai_oks w.1 (.ref b :: A0) ∧ ai_oks w.1 r0 ∧ st.map (ai_cv ad) = (A0.map (ai_cv ad)).reverse ++ .ref (ad b) :: r0.map (ai_cv ad) := by
    intro A0 r0 b he
    refine ⟨fun x hx => hs x ?_, fun x hx => hs x ?_, ?_⟩
    · rw [he]
      rcases List.mem_cons.mp hx with rfl | h1
      · simp
      · simp [h1]
    · rw [he]; simp [hx]
    · rw [he, List.map_append, List.map_reverse]; rfl
  unfold ai_C at h
  split at h
  · split at h
    · rename_i i h0
      subst h0
      split at h
      · rename_i z' n mi hcV
        split at h
        · rename_i b A0 r0 hpop
          split at h
          · rename_i hc
            cases h
            obtain ⟨k1, k2, k3⟩ := ai_popV_ok hpop
            obtain ⟨g1, g2, g3, g4, g5⟩ := ai_cV_ok hcV
            obtain ⟨f1, f2, f3, f4, f5, f6⟩ := ai_fine_ok g3
            obtain ⟨s1, s2, s3⟩ := hsplit k1
            refine ⟨s2, ?_⟩
            have hMz := hM g2 f5 hc.2.2.2 s1
            rw [s3]
            obtain ⟨q, hq1, hq2⟩ := Option.map_eq_some_iff.mp hc.2.1
            obtain ⟨h1, h2, h3, h4, h5, h6, h7, h8⟩ := hI
            have hrecv := va_recv (a := ad b) (q0 := b) (ci := (w.2.2.1 b).1 - 3) h2.1 h3 hq1 (by rw [ai_cells_at hc.1, ai_en_o (c := (w.2.2.1 b).1 - 3) (by omega)])
            rw [hq2] at hrecv
            refine va_runV (As := A0.map (ai_cv ad)) (b := ad b) ⟨hx, hb, hml, hown, hts⟩ hMz (cwV n hts (ai_tb_in (fun x hx => ?_) (fun _ z => z)) rfl rfl rfl ⟨rfl, f1, f2, f3⟩ ⟨hd, ?_⟩) ⟨hblind _, hrecv, hpre _⟩ rfl (by rw [List.length_map]; exact k2) hls rfl (lv_room (ai_sum k3)) hdg ⟨hc1, hc2⟩
            · unfold wsV at hx
              simp only [List.cons_append, List.nil_append, List.mem_cons] at hx
              rcases hx with rfl | rfl | rfl | rfl | hx
              · exact ai_mlk_mem g1
              · exact g4
              · exact g5
              · exact f4
              · exact ai_ws_in g2 x (List.mem_cons.mpr hx)
            · show 8 + (mi.2.1 + 11) + 40 * d ≤ R.locals
              omega
          · cases h
        · cases h
      · cases h
    · cases h
  · split at h
    · rename_i i h0
      subst h0
      split at h
      · rename_i z' n mi hcS
        split at h
        · rename_i A0 r0 hpop
          split at h
          · rename_i hc
            cases h
            obtain ⟨k1, k2, k3⟩ := ai_pop_ok hpop
            obtain ⟨g1, g2, g3, g4⟩ := ai_cS_ok hcS
            obtain ⟨f1, f2, f3, f4, f5, f6⟩ := ai_fine_ok g3
            have s1 : ai_oks w.1 As := fun x hx => hs x (by rw [k1]; simp [hx])
            have s2 : ai_oks w.1 rest := fun x hx => hs x (by rw [k1]; simp [hx])
            have s3 : st.map (ai_cv ad) = (As.map (ai_cv ad)).reverse ++ rest.map (ai_cv ad) := by rw [k1, List.map_append, List.map_reverse]
            refine ⟨s2, ?_⟩
            have hMz := hM g2 f5 hc s1
            rw [s3]
            refine va_runS (As := As.map (ai_cv ad)) ⟨hx, hb, hml, hown, hts⟩ hMz (va_cwS n hts (ai_tb_in (fun x hx => ?_) (fun _ z => z)) rfl rfl rfl ⟨f1, f2, f3⟩ ⟨hd, ?_⟩) ⟨hblind _, hpre _⟩ rfl (by rw [List.length_map]; exact k2) hls rfl (lv_room (ai_sum k3)) hdg ⟨hc1, hc2⟩
            · unfold va_wsS at hx
              simp only [List.cons_append, List.nil_append, List.mem_cons] at hx
              rcases hx with rfl | rfl | rfl | hx
              · exact ai_mlk_mem g1
              · exact g4
              · exact f4
              · exact ai_ws_in g2 x (List.mem_cons.mpr hx)
            · show 8 + (mi.2.1 + 11) + 40 * d ≤ R.locals
              omega
          · cases h
        · cases h
      · cases h
    · cases h
  · split at h
    · rename_i i h0
      subst h0
      split at h
      · rename_i z' n mi hcI
        split at h
        · rename_i b A0 r0 hpop
          split at h
          · rename_i hc
            cases h
            obtain ⟨k1, k2, k3⟩ := ai_popV_ok hpop
            obtain ⟨g1, g2, g3, g4, g5, g6⟩ := ai_cI_ok hcI
            obtain ⟨f1, f2, f3, f4, f5, f6⟩ := ai_fine_ok g3
            obtain ⟨s1, s2, s3⟩ := hsplit k1
            refine ⟨s2, ?_⟩
            have hMz := hM g2 f5 hc s1
            rw [s3]
            obtain ⟨mb, mn, mr⟩ := mi
            dsimp only at g6
            subst g6
            refine va_runI (As := A0.map (ai_cv ad)) (b := ad b) ⟨hx, hb, hml, hown, hts⟩ hMz (cwI n hts (ai_tb_in (ai_ws_in g2) (fun _ z => z)) rfl rfl rfl (hts _ f4) (hts _ (ai_mlk_mem g1)) (hts _ g5) g4 ⟨f1, f2, f3⟩ ⟨hd, ?_⟩) ⟨hblind _, hpre _⟩ rfl (by rw [List.length_map]; exact k2) hls rfl (lv_room (ai_sum k3)) hdg ⟨hc1, hc2⟩
            show 8 + (mn + 11) + 40 * d ≤ R.locals
            have : mn ≤ 20 := f6
            omega
          · cases h
        · cases h
      · split at h
        · rename_i z' n mi hcN
          split at h
          · rename_i b A0 r0 hpop
            split at h
            · rename_i hc
              cases h
              obtain ⟨k1, k2, k3⟩ := ai_popV_ok hpop
              obtain ⟨⟨host, g1⟩, g2, g3, g4, g5, g6⟩ := ai_cN_ok hcN
              obtain ⟨f1, f2, f3, f4, f5, f6⟩ := ai_fine_ok g3
              obtain ⟨s1, s2, s3⟩ := hsplit k1
              refine ⟨s2, ?_⟩
              have hMz := hM g2 f5 hc s1
              rw [s3]
              obtain ⟨mb, mn, mr⟩ := mi
              dsimp only at g6
              subst g6
              refine va_runIN (As := A0.map (ai_cv ad)) (b := ad b) ⟨hx, hb, hml, hown, hts⟩ hMz ⟨va_cnB n hts (ai_tb_in (ai_ws_in g2) (fun _ z => z)) rfl rfl rfl (hI.2.2.2.2.2.1.2 _ _ _ _ (ai_nlk_mem g1)) (hts _ f4) ⟨f1, f2, f3⟩ ⟨hd, ?_⟩, g4, hts _ g5⟩ ⟨hblind _, hpre _⟩ rfl (by rw [List.length_map]; exact k2) hls rfl (lv_room (ai_sum k3)) hdg ⟨hc1, hc2⟩
              show 8 + (mn + 11) + 40 * d ≤ R.locals
              have : mn ≤ 20 := f6
              omega
            · cases h
          · cases h
        · cases h
    · cases h
  · cases h
end SIMC
end
section
/-! THE SIMULATION: by the small machine's fuel -/
theorem ai_C_len {y : MethodName} {ins : Instr} {len : Nat} {st : List Value} {w : ai_W} {q : (MethodName × ByteArray × Nat × Option FieldType) × List Value × List Value} (h : ai_C y ins len st w = some q) : len = 3 := by
  unfold ai_C at h
  split at h <;> first | (split at h; (assumption); (cases h)) | cases h
set_option maxHeartbeats 4000000 in
theorem ai_sim (l : Launch) (sz : Nat) (oL : Nat → Nat) (ox : Nat → Nat → Int32) (ob : Nat → Nat) (D : va_G) : ∀ (n d : Nat) (y : MethodName × ByteArray × Nat × Option FieldType) (pc : Nat) (L st : List Value) (w w' : ai_W) (r : Option Value), ai_run oL ox n d y pc L st w = some (r, w') →
    ∀ {p : Program} {e : Env} {R : Room} {s : State} {m : MethodId} {args : Array Value} {below : List Frame} {meth : Method} {c : Code} {H : Heap} {locs : List Loc} {cells slots : Nat} {Q : State → Prop} {ad : Nat → Nat} {tc : Nat → ClassId} {ls : Array Slot},
    p.tables.exec = Jvm.exec → c.code = y.2.1 → c.maxLocals = y.2.2.1 → s.vm.findClass y.1.cls = some m.cls → meth.name = y.1.name → (∀ w ∈ ai_tb, w.before args s = true) →
    ai_I sz oL ox ob D ad tc w s H → va_S (fun q => sz ≤ q) s.heap H locs → ai_L ad y.2.2.1 L ls → ai_oks w.1 L → ai_oks w.1 st → d ≤ R.frames → 40 * d ≤ R.locals → cells + (w'.1 - w.1) ≤ R.cells → slots + (w'.2.1 - w.2.1) ≤ R.slots →
    (∀ (pc' : Nat) (ls' : Array Slot) (H' : Heap) (locs' : List Loc) (ad' : Nat → Nat) (tc' : Nat → ClassId) (ins : Instr) (len : Nat) (st' : List Value), decode y.2.1 pc' = .ok (ins, len) → ai_R y.2.2.2 ins len st' = some r → (∀ i, i < w.1 → ad' i = ad i) → ai_I sz oL ox ob D ad' tc' w' s H' → va_S (fun q => sz ≤ q) s.heap H' locs' → W p l e R s m args below meth c H' locs' (cells + (w'.1 - w.1)) (slots + (w'.2.1 - w.2.1)) Q (F0 m pc' ls' (st'.map (ai_cv ad')))) →
    W p l e R s m args below meth c H locs cells slots Q (F0 m pc ls (st.map (ai_cv ad))) := by
  intro n
  induction n with
  | zero => intro d y pc L st w w' r h; rw [ai_run] at h; cases h
  | succ n ih =>
    intro d y pc L st w w' r h p e R s m args below meth c H locs cells slots Q ad tc ls hx hb hml hown hnm hts hI hS hl hoL hos hd hdl hc1 hc2 kr
    have hml' : c.maxLocals = ls.size := hml.trans hl.2.1.symm
    obtain ⟨ins, len, hdg, h | h | h | h | h | h⟩ := ai_run_cases h
    · obtain ⟨st', hA, h⟩ := h
      exact ai_A_W hx hb hown hts hdg hA hl (ih _ _ _ _ _ _ _ _ h hx hb hml hown hnm hts hI hS hl hoL (ai_A_ok hA hoL hos) hd hdl hc1 hc2 kr)
    · obtain ⟨L', st', hB, h⟩ := h
      obtain ⟨o1, o2⟩ := ai_B_ok hB hoL hos
      exact ai_B_W hx hb hdg hB hl (fun ls' hl' => ih _ _ _ _ _ _ _ _ h hx hb hml hown hnm hts hI hS hl' o1 o2 hd hdl hc1 hc2 kr)
    · obtain ⟨pc', st', hJ, h⟩ := h
      exact ai_J_W hx hb hdg hJ (ih _ _ _ _ _ _ _ _ h hx hb hml hown hnm hts hI hS hl hoL (ai_J_ok hJ hos) hd hdl hc1 hc2 kr)
    · obtain ⟨st', w1, hM, h⟩ := h
      obtain ⟨m1, m2, m3⟩ := ai_M_ok hM
      obtain ⟨b1, b2, -⟩ := ai_run_mono _ _ _ _ _ _ _ _ _ h
      refine ai_M_W hx hb hml' hown hnm hts hI hS hos hd hdl hdg hM (by omega) (by omega) (fun H' locs' ad' tc' ha hI' hS' => ?_)
      have ho : ∀ k, k < 2 → ad' (ai_O + k) = ad (ai_O + k) := fun k hk => by rw [hI.2.2.2.2.2.2.2 k hk, hI'.2.2.2.2.2.2.2 k hk]
      refine ih _ _ _ _ _ _ _ _ h hx hb hml hown hnm hts hI' hS' (hl.to hoL ha ho) (hoL.mono m1) (m3 hI.2.2.2.2.2.2.1 hos) hd hdl (by omega) (by omega) (fun pc' ls' H2 locs2 ad2 tc2 ins2 len2 st2 d2 r2 ha2 hI2 hS2 => ?_)
      have e1 : cells + (w1.1 - w.1) + (w'.1 - w1.1) = cells + (w'.1 - w.1) := by omega
      have e2 : slots + (w1.2.1 - w.2.1) + (w'.2.1 - w1.2.1) = slots + (w'.2.1 - w.2.1) := by omega
      rw [e1, e2]
      exact kr pc' ls' H2 locs2 ad2 tc2 ins2 len2 st2 d2 r2 (fun i hi => by rw [ha2 i (by omega), ha i hi]) hI2 hS2
    · obtain ⟨hR, rfl⟩ := h
      have := kr pc ls H locs ad tc ins len st hdg hR (fun _ _ => rfl) hI hS
      simp only [Nat.sub_self, Nat.add_zero] at this
      exact this
    · obtain ⟨z, As, rest, d', v, w1, hC, rfl, hv, h⟩ := h
      have hlen := ai_C_len hC
      subst hlen
      obtain ⟨m1, m2, mpl⟩ := ai_run_mono _ _ _ _ _ _ _ _ _ hv
      obtain ⟨b1, b2, -⟩ := ai_run_mono _ _ _ _ _ _ _ _ _ h
      obtain ⟨hor, hrun⟩ := ai_C_run (p := p) (l := l) (e := e) (R := R) (s := s) (m := m) (args := args) (below := below) (meth := meth) (c := c) (H := H) (locs := locs) (cells := cells) (slots := slots) (ls := ls) (w' := w1) (v := v) hx hb hml hl.2.1 hown hts hI hS hd hdl hdg hC (by omega) (by omega) (fun hcode hplain hfit hoA => by
        refine Met.ofW (cc := z.2.1) (maxL := z.2.2.1) (ret := z.2.2.2) hplain rfl ?_
        intro p e s m args below meth c s₁ B hml hv0
        obtain ⟨rfl, hI0⟩ := hv0
        have hts := atoms_spec (ws := ai_ws z) B.pre
        have hlocks := B.notSynchronized
        rw [lg_entry_eq]
        refine ih d' z 0 (ai_ent z.2.2.1 As) [] w w1 v hv (cells := 0) (slots := 0) B.exec B.bytes hml (findClass_of_methodNamed B.named) (name_of_methodNamed B.named B.method).1 (fun x hx => hts x (List.mem_cons_of_mem _ hx)) hI0 va_S.rf (ai_ent_L hfit) (ai_ent_oks hoA) ai_oks_n (Nat.le_refl d') (Nat.le_refl _) (by rw [Nat.zero_add]; exact Nat.le_refl _) (by rw [Nat.zero_add]; exact Nat.le_refl _) ?_
        intro pc' ls' H' locs' ad' tc' ins len st' hdg' hR ha hI' hS'
        have hR2 := ai_R_ok hR
        clear hR
        obtain ⟨rfl, hR⟩ := hR2
        rw [Nat.zero_add, Nat.zero_add]
        have hq : ∀ t : State, t.heap = H' → s.WarmedH t.vm → ai_Qc sz oL ox ob D ad w v w1 (As.map (ai_cv ad)).toArray s (.returned v) t := fun t ht hW => ⟨⟨(ad', tc'), rfl, ha, hI'.call hS' ht hW⟩, hS'.F ht⟩
        rcases hR with ⟨x, rfl, rfl, rfl, ty, hty, hnar⟩ | ⟨x, rfl, rfl, rfl, hty⟩ | ⟨rfl, rfl, rfl, hty⟩
        · exact W.zret B.exec B.bytes (B.returns.trans hty) hnar hq hS'.2.2 hdg'
        · exact W.lret B.exec B.bytes (B.returns.trans hty) hq hS'.2.2 hdg'
        · exact W.vret B.exec B.bytes (B.returns.trans hty) hq hS'.2.2 hdg') hos
      refine ai_call hI hrun hS (fun ad' tc' H1 locs1 ha hI' hS' => ?_)
      have ho : ∀ k, k < 2 → ad' (ai_O + k) = ad (ai_O + k) := fun k hk => by rw [hI.2.2.2.2.2.2.2 k hk, hI'.2.2.2.2.2.2.2 k hk]
      have est : v.toList ++ rest.map (ai_cv ad) = (v.toList ++ rest).map (ai_cv ad') := by
        rw [List.map_append, ai_cvm hor ha ho]
        congr 1
        cases v with
        | none => rfl
        | some x =>
          have := mpl x (by simp)
          cases x <;> first | rfl | exact absurd rfl (this _)
      rw [est]
      refine ih _ _ _ _ _ _ _ _ h hx hb hml hown hnm hts hI' hS' (hl.to hoL ha ho) (hoL.mono m1) (fun x hx => ?_) hd hdl (by omega) (by omega) (fun pc' ls' H2 locs2 ad2 tc2 ins2 len2 st2 d2 r2 ha2 hI2 hS2 => ?_)
      · rcases List.mem_append.mp hx with h1 | h1
        · intro i hi
          exact absurd hi (mpl x h1 i)
        · exact (hor.mono m1) x h1
      · have e1 : cells + (w1.1 - w.1) + (w'.1 - w1.1) = cells + (w'.1 - w.1) := by omega
        have e2 : slots + (w1.2.1 - w.2.1) + (w'.2.1 - w1.2.1) = slots + (w'.2.1 - w.2.1) := by omega
        rw [e1, e2]
        exact kr pc' ls' H2 locs2 ad2 tc2 ins2 len2 st2 d2 r2 (fun i hi => by rw [ha2 i (by omega), ha i hi]) hI2 hS2
end
section
/-! RUNS OF THE SMALL MACHINE, step by step, as equations -/
abbrev ai_S : Type := (Nat → Nat) × (Nat → Nat → Int32)
def Rn (o : ai_S) (d : Nat) (z : ai_Mi) (pc : Nat) (L st : List Value) (w : ai_W) (r : Option Value × ai_W) : Prop := ∃ n, ai_run o.1 o.2 n d z pc L st w = some r
/-- a method's whole run -/
def Ev (o : ai_S) (d : Nat) (z : ai_Mi) (As : List Value) (w : ai_W) (v : Option Value) (w' : ai_W) : Prop := Rn o d z 0 (ai_ent z.2.2.1 As) [] w (v, w')
theorem rn_of {o : ai_S} {d d' : Nat} {z z' : ai_Mi} {pc pc' : Nat} {L L' st st' : List Value} {w w' : ai_W} {r : Option Value × ai_W} (h : ∀ n, ai_run o.1 o.2 (n + 1) d z pc L st w = ai_run o.1 o.2 n d' z' pc' L' st' w') : Rn o d z pc L st w r = Rn o d' z' pc' L' st' w' r := by
  apply propext
  constructor
  · rintro ⟨n, hn⟩
    cases n with
    | zero => rw [ai_run] at hn; cases hn
    | succ n => exact ⟨n, by rw [← h]; exact hn⟩
  · rintro ⟨n, hn⟩
    exact ⟨n + 1, by rw [h]; exact hn⟩
theorem ai_B_A {ins : Instr} {len : Nat} {L st : List Value} {q : List Value × List Value} {own : String} (h : ai_B ins len L st = some q) : ai_A own ins len L st = none := by
  unfold ai_B at h
  split at h <;> first | rfl | cases h
theorem ai_J_A {ins : Instr} {len pc : Nat} {L st : List Value} {q : Nat × List Value} {own : String} (h : ai_J ins len pc st = some q) : ai_A own ins len L st = none ∧ ai_B ins len L st = none := by
  unfold ai_J at h
  split at h <;> first | exact ⟨rfl, rfl⟩ | cases h
theorem ai_M_A {o : ai_S} {y : MethodName} {ins : Instr} {len d pc : Nat} {L st : List Value} {w : ai_W} {q : List Value × ai_W} {own : String} (h : ai_M o.1 o.2 y ins len d st w = some q) : ai_A own ins len L st = none ∧ ai_B ins len L st = none ∧ ai_J ins len pc st = none := by
  unfold ai_M at h
  split at h <;> first | exact ⟨rfl, rfl, rfl⟩ | cases h
theorem ai_R_A {o : ai_S} {y : MethodName} {ret : Option FieldType} {ins : Instr} {len d pc : Nat} {L st : List Value} {w : ai_W} {q : Option Value} {own : String} (h : ai_R ret ins len st = some q) : ai_A own ins len L st = none ∧ ai_B ins len L st = none ∧ ai_J ins len pc st = none ∧ ai_M o.1 o.2 y ins len d st w = none := by
  unfold ai_R at h
  split at h <;> first | exact ⟨rfl, rfl, rfl, rfl⟩ | cases h
section RUN
variable {o : ai_S} {d : Nat} {z : ai_Mi} {pc : Nat} {L L' st st' : List Value} {w w' : ai_W} {r : Option Value × ai_W} {ins : Instr} {len : Nat}
theorem rn_A (hd : decode z.2.1 pc = .ok (ins, len)) (h : ai_A z.1.cls ins len L st = some st') : Rn o d z pc L st w r = Rn o d z (pc + len) L st' w r := rn_of fun n => by rw [ai_run, hd]; simp only [h]
theorem rn_B (hd : decode z.2.1 pc = .ok (ins, len)) (h : ai_B ins len L st = some (L', st')) : Rn o d z pc L st w r = Rn o d z (pc + len) L' st' w r := rn_of fun n => by rw [ai_run, hd]; simp only [ai_B_A h, h]
theorem rn_J {pc' : Nat} (hd : decode z.2.1 pc = .ok (ins, len)) (h : ai_J ins len pc st = some (pc', st')) : Rn o d z pc L st w r = Rn o d z pc' L st' w r := rn_of fun n => by rw [ai_run, hd]; simp only [(ai_J_A (L := L) (own := z.1.cls) h).1, (ai_J_A (L := L) (own := z.1.cls) h).2, h]
theorem rn_M (hd : decode z.2.1 pc = .ok (ins, len)) (h : ai_M o.1 o.2 z.1 ins len d st w = some (st', w')) : Rn o d z pc L st w r = Rn o d z (pc + len) L st' w' r := rn_of fun n => by
  obtain ⟨h1, h2, h3⟩ := ai_M_A (L := L) (own := z.1.cls) (pc := pc) h
  rw [ai_run, hd]; simp only [h1, h2, h3, h]
theorem rn_R {v : Option Value} (hd : decode z.2.1 pc = .ok (ins, len)) (h : ai_R z.2.2.2 ins len st = some v) : Rn o d z pc L st w r = ((v, w) = r) := by
  obtain ⟨h1, h2, h3, h4⟩ := ai_R_A (L := L) (own := z.1.cls) (pc := pc) (o := o) (y := z.1) (d := d) (w := w) h
  apply propext
  constructor
  · rintro ⟨n, hn⟩
    cases n with
    | zero => rw [ai_run] at hn; cases hn
    | succ n =>
      rw [ai_run, hd] at hn
      simp only [h1, h2, h3, h4, h] at hn
      exact Option.some.inj hn
  · rintro rfl
    exact ⟨1, by rw [ai_run, hd]; simp only [h1, h2, h3, h4, h]⟩
theorem ai_run_up : ∀ (n d : Nat) (z : ai_Mi) (pc : Nat) (L st : List Value) (w : ai_W) (r : Option Value × ai_W), ai_run o.1 o.2 n d z pc L st w = some r → ai_run o.1 o.2 (n + 1) d z pc L st w = some r := by
  intro n
  induction n with
  | zero => intro d z pc L st w r h; rw [ai_run] at h; cases h
  | succ n ih =>
    intro d z pc L st w r h
    rw [ai_run] at h ⊢
    split at h
    · cases h
    · rename_i ins len hd
      try rw [hd]
      try dsimp only
      split at h
      · rename_i st' hA
        try simp only [hA]
        exact ih _ _ _ _ _ _ _ h
      · rename_i hA
        try simp only [hA]
        split at h
        · rename_i L' st' hB
          try simp only [hB]
          exact ih _ _ _ _ _ _ _ h
        · rename_i hB
          try simp only [hB]
          split at h
          · rename_i pc' st' hJ
            try simp only [hJ]
            exact ih _ _ _ _ _ _ _ h
          · rename_i hJ
            try simp only [hJ]
            split at h
            · rename_i st' w' hM
              try simp only [hM]
              exact ih _ _ _ _ _ _ _ h
            · rename_i hM
              try simp only [hM]
              split at h
              · rename_i v hR
                try simp only [hR]
                exact h
              · rename_i hR
                try simp only [hR]
                split at h
                · rename_i zz As rest hC
                  try simp only [hC]
                  split at h
                  · cases h
                  · split at h
                    · rename_i v w1 hv
                      try simp only [ih _ _ _ _ _ _ _ hv]
                      exact ih _ _ _ _ _ _ _ h
                    · cases h
                · cases h
theorem ai_run_le {n n' : Nat} (hn : n ≤ n') (h : ai_run o.1 o.2 n d z pc L st w = some r) : ai_run o.1 o.2 n' d z pc L st w = some r := by
  obtain ⟨k, rfl⟩ := Nat.le.dest hn
  induction k with
  | zero => exact h
  | succ k ih => exact ai_run_up _ _ _ _ _ _ _ _ (ih (Nat.le_add_right _ _))
theorem ai_run_det {n n' : Nat} {r r' : Option Value × ai_W} (h : ai_run o.1 o.2 n d z pc L st w = some r) (h' : ai_run o.1 o.2 n' d z pc L st w = some r') : r = r' := by
  have a := ai_run_le (Nat.le_max_left n n') h
  have b := ai_run_le (Nat.le_max_right n n') h'
  exact Option.some.inj (a.symm.trans b)
theorem rn_C {zz : ai_Mi} {As rest : List Value} {v : Option Value} (hd : decode z.2.1 pc = .ok (ins, len)) (h0 : ai_A z.1.cls ins len L st = none ∧ ai_B ins len L st = none ∧ ai_J ins len pc st = none ∧ ai_M o.1 o.2 z.1 ins len (d + 1) st w = none ∧ ai_R z.2.2.2 ins len st = none) (hC : ai_C z.1 ins len st w = some (zz, As, rest)) (hE : Ev o d zz As w v w') : Rn o (d + 1) z pc L st w r = Rn o (d + 1) z (pc + 3) L (v.toList ++ rest) w' r := by
  obtain ⟨h1, h2, h3, h4, h5⟩ := h0
  obtain ⟨k, hk⟩ := hE
  apply propext
  constructor
  · rintro ⟨n, hn⟩
    cases n with
    | zero => rw [ai_run] at hn; cases hn
    | succ n =>
      rw [ai_run, hd] at hn
      simp only [h1, h2, h3, h4, h5, hC] at hn
      split at hn
      · rename_i v2 w2 hv
        have := ai_run_det hv hk
        cases this
        exact ⟨n, hn⟩
      · cases hn
  · rintro ⟨n, hn⟩
    refine ⟨max n k + 1, ?_⟩
    rw [ai_run, hd]
    simp only [h1, h2, h3, h4, h5, hC]
    rw [ai_run_le (Nat.le_max_right n k) hk]
    exact ai_run_le (Nat.le_max_left n k) hn
end RUN
end
section
/-! rules of runs, an instruction each; conditions are left to be met -/
section RULES
variable {o : ai_S} {d : Nat} {z : ai_Mi} {pc : Nat} {L st : List Value} {w : ai_W} {r : Option Value × ai_W} {x y v : Int32} {i j k idx ci tgt : Nat} {off : Int}
theorem rn_int {ins : Instr} {len : Nat} {v' : Int32} (hd : decode z.2.1 pc = .ok (ins, len)) (h : ai_A z.1.cls ins len L st = some (.int v' :: st)) (hv : v' = v) : Rn o d z pc L st w r = Rn o d z (pc + len) L (.int v :: st) w r := by subst hv; exact rn_A hd h
theorem rn_idiv (hd : decode z.2.1 pc = .ok (.idiv, 1)) (h : ¬ y = 0) : Rn o d z pc L (.int y :: .int x :: st) w r = Rn o d z (pc + 1) L (.int (x / y) :: st) w r := rn_A hd (by simp [ai_A, ai_binZ, ai_push, h])
theorem rn_irem (hd : decode z.2.1 pc = .ok (.irem, 1)) (h : ¬ y = 0) : Rn o d z pc L (.int y :: .int x :: st) w r = Rn o d z (pc + 1) L (.int (x - x / y * y) :: st) w r := rn_A hd (by simp [ai_A, ai_binZ, ai_push, h])
theorem rn_ldiv {x y : Int64} (hd : decode z.2.1 pc = .ok (.ldiv, 1)) (h : ¬ y = 0) : Rn o d z pc L (.long y :: .long x :: st) w r = Rn o d z (pc + 1) L (.long (x / y) :: st) w r := rn_A hd (by simp [ai_A, ai_binLZ, ai_push, h])
theorem rn_lrem {x y : Int64} (hd : decode z.2.1 pc = .ok (.lrem, 1)) (h : ¬ y = 0) : Rn o d z pc L (.long y :: .long x :: st) w r = Rn o d z (pc + 1) L (.long (x - x / y * y) :: st) w r := rn_A hd (by simp [ai_A, ai_binLZ, ai_push, h])
theorem rn_ldc {c : Int32} (hd : decode z.2.1 pc = .ok (.ldc_w idx, 3)) (h : ai_cst z.1.cls idx = some c) : Rn o d z pc L st w r = Rn o d z (pc + 3) L (.int c :: st) w r := rn_A hd (by simp [ai_A, ai_pushO, ai_push, h])
theorem rn_ldc2 {c : Int64} (hd : decode z.2.1 pc = .ok (.ldc2_w idx, 3)) (h : ai_cstL z.1.cls idx = some c) : Rn o d z pc L st w r = Rn o d z (pc + 3) L (.long c :: st) w r := rn_A hd (by simp [ai_A, ai_pushO, ai_push, h])
-- locals
theorem rn_sti0 {ins : Instr} {len i : Nat} (hd : decode z.2.1 pc = .ok (ins, len)) (h : ai_B ins len L (.int x :: st) = ai_sti len len L i (.int x :: st)) (hi : i < L.length) (h2 : i = 0 ∨ ai_is2 L[i - 1]? = false) : Rn o d z pc L (.int x :: st) w r = Rn o d z (pc + len) (L.set i (.int x)) st w r := rn_B hd (by rw [h]; unfold ai_sti; dsimp only; rw [if_pos ⟨rfl, hi, h2⟩])
theorem rn_stl0 {ins : Instr} {len i : Nat} {x : Int64} (hd : decode z.2.1 pc = .ok (ins, len)) (h : ai_B ins len L (.long x :: st) = ai_stl len len L i (.long x :: st)) (hi : i + 1 < L.length) (h2 : i = 0 ∨ ai_is2 L[i - 1]? = false) : Rn o d z pc L (.long x :: st) w r = Rn o d z (pc + len) ((L.set i (.long x)).set (i + 1) .null) st w r := rn_B hd (by rw [h]; unfold ai_stl; dsimp only; rw [if_pos ⟨rfl, hi, h2⟩])
theorem rn_sta0 {ins : Instr} {len i a : Nat} (hd : decode z.2.1 pc = .ok (ins, len)) (h : ai_B ins len L (.ref a :: st) = ai_sta len len L i (.ref a :: st)) (hi : i < L.length) (h2 : i = 0 ∨ ai_is2 L[i - 1]? = false) : Rn o d z pc L (.ref a :: st) w r = Rn o d z (pc + len) (L.set i (.ref a)) st w r := rn_B hd (by rw [h]; unfold ai_sta; dsimp only; rw [if_pos ⟨rfl, hi, h2⟩])
theorem rn_iinc {n : Int} {c : Int32} {i : Nat} (hd : decode z.2.1 pc = .ok (.iinc i n, 3)) (hl : L[i]? = some (.int x)) (hc : Int32.ofInt n = c) (hi : i < L.length) (h2 : i = 0 ∨ ai_is2 L[i - 1]? = false) : Rn o d z pc L st w r = Rn o d z (pc + 3) (L.set i (.int (x + c))) st w r := rn_B hd (by subst hc; unfold ai_B; simp only [hl]; unfold ai_sti; dsimp only; rw [if_pos ⟨rfl, hi, h2⟩])
theorem is2_i : ai_is2 (some (.int x)) = false := rfl
theorem is2_r {a : Nat} : ai_is2 (some (.ref a)) = false := rfl
theorem is2_n : ai_is2 (some .null) = false := rfl
-- jumps
theorem rn_goto (hd : decode z.2.1 pc = .ok (.goto off, 3)) (ht : (pc : Int) + off = (tgt : Int)) : Rn o d z pc L st w r = Rn o d z tgt L st w r := rn_J hd (by simp [ai_J, ai_tg, ht])
theorem ai_br_eq {b : Prop} {hb : Decidable b} {pc tgt : Nat} {off : Int} {st : List Value} (ht : (pc : Int) + off = (tgt : Int)) : ai_br b hb 3 pc off st = if b then some (tgt, st) else some (pc + 3, st) := by
  unfold ai_br
  rw [if_pos ⟨rfl, by omega⟩]
  have : ((pc : Int) + off).toNat = tgt := by omega
  rw [this]
theorem rn_br {ins : Instr} {b : Prop} {hb : Decidable b} {st' : List Value} (hd : decode z.2.1 pc = .ok (ins, 3)) (h : ai_J ins 3 pc st = ai_br b hb 3 pc off st') (ht : (pc : Int) + off = (tgt : Int)) : Rn o d z pc L st w r = if b then Rn o d z tgt L st' w r else Rn o d z (pc + 3) L st' w r := by
  rw [ai_br_eq ht] at h
  by_cases hc : b
  · rw [if_pos hc] at h ⊢; exact rn_J hd h
  · rw [if_neg hc] at h ⊢; exact rn_J hd h
theorem rn_tsw {df lo hi : Int} {offs : Array Int} {len : Nat} (hd : decode z.2.1 pc = .ok (.tableswitch df lo hi offs, len)) (h1 : ¬ x.toInt < lo) (h2 : ¬ hi < x.toInt) (ho : offs[(x.toInt - lo).toNat]? = some off) (ht : (pc : Int) + off = (tgt : Int)) : Rn o d z pc L (.int x :: st) w r = Rn o d z tgt L st w r := rn_J hd (by
  unfold ai_J
  dsimp only
  rw [if_neg (fun z => z.elim h1 h2), ho]
  dsimp only
  unfold ai_tg
  rw [if_pos (by omega), show ((pc : Int) + off).toNat = tgt by omega])
theorem rn_tswD {df lo hi : Int} {offs : Array Int} {len : Nat} (hd : decode z.2.1 pc = .ok (.tableswitch df lo hi offs, len)) (h1 : x.toInt < lo ∨ hi < x.toInt) (ht : (pc : Int) + df = (tgt : Int)) : Rn o d z pc L (.int x :: st) w r = Rn o d z tgt L st w r := rn_J hd (by
  unfold ai_J
  dsimp only
  rw [if_pos h1]
  unfold ai_tg
  rw [if_pos (by omega), show ((pc : Int) + df).toNat = tgt by omega])
theorem rn_lsw {df : Int} {ps : Array (Int × Int)} {len : Nat} (hd : decode z.2.1 pc = .ok (.lookupswitch df ps, len)) (h0 : (ps.toList.zip (ps.toList.drop 1)).all (fun (a, next) => a.1 < next.1) = true) (ho : Op.lookupswitch.offset ps.toList df x.toInt = off) (ht : (pc : Int) + off = (tgt : Int)) : Rn o d z pc L (.int x :: st) w r = Rn o d z tgt L st w r := rn_J hd (by
  unfold ai_J
  dsimp only
  rw [if_pos h0, ho]
  unfold ai_tg
  rw [if_pos (by omega), show ((pc : Int) + off).toNat = tgt by omega])
-- the heap, of any shape
variable {n sl : Nat} {κ : Nat → Nat × Nat} {rf : Nat → Nat → Option Nat} {m : Nat → Nat → Int32} {lg : Nat → Nat → Int64}
theorem rg_getI (hd : decode z.2.1 pc = .ok (.getfield idx, 3)) (hf : ai_fld z.1.cls idx = some (ci, k)) (ht : ai_ty ci k = .int) (hi : i < n ∧ (κ i).1 = ci + 3) : Rn o d z pc L (.ref i :: st) (n, sl, κ, rf, m, lg) r = Rn o d z (pc + 3) L (.int (m i k) :: st) (n, sl, κ, rf, m, lg) r := rn_M hd (by simp [ai_M, ai_get, ai_keep, hf, ht, hi])
theorem rg_getL (hd : decode z.2.1 pc = .ok (.getfield idx, 3)) (hf : ai_fld z.1.cls idx = some (ci, k)) (ht : ai_ty ci k = .long) (hi : i < n ∧ (κ i).1 = ci + 3) : Rn o d z pc L (.ref i :: st) (n, sl, κ, rf, m, lg) r = Rn o d z (pc + 3) L (.long (lg i k) :: st) (n, sl, κ, rf, m, lg) r := rn_M hd (by simp [ai_M, ai_get, ai_keep, hf, ht, hi])
theorem rg_getR (hd : decode z.2.1 pc = .ok (.getfield idx, 3)) (hf : ai_fld z.1.cls idx = some (ci, k)) (ht : ai_isRef (ai_ty ci k) = true) (hi : i < n ∧ (κ i).1 = ci + 3) (hq : rf i k = some j) : Rn o d z pc L (.ref i :: st) (n, sl, κ, rf, m, lg) r = Rn o d z (pc + 3) L (.ref j :: st) (n, sl, κ, rf, m, lg) r := rn_M hd (by
  have n1 : ai_ty ci k ≠ .int := fun z => by rw [z] at ht; cases ht
  have n2 : ai_ty ci k ≠ .long := fun z => by rw [z] at ht; cases ht
  simp [ai_M, ai_get, ai_keep, hf, ht, hi, n1, n2, hq])
theorem rg_putI (hd : decode z.2.1 pc = .ok (.putfield idx, 3)) (hf : ai_fld z.1.cls idx = some (ci, k)) (ht : ai_ty ci k = .int) (hm : ai_may z.1 ci k = true) (hi : i < n ∧ (κ i).1 = ci + 3) : Rn o d z pc L (.int x :: .ref i :: st) (n, sl, κ, rf, m, lg) r = Rn o d z (pc + 3) L st (n, sl, κ, rf, ai_up m i k x, lg) r := rn_M hd (by simp [ai_M, ai_put, hf, ht, hi, hm])
theorem rg_putL {x : Int64} (hd : decode z.2.1 pc = .ok (.putfield idx, 3)) (hf : ai_fld z.1.cls idx = some (ci, k)) (ht : ai_ty ci k = .long) (hm : ai_may z.1 ci k = true) (hi : i < n ∧ (κ i).1 = ci + 3) : Rn o d z pc L (.long x :: .ref i :: st) (n, sl, κ, rf, m, lg) r = Rn o d z (pc + 3) L st (n, sl, κ, rf, m, ai_upL lg i k x) r := rn_M hd (by simp [ai_M, ai_put, hf, ht, hi, hm])
theorem rg_putR {a : Nat} (hd : decode z.2.1 pc = .ok (.putfield idx, 3)) (hf : ai_fld z.1.cls idx = some (ci, k)) (ht : ai_isRef (ai_ty ci k) = true) (hm : ai_may z.1 ci k = true) (hi : i < n ∧ a < n ∧ (κ i).1 = ci + 3) : Rn o d z pc L (.ref a :: .ref i :: st) (n, sl, κ, rf, m, lg) r = Rn o d z (pc + 3) L st (n, sl, κ, ai_upR rf i k (some a), m, lg) r := rn_M hd (by simp [ai_M, ai_put, hf, ht, hi, hm])
theorem rg_new {q : vw_C} (hd : decode z.2.1 pc = .ok (.new idx, 3)) (hc : ai_cls z.1.cls idx = some ci) (hq : ai_cl[ci]? = some q) (hn : n < 1000000) : Rn o d z pc L st (n, sl, κ, rf, m, lg) r = Rn o d z (pc + 3) L (.ref n :: st) (n + 1, sl + q.2.2, va_up κ n (ci + 3, q.2.2), va_up rf n (fun _ => none), va_up m n (fun _ => 0), va_up lg n (fun _ => 0)) r := rn_M hd (by simp [ai_M, ai_news, hc, hq, hn, ai_mk])
theorem rg_newI (hd : decode z.2.1 pc = .ok (.newarray .int, 2)) (hc : Cond.arrayClass .int ∈ ai_tb) (hj : j ≤ 1000) (hn : n < 1000000) : Rn o d z pc L (.int (nI j) :: st) (n, sl, κ, rf, m, lg) r = Rn o d z (pc + 2) L (.ref n :: st) (n + 1, sl + j, va_up κ n (0, j), va_up rf n (fun _ => none), va_up m n (fun _ => 0), va_up lg n (fun _ => 0)) r := rn_M hd (by
  have h1 : ¬ nI j < 0 := nI_pos (by omega)
  have h2 := nI_clamp (n := j) (by omega)
  simp only [ai_M, ai_newa, h1, h2, hc, hn, hj, ai_mk, if_pos, not_false_eq_true, and_self])
theorem rg_newZ (hd : decode z.2.1 pc = .ok (.newarray .boolean, 2)) (hc : Cond.arrayClass .boolean ∈ ai_tb) (hj : j ≤ 1000) (hn : n < 1000000) : Rn o d z pc L (.int (nI j) :: st) (n, sl, κ, rf, m, lg) r = Rn o d z (pc + 2) L (.ref n :: st) (n + 1, sl + j, va_up κ n (1, j), va_up rf n (fun _ => none), va_up m n (fun _ => 0), va_up lg n (fun _ => 0)) r := rn_M hd (by
  have h1 : ¬ nI j < 0 := nI_pos (by omega)
  have h2 := nI_clamp (n := j) (by omega)
  simp only [ai_M, ai_newa, h1, h2, hc, hn, hj, ai_mk, if_pos, not_false_eq_true, and_self])
theorem rg_newR (hd : decode z.2.1 pc = .ok (.anewarray idx, 3)) (hc : ai_clk z.1.cls idx = some RX2) (hj : j ≤ 1000) (hn : n < 1000000) : Rn o d z pc L (.int (nI j) :: st) (n, sl, κ, rf, m, lg) r = Rn o d z (pc + 3) L (.ref n :: st) (n + 1, sl + j, va_up κ n (2, j), va_up rf n (fun _ => none), va_up m n (fun _ => 0), va_up lg n (fun _ => 0)) r := rn_M hd (by
  have h1 : ¬ nI j < 0 := nI_pos (by omega)
  have h2 := nI_clamp (n := j) (by omega)
  simp only [ai_M, ai_newR, h1, h2, hc, hn, hj, ai_mk, if_pos, not_false_eq_true, and_self])
theorem rg_aastore {a : Nat} (hd : decode z.2.1 pc = .ok (.aastore, 1)) (hi : i < n ∧ a < n ∧ (κ a).1 = 5 ∧ (κ i).1 = 2) (hj : j < (κ i).2) (hj2 : j < 1000) : Rn o d z pc L (.ref a :: .int (nI j) :: .ref i :: st) (n, sl, κ, rf, m, lg) r = Rn o d z (pc + 1) L st (n, sl, κ, ai_upR rf i j (some a), m, lg) r := rn_M hd (by
  have h1 : ¬ nI j < 0 := nI_pos (by omega)
  have h2 := nI_clamp (n := j) (by omega)
  have h3 : ¬ (κ i).2 ≤ j := by omega
  simp [ai_M, ai_astR, h1, h2, h3, hi])
theorem rn_objInit {a : Nat} (hd : decode z.2.1 pc = .ok (.invokespecial idx, 3)) (hc : ai_mlk z.1.cls idx = some Lib.objectInit) (h1 : Cond.instanceMethod Lib.objectInit ∈ ai_tb) (h2 : Cond.code Lib.objectInit ⟨#[0xb1]⟩ 1 none ∈ ai_tb) (hs : (st.map fun v => v.category).sum ≤ 8) : Rn o (d + 1) z pc L (.ref a :: st) w r = Rn o (d + 1) z (pc + 3) L st w r := rn_M hd (by simp only [ai_M, hc, h1, h2, hs, if_pos, Nat.zero_lt_succ, and_self])
-- calls
theorem rn_cV {n b ci : Nat} {zz : ai_Mi} {As rest : List Value} {v : Option Value} {w' : ai_W} (hd : decode z.2.1 pc = .ok (.invokevirtual idx, 3)) (hc : ai_cV z.1.cls idx = some (zz.1, n, zz.2)) (hp : ai_popV n st = some (b, As, rest)) (hcl : ai_cl[ci]?.map (fun q => q.1) = some zz.1.cls) (hlen : (lg_sl (.ref b :: As)).length ≤ zz.2.2.1) (hk : b < w.1 ∧ (w.2.2.1 b).1 = ci + 3) (hE : Ev o d zz (.ref b :: As) w v w') : Rn o (d + 1) z pc L st w r = Rn o (d + 1) z (pc + 3) L (v.toList ++ rest) w' r := by
  refine rn_C (zz := zz) hd ⟨rfl, rfl, rfl, rfl, rfl⟩ ?_ hE
  unfold ai_C
  simp only [if_pos, hc, hp]
  rw [if_pos ⟨hk.1, by rw [hk.2]; exact hcl, by omega, hlen⟩]
theorem rn_cS {n : Nat} {zz : ai_Mi} {As rest : List Value} {v : Option Value} {w' : ai_W} (hd : decode z.2.1 pc = .ok (.invokestatic idx, 3)) (hne : ai_mlk z.1.cls idx ≠ some arraycopyName) (hnm : ai_isM z.1.cls idx = false) (hc : ai_cS z.1.cls idx = some (zz.1, n, zz.2)) (hp : ai_pop n st = some (As, rest)) (hlen : (lg_sl As).length ≤ zz.2.2.1) (hE : Ev o d zz As w v w') : Rn o (d + 1) z pc L st w r = Rn o (d + 1) z (pc + 3) L (v.toList ++ rest) w' r := by
  refine rn_C (zz := zz) hd ⟨rfl, rfl, rfl, by simp [ai_M, hne, ai_mth, hnm], rfl⟩ ?_ hE
  unfold ai_C
  simp only [if_pos, hc, hp]
  rw [if_pos hlen]
theorem rn_max (hd : decode z.2.1 pc = .ok (.invokestatic idx, 3)) (hne : ai_mlk z.1.cls idx ≠ some arraycopyName) (h1 : ai_mlk z.1.cls idx = some Lib.Math.max.name) (hm : ai_isM z.1.cls idx = true) (h2 : Cond.initialized "java/lang/Math" ∈ ai_tb ∧ Cond.static Lib.Math.max.name ∈ ai_tb ∧ Cond.code Lib.Math.max.name Lib.Math.max.code 2 (some .int) ∈ ai_tb) (hs : (st.map fun v => v.category).sum ≤ 8) : Rn o (d + 1) z pc L (.int y :: .int x :: st) w r = Rn o (d + 1) z (pc + 3) L (.int (if x < y then y else x) :: st) w r := rn_M hd (by
  unfold ai_M
  dsimp only
  rw [if_neg (fun q => hne q.2.2.1)]
  unfold ai_mth
  rw [if_neg (by rw [hm]; decide), if_pos ⟨rfl, Nat.succ_pos _, h2.1⟩, if_pos ⟨h1, h2.2.1, h2.2.2⟩]
  unfold ai_m2
  dsimp only
  rw [if_pos hs])
theorem rn_min (hd : decode z.2.1 pc = .ok (.invokestatic idx, 3)) (hne : ai_mlk z.1.cls idx ≠ some arraycopyName) (h0 : ai_mlk z.1.cls idx ≠ some Lib.Math.max.name) (h1 : ai_mlk z.1.cls idx = some Lib.Math.min.name) (hm : ai_isM z.1.cls idx = true) (h2 : Cond.initialized "java/lang/Math" ∈ ai_tb ∧ Cond.static Lib.Math.min.name ∈ ai_tb ∧ Cond.code Lib.Math.min.name Lib.Math.min.code 2 (some .int) ∈ ai_tb) (hs : (st.map fun v => v.category).sum ≤ 8) : Rn o (d + 1) z pc L (.int y :: .int x :: st) w r = Rn o (d + 1) z (pc + 3) L (.int (if y < x then y else x) :: st) w r := rn_M hd (by
  unfold ai_M
  dsimp only
  rw [if_neg (fun q => hne q.2.2.1)]
  unfold ai_mth
  rw [if_neg (by rw [hm]; decide), if_pos ⟨rfl, Nat.succ_pos _, h2.1⟩, if_neg (fun q => h0 q.1), if_pos ⟨h1, h2.2.1, h2.2.2⟩]
  unfold ai_m2
  dsimp only
  rw [if_pos hs])
theorem rn_abs (hd : decode z.2.1 pc = .ok (.invokestatic idx, 3)) (hne : ai_mlk z.1.cls idx ≠ some arraycopyName) (h0 : ai_mlk z.1.cls idx ≠ some Lib.Math.max.name) (h00 : ai_mlk z.1.cls idx ≠ some Lib.Math.min.name) (h1 : ai_mlk z.1.cls idx = some Lib.Math.abs.name) (hm : ai_isM z.1.cls idx = true) (h2 : Cond.initialized "java/lang/Math" ∈ ai_tb ∧ Cond.static Lib.Math.abs.name ∈ ai_tb ∧ Cond.code Lib.Math.abs.name Lib.Math.abs.code 1 (some .int) ∈ ai_tb) (hs : (st.map fun v => v.category).sum ≤ 8) : Rn o (d + 1) z pc L (.int x :: st) w r = Rn o (d + 1) z (pc + 3) L (.int (if 0 ≤ x then x else 0 - x) :: st) w r := rn_M hd (by
  unfold ai_M
  dsimp only
  rw [if_neg (fun q => hne q.2.2.1)]
  unfold ai_mth
  rw [if_neg (by rw [hm]; decide), if_pos ⟨rfl, Nat.succ_pos _, h2.1⟩, if_neg (fun q => h0 q.1), if_neg (fun q => h00 q.1), if_pos ⟨h1, h2.2.1, h2.2.2⟩]
  unfold ai_m1
  dsimp only
  rw [if_pos hs])
theorem rn_cI {n b : Nat} {zz : ai_Mi} {As rest : List Value} {v : Option Value} {w' : ai_W} (hd : decode z.2.1 pc = .ok (.invokespecial idx, 3)) (hne : ai_mlk z.1.cls idx ≠ some Lib.objectInit) (hc : ai_cI z.1.cls idx = some (zz.1, n, zz.2)) (hp : ai_popV n st = some (b, As, rest)) (hlen : (lg_sl (.ref b :: As)).length ≤ zz.2.2.1) (hE : Ev o d zz (.ref b :: As) w v w') : Rn o (d + 1) z pc L st w r = Rn o (d + 1) z (pc + 3) L (v.toList ++ rest) w' r := by
  refine rn_C (zz := zz) hd ⟨rfl, rfl, rfl, by simp [ai_M, hne], rfl⟩ ?_ hE
  unfold ai_C
  simp only [if_pos, hc, hp]
  rw [if_pos hlen]
theorem rn_cN {n b : Nat} {zz : ai_Mi} {As rest : List Value} {v : Option Value} {w' : ai_W} (hd : decode z.2.1 pc = .ok (.invokespecial idx, 3)) (hne : ai_mlk z.1.cls idx ≠ some Lib.objectInit) (hc0 : ai_cI z.1.cls idx = none) (hc : ai_cN z.1.cls idx = some (zz.1, n, zz.2)) (hp : ai_popV n st = some (b, As, rest)) (hlen : (lg_sl (.ref b :: As)).length ≤ zz.2.2.1) (hE : Ev o d zz (.ref b :: As) w v w') : Rn o (d + 1) z pc L st w r = Rn o (d + 1) z (pc + 3) L (v.toList ++ rest) w' r := by
  refine rn_C (zz := zz) hd ⟨rfl, rfl, rfl, by simp [ai_M, hne], rfl⟩ ?_ hE
  unfold ai_C
  simp only [if_pos, hc0, hc, hp]
  rw [if_pos hlen]
end RULES
end
section
section EQC
variable {o : ai_S} {d : Nat} {st : List Value} {w : ai_W} {r : Option Value × ai_W} {x y : Int32} {xl yl : Int64} {i j k n sl : Nat} {κ : Nat → Nat × Nat} {rf : Nat → Nat → Option Nat} {m : Nat → Nat → Int32} {lg : Nat → Nat → Int64} {a0 a1 a2 a3 a4 a5 a6 a7 a8 a9 a10 a11 a12 : Value}
def zX5_init : ai_Mi := (yX5_init, cX5_init, 1, none)
theorem ev_X5_init  {v : Option Value} {w' : ai_W} : Ev o d zX5_init [.ref i] w v w' = Rn o d zX5_init 0 [.ref i] [] w (v, w') := rfl
theorem e_X5_init_0 : Rn o d zX5_init 0 [.ref i] (st) w r = Rn o d zX5_init 1 [.ref i] (.ref i :: st) w r := rn_A (len := 1) dX5_init_0 rfl
theorem e_X5_init_1 {s0 : Nat} : Rn o (d + 1) zX5_init 1 [a0] ([.ref s0]) w r = Rn o (d + 1) zX5_init 4 [a0] ([]) w r := rn_objInit dX5_init_1 ml_RX5_3 oi_1 oi_2 (Nat.le_of_ble_eq_true rfl)
theorem e_X5_init_4 : Rn o d zX5_init 4 [.ref i] (st) w r = Rn o d zX5_init 5 [.ref i] (.ref i :: st) w r := rn_A (len := 1) dX5_init_4 rfl
theorem e_X5_init_5 : Rn o d zX5_init 5 [a0] (st) w r = Rn o d zX5_init 7 [a0] (.int (nI 48) :: st) w r := rn_int (len := 2) dX5_init_5 rfl (by decide)
theorem e_X5_init_7 {n9 s9 : Nat} (e1 : n + 1 = n9) (e2 : sl + j = s9) (hj : j ≤ 1000) (hn : n < 1000000) : Rn o d zX5_init 7 [a0] (.int (nI j) :: st) (n, sl, κ, rf, m, lg) r = Rn o d zX5_init 9 [a0] (.ref n :: st) (n9, s9, va_up κ n (0, j), va_up rf n (fun _ => none), va_up m n (fun _ => 0), va_up lg n (fun _ => 0)) r := by subst e1 e2; exact rg_newI dX5_init_7 ac_0 hj hn
theorem e_X5_init_9 (hi : i < n ∧ j < n ∧ (κ i).1 = 5 + 3) : Rn o d zX5_init 9 [a0] (.ref j :: .ref i :: st) (n, sl, κ, rf, m, lg) r = Rn o d zX5_init 12 [a0] (st) (n, sl, κ, ai_upR rf i 0 (some j), m, lg) r := rg_putR dX5_init_9 fl_RX5_9 rfl (by decide +kernel) hi
theorem e_X5_init_12 : Rn o d zX5_init 12 [.ref i] (st) w r = Rn o d zX5_init 13 [.ref i] (.ref i :: st) w r := rn_A (len := 1) dX5_init_12 rfl
theorem e_X5_init_13 : Rn o d zX5_init 13 [a0] (st) w r = Rn o d zX5_init 14 [a0] (.int (nI 0) :: st) w r := rn_int (len := 1) dX5_init_13 rfl (by decide)
theorem e_X5_init_14 (hi : i < n ∧ (κ i).1 = 5 + 3) : Rn o d zX5_init 14 [a0] (.int x :: .ref i :: st) (n, sl, κ, rf, m, lg) r = Rn o d zX5_init 17 [a0] (st) (n, sl, κ, rf, (ai_up m i 1 x), lg) r := rg_putI dX5_init_14 fl_RX5_15 rfl (by decide +kernel) hi
theorem e_X5_init_17 : Rn o d zX5_init 17 [a0] [] w r = ((none, w) = r) := rn_R dX5_init_17 rfl
def zX6_init : ai_Mi := (yX6_init, cX6_init, 1, none)
theorem ev_X6_init  {v : Option Value} {w' : ai_W} : Ev o d zX6_init [.ref i] w v w' = Rn o d zX6_init 0 [.ref i] [] w (v, w') := rfl
theorem e_X6_init_0 : Rn o d zX6_init 0 [.ref i] (st) w r = Rn o d zX6_init 1 [.ref i] (.ref i :: st) w r := rn_A (len := 1) dX6_init_0 rfl
theorem e_X6_init_1 {s0 : Nat} : Rn o (d + 1) zX6_init 1 [a0] ([.ref s0]) w r = Rn o (d + 1) zX6_init 4 [a0] ([]) w r := rn_objInit dX6_init_1 ml_RX6_3 oi_1 oi_2 (Nat.le_of_ble_eq_true rfl)
theorem e_X6_init_4 : Rn o d zX6_init 4 [.ref i] (st) w r = Rn o d zX6_init 5 [.ref i] (.ref i :: st) w r := rn_A (len := 1) dX6_init_4 rfl
theorem e_X6_init_5 : Rn o d zX6_init 5 [a0] (st) w r = Rn o d zX6_init 6 [a0] (.int (nI 4) :: st) w r := rn_int (len := 1) dX6_init_5 rfl (by decide)
theorem e_X6_init_6 {n9 s9 : Nat} (e1 : n + 1 = n9) (e2 : sl + j = s9) (hj : j ≤ 1000) (hn : n < 1000000) : Rn o d zX6_init 6 [a0] (.int (nI j) :: st) (n, sl, κ, rf, m, lg) r = Rn o d zX6_init 8 [a0] (.ref n :: st) (n9, s9, va_up κ n (0, j), va_up rf n (fun _ => none), va_up m n (fun _ => 0), va_up lg n (fun _ => 0)) r := by subst e1 e2; exact rg_newI dX6_init_6 ac_0 hj hn
theorem e_X6_init_8 (hi : i < n ∧ j < n ∧ (κ i).1 = 6 + 3) : Rn o d zX6_init 8 [a0] (.ref j :: .ref i :: st) (n, sl, κ, rf, m, lg) r = Rn o d zX6_init 11 [a0] (st) (n, sl, κ, ai_upR rf i 0 (some j), m, lg) r := rg_putR dX6_init_8 fl_RX6_9 rfl (by decide +kernel) hi
theorem e_X6_init_11 : Rn o d zX6_init 11 [.ref i] (st) w r = Rn o d zX6_init 12 [.ref i] (.ref i :: st) w r := rn_A (len := 1) dX6_init_11 rfl
theorem e_X6_init_12 : Rn o d zX6_init 12 [a0] (st) w r = Rn o d zX6_init 13 [a0] (.int (nI 4) :: st) w r := rn_int (len := 1) dX6_init_12 rfl (by decide)
theorem e_X6_init_13 {n9 s9 : Nat} (e1 : n + 1 = n9) (e2 : sl + j = s9) (hj : j ≤ 1000) (hn : n < 1000000) : Rn o d zX6_init 13 [a0] (.int (nI j) :: st) (n, sl, κ, rf, m, lg) r = Rn o d zX6_init 15 [a0] (.ref n :: st) (n9, s9, va_up κ n (0, j), va_up rf n (fun _ => none), va_up m n (fun _ => 0), va_up lg n (fun _ => 0)) r := by subst e1 e2; exact rg_newI dX6_init_13 ac_0 hj hn
theorem e_X6_init_15 (hi : i < n ∧ j < n ∧ (κ i).1 = 6 + 3) : Rn o d zX6_init 15 [a0] (.ref j :: .ref i :: st) (n, sl, κ, rf, m, lg) r = Rn o d zX6_init 18 [a0] (st) (n, sl, κ, ai_upR rf i 1 (some j), m, lg) r := rg_putR dX6_init_15 fl_RX6_15 rfl (by decide +kernel) hi
theorem e_X6_init_18 : Rn o d zX6_init 18 [.ref i] (st) w r = Rn o d zX6_init 19 [.ref i] (.ref i :: st) w r := rn_A (len := 1) dX6_init_18 rfl
theorem e_X6_init_19 : Rn o d zX6_init 19 [a0] (st) w r = Rn o d zX6_init 20 [a0] (.int (nI 4) :: st) w r := rn_int (len := 1) dX6_init_19 rfl (by decide)
theorem e_X6_init_20 {n9 s9 : Nat} (e1 : n + 1 = n9) (e2 : sl + j = s9) (hj : j ≤ 1000) (hn : n < 1000000) : Rn o d zX6_init 20 [a0] (.int (nI j) :: st) (n, sl, κ, rf, m, lg) r = Rn o d zX6_init 22 [a0] (.ref n :: st) (n9, s9, va_up κ n (0, j), va_up rf n (fun _ => none), va_up m n (fun _ => 0), va_up lg n (fun _ => 0)) r := by subst e1 e2; exact rg_newI dX6_init_20 ac_0 hj hn
theorem e_X6_init_22 (hi : i < n ∧ j < n ∧ (κ i).1 = 6 + 3) : Rn o d zX6_init 22 [a0] (.ref j :: .ref i :: st) (n, sl, κ, rf, m, lg) r = Rn o d zX6_init 25 [a0] (st) (n, sl, κ, ai_upR rf i 2 (some j), m, lg) r := rg_putR dX6_init_22 fl_RX6_18 rfl (by decide +kernel) hi
theorem e_X6_init_25 : Rn o d zX6_init 25 [.ref i] (st) w r = Rn o d zX6_init 26 [.ref i] (.ref i :: st) w r := rn_A (len := 1) dX6_init_25 rfl
theorem e_X6_init_26 : Rn o d zX6_init 26 [a0] (st) w r = Rn o d zX6_init 27 [a0] (.int (nI 5) :: st) w r := rn_int (len := 1) dX6_init_26 rfl (by decide)
theorem e_X6_init_27 {n9 s9 : Nat} (e1 : n + 1 = n9) (e2 : sl + j = s9) (hj : j ≤ 1000) (hn : n < 1000000) : Rn o d zX6_init 27 [a0] (.int (nI j) :: st) (n, sl, κ, rf, m, lg) r = Rn o d zX6_init 29 [a0] (.ref n :: st) (n9, s9, va_up κ n (0, j), va_up rf n (fun _ => none), va_up m n (fun _ => 0), va_up lg n (fun _ => 0)) r := by subst e1 e2; exact rg_newI dX6_init_27 ac_0 hj hn
theorem e_X6_init_29 (hi : i < n ∧ j < n ∧ (κ i).1 = 6 + 3) : Rn o d zX6_init 29 [a0] (.ref j :: .ref i :: st) (n, sl, κ, rf, m, lg) r = Rn o d zX6_init 32 [a0] (st) (n, sl, κ, ai_upR rf i 3 (some j), m, lg) r := rg_putR dX6_init_29 fl_RX6_21 rfl (by decide +kernel) hi
theorem e_X6_init_32 : Rn o d zX6_init 32 [.ref i] (st) w r = Rn o d zX6_init 33 [.ref i] (.ref i :: st) w r := rn_A (len := 1) dX6_init_32 rfl
theorem e_X6_init_33 : Rn o d zX6_init 33 [a0] (st) w r = Rn o d zX6_init 34 [a0] (.int (nI 5) :: st) w r := rn_int (len := 1) dX6_init_33 rfl (by decide)
theorem e_X6_init_34 {n9 s9 : Nat} (e1 : n + 1 = n9) (e2 : sl + j = s9) (hj : j ≤ 1000) (hn : n < 1000000) : Rn o d zX6_init 34 [a0] (.int (nI j) :: st) (n, sl, κ, rf, m, lg) r = Rn o d zX6_init 36 [a0] (.ref n :: st) (n9, s9, va_up κ n (0, j), va_up rf n (fun _ => none), va_up m n (fun _ => 0), va_up lg n (fun _ => 0)) r := by subst e1 e2; exact rg_newI dX6_init_34 ac_0 hj hn
theorem e_X6_init_36 (hi : i < n ∧ j < n ∧ (κ i).1 = 6 + 3) : Rn o d zX6_init 36 [a0] (.ref j :: .ref i :: st) (n, sl, κ, rf, m, lg) r = Rn o d zX6_init 39 [a0] (st) (n, sl, κ, ai_upR rf i 4 (some j), m, lg) r := rg_putR dX6_init_36 fl_RX6_24 rfl (by decide +kernel) hi
theorem e_X6_init_39 : Rn o d zX6_init 39 [.ref i] (st) w r = Rn o d zX6_init 40 [.ref i] (.ref i :: st) w r := rn_A (len := 1) dX6_init_39 rfl
theorem e_X6_init_40 : Rn o d zX6_init 40 [a0] (st) w r = Rn o d zX6_init 41 [a0] (.int (nI 0) :: st) w r := rn_int (len := 1) dX6_init_40 rfl (by decide)
theorem e_X6_init_41 (hi : i < n ∧ (κ i).1 = 6 + 3) : Rn o d zX6_init 41 [a0] (.int x :: .ref i :: st) (n, sl, κ, rf, m, lg) r = Rn o d zX6_init 44 [a0] (st) (n, sl, κ, rf, (ai_up m i 5 x), lg) r := rg_putI dX6_init_41 fl_RX6_27 rfl (by decide +kernel) hi
theorem e_X6_init_44 : Rn o d zX6_init 44 [.ref i] (st) w r = Rn o d zX6_init 45 [.ref i] (.ref i :: st) w r := rn_A (len := 1) dX6_init_44 rfl
theorem e_X6_init_45 : Rn o d zX6_init 45 [a0] (st) w r = Rn o d zX6_init 46 [a0] (.int (nI 0) :: st) w r := rn_int (len := 1) dX6_init_45 rfl (by decide)
theorem e_X6_init_46 (hi : i < n ∧ (κ i).1 = 6 + 3) : Rn o d zX6_init 46 [a0] (.int x :: .ref i :: st) (n, sl, κ, rf, m, lg) r = Rn o d zX6_init 49 [a0] (st) (n, sl, κ, rf, (ai_up m i 6 x), lg) r := rg_putI dX6_init_46 fl_RX6_31 rfl (by decide +kernel) hi
theorem e_X6_init_49 : Rn o d zX6_init 49 [.ref i] (st) w r = Rn o d zX6_init 50 [.ref i] (.ref i :: st) w r := rn_A (len := 1) dX6_init_49 rfl
theorem e_X6_init_50 : Rn o d zX6_init 50 [a0] (st) w r = Rn o d zX6_init 51 [a0] (.int (nI 0) :: st) w r := rn_int (len := 1) dX6_init_50 rfl (by decide)
theorem e_X6_init_51 (hi : i < n ∧ (κ i).1 = 6 + 3) : Rn o d zX6_init 51 [a0] (.int x :: .ref i :: st) (n, sl, κ, rf, m, lg) r = Rn o d zX6_init 54 [a0] (st) (n, sl, κ, rf, (ai_up m i 7 x), lg) r := rg_putI dX6_init_51 fl_RX6_34 rfl (by decide +kernel) hi
theorem e_X6_init_54 : Rn o d zX6_init 54 [.ref i] (st) w r = Rn o d zX6_init 55 [.ref i] (.ref i :: st) w r := rn_A (len := 1) dX6_init_54 rfl
theorem e_X6_init_55 : Rn o d zX6_init 55 [a0] (st) w r = Rn o d zX6_init 56 [a0] (.int (nI 0) :: st) w r := rn_int (len := 1) dX6_init_55 rfl (by decide)
theorem e_X6_init_56 (hi : i < n ∧ (κ i).1 = 6 + 3) : Rn o d zX6_init 56 [a0] (.int x :: .ref i :: st) (n, sl, κ, rf, m, lg) r = Rn o d zX6_init 59 [a0] (st) (n, sl, κ, rf, (ai_up m i 8 x), lg) r := rg_putI dX6_init_56 fl_RX6_37 rfl (by decide +kernel) hi
theorem e_X6_init_59 : Rn o d zX6_init 59 [.ref i] (st) w r = Rn o d zX6_init 60 [.ref i] (.ref i :: st) w r := rn_A (len := 1) dX6_init_59 rfl
theorem e_X6_init_60 : Rn o d zX6_init 60 [a0] (st) w r = Rn o d zX6_init 62 [a0] (.int (-9) :: st) w r := rn_int (len := 2) dX6_init_60 rfl (by decide)
theorem e_X6_init_62 (hi : i < n ∧ (κ i).1 = 6 + 3) : Rn o d zX6_init 62 [a0] (.int x :: .ref i :: st) (n, sl, κ, rf, m, lg) r = Rn o d zX6_init 65 [a0] (st) (n, sl, κ, rf, (ai_up m i 9 x), lg) r := rg_putI dX6_init_62 fl_RX6_40 rfl (by decide +kernel) hi
theorem e_X6_init_65 : Rn o d zX6_init 65 [a0] [] w r = ((none, w) = r) := rn_R dX6_init_65 rfl
def zX2_init : ai_Mi := (yX2_init, cX2_init, 2, none)
theorem ev_X2_init {s0 : Nat} {v : Option Value} {w' : ai_W} : Ev o d zX2_init [.ref i, .ref s0] w v w' = Rn o d zX2_init 0 [.ref i, .ref s0] [] w (v, w') := rfl
theorem e_X2_init_0 : Rn o d zX2_init 0 [.ref i, a1] (st) w r = Rn o d zX2_init 1 [.ref i, a1] (.ref i :: st) w r := rn_A (len := 1) dX2_init_0 rfl
theorem e_X2_init_1 {s0 : Nat} : Rn o (d + 1) zX2_init 1 [a0, a1] ([.ref s0]) w r = Rn o (d + 1) zX2_init 4 [a0, a1] ([]) w r := rn_objInit dX2_init_1 ml_RX2_3 oi_1 oi_2 (Nat.le_of_ble_eq_true rfl)
theorem e_X2_init_4 : Rn o d zX2_init 4 [.ref i, a1] (st) w r = Rn o d zX2_init 5 [.ref i, a1] (.ref i :: st) w r := rn_A (len := 1) dX2_init_4 rfl
theorem e_X2_init_5 : Rn o d zX2_init 5 [a0, a1] (st) w r = Rn o d zX2_init 6 [a0, a1] (.int (nI 5) :: st) w r := rn_int (len := 1) dX2_init_5 rfl (by decide)
theorem e_X2_init_6 {n9 s9 : Nat} (e1 : n + 1 = n9) (e2 : sl + j = s9) (hj : j ≤ 1000) (hn : n < 1000000) : Rn o d zX2_init 6 [a0, a1] (.int (nI j) :: st) (n, sl, κ, rf, m, lg) r = Rn o d zX2_init 8 [a0, a1] (.ref n :: st) (n9, s9, va_up κ n (0, j), va_up rf n (fun _ => none), va_up m n (fun _ => 0), va_up lg n (fun _ => 0)) r := by subst e1 e2; exact rg_newI dX2_init_6 ac_0 hj hn
theorem e_X2_init_8 (hi : i < n ∧ j < n ∧ (κ i).1 = 2 + 3) : Rn o d zX2_init 8 [a0, a1] (.ref j :: .ref i :: st) (n, sl, κ, rf, m, lg) r = Rn o d zX2_init 11 [a0, a1] (st) (n, sl, κ, ai_upR rf i 1 (some j), m, lg) r := rg_putR dX2_init_8 fl_RX2_9 rfl (by decide +kernel) hi
theorem e_X2_init_11 : Rn o d zX2_init 11 [.ref i, a1] (st) w r = Rn o d zX2_init 12 [.ref i, a1] (.ref i :: st) w r := rn_A (len := 1) dX2_init_11 rfl
theorem e_X2_init_12 : Rn o d zX2_init 12 [a0, a1] (st) w r = Rn o d zX2_init 13 [a0, a1] (.int (nI 5) :: st) w r := rn_int (len := 1) dX2_init_12 rfl (by decide)
theorem e_X2_init_13 {n9 s9 : Nat} (e1 : n + 1 = n9) (e2 : sl + j = s9) (hj : j ≤ 1000) (hn : n < 1000000) : Rn o d zX2_init 13 [a0, a1] (.int (nI j) :: st) (n, sl, κ, rf, m, lg) r = Rn o d zX2_init 15 [a0, a1] (.ref n :: st) (n9, s9, va_up κ n (0, j), va_up rf n (fun _ => none), va_up m n (fun _ => 0), va_up lg n (fun _ => 0)) r := by subst e1 e2; exact rg_newI dX2_init_13 ac_0 hj hn
theorem e_X2_init_15 (hi : i < n ∧ j < n ∧ (κ i).1 = 2 + 3) : Rn o d zX2_init 15 [a0, a1] (.ref j :: .ref i :: st) (n, sl, κ, rf, m, lg) r = Rn o d zX2_init 18 [a0, a1] (st) (n, sl, κ, ai_upR rf i 2 (some j), m, lg) r := rg_putR dX2_init_15 fl_RX2_15 rfl (by decide +kernel) hi
theorem e_X2_init_18 : Rn o d zX2_init 18 [.ref i, a1] (st) w r = Rn o d zX2_init 19 [.ref i, a1] (.ref i :: st) w r := rn_A (len := 1) dX2_init_18 rfl
theorem e_X2_init_19 : Rn o d zX2_init 19 [a0, a1] (st) w r = Rn o d zX2_init 20 [a0, a1] (.int (nI 5) :: st) w r := rn_int (len := 1) dX2_init_19 rfl (by decide)
theorem e_X2_init_20 {n9 s9 : Nat} (e1 : n + 1 = n9) (e2 : sl + j = s9) (hj : j ≤ 1000) (hn : n < 1000000) : Rn o d zX2_init 20 [a0, a1] (.int (nI j) :: st) (n, sl, κ, rf, m, lg) r = Rn o d zX2_init 22 [a0, a1] (.ref n :: st) (n9, s9, va_up κ n (0, j), va_up rf n (fun _ => none), va_up m n (fun _ => 0), va_up lg n (fun _ => 0)) r := by subst e1 e2; exact rg_newI dX2_init_20 ac_0 hj hn
theorem e_X2_init_22 (hi : i < n ∧ j < n ∧ (κ i).1 = 2 + 3) : Rn o d zX2_init 22 [a0, a1] (.ref j :: .ref i :: st) (n, sl, κ, rf, m, lg) r = Rn o d zX2_init 25 [a0, a1] (st) (n, sl, κ, ai_upR rf i 3 (some j), m, lg) r := rg_putR dX2_init_22 fl_RX2_18 rfl (by decide +kernel) hi
theorem e_X2_init_25 : Rn o d zX2_init 25 [.ref i, a1] (st) w r = Rn o d zX2_init 26 [.ref i, a1] (.ref i :: st) w r := rn_A (len := 1) dX2_init_25 rfl
theorem e_X2_init_26 : Rn o d zX2_init 26 [a0, a1] (st) w r = Rn o d zX2_init 27 [a0, a1] (.int (nI 4) :: st) w r := rn_int (len := 1) dX2_init_26 rfl (by decide)
theorem e_X2_init_27 {n9 s9 : Nat} (e1 : n + 1 = n9) (e2 : sl + j = s9) (hj : j ≤ 1000) (hn : n < 1000000) : Rn o d zX2_init 27 [a0, a1] (.int (nI j) :: st) (n, sl, κ, rf, m, lg) r = Rn o d zX2_init 29 [a0, a1] (.ref n :: st) (n9, s9, va_up κ n (0, j), va_up rf n (fun _ => none), va_up m n (fun _ => 0), va_up lg n (fun _ => 0)) r := by subst e1 e2; exact rg_newI dX2_init_27 ac_0 hj hn
theorem e_X2_init_29 (hi : i < n ∧ j < n ∧ (κ i).1 = 2 + 3) : Rn o d zX2_init 29 [a0, a1] (.ref j :: .ref i :: st) (n, sl, κ, rf, m, lg) r = Rn o d zX2_init 32 [a0, a1] (st) (n, sl, κ, ai_upR rf i 4 (some j), m, lg) r := rg_putR dX2_init_29 fl_RX2_21 rfl (by decide +kernel) hi
theorem e_X2_init_32 : Rn o d zX2_init 32 [.ref i, a1] (st) w r = Rn o d zX2_init 33 [.ref i, a1] (.ref i :: st) w r := rn_A (len := 1) dX2_init_32 rfl
theorem e_X2_init_33 : Rn o d zX2_init 33 [a0, a1] (st) w r = Rn o d zX2_init 34 [a0, a1] (.int (nI 4) :: st) w r := rn_int (len := 1) dX2_init_33 rfl (by decide)
theorem e_X2_init_34 {n9 s9 : Nat} (e1 : n + 1 = n9) (e2 : sl + j = s9) (hj : j ≤ 1000) (hn : n < 1000000) : Rn o d zX2_init 34 [a0, a1] (.int (nI j) :: st) (n, sl, κ, rf, m, lg) r = Rn o d zX2_init 36 [a0, a1] (.ref n :: st) (n9, s9, va_up κ n (0, j), va_up rf n (fun _ => none), va_up m n (fun _ => 0), va_up lg n (fun _ => 0)) r := by subst e1 e2; exact rg_newI dX2_init_34 ac_0 hj hn
theorem e_X2_init_36 (hi : i < n ∧ j < n ∧ (κ i).1 = 2 + 3) : Rn o d zX2_init 36 [a0, a1] (.ref j :: .ref i :: st) (n, sl, κ, rf, m, lg) r = Rn o d zX2_init 39 [a0, a1] (st) (n, sl, κ, ai_upR rf i 5 (some j), m, lg) r := rg_putR dX2_init_36 fl_RX2_24 rfl (by decide +kernel) hi
theorem e_X2_init_39 : Rn o d zX2_init 39 [.ref i, a1] (st) w r = Rn o d zX2_init 40 [.ref i, a1] (.ref i :: st) w r := rn_A (len := 1) dX2_init_39 rfl
theorem e_X2_init_40 : Rn o d zX2_init 40 [a0, a1] (st) w r = Rn o d zX2_init 41 [a0, a1] (.int (nI 0) :: st) w r := rn_int (len := 1) dX2_init_40 rfl (by decide)
theorem e_X2_init_41 (hi : i < n ∧ (κ i).1 = 2 + 3) : Rn o d zX2_init 41 [a0, a1] (.int x :: .ref i :: st) (n, sl, κ, rf, m, lg) r = Rn o d zX2_init 44 [a0, a1] (st) (n, sl, κ, rf, (ai_up m i 6 x), lg) r := rg_putI dX2_init_41 fl_RX2_27 rfl (by decide +kernel) hi
theorem e_X2_init_44 : Rn o d zX2_init 44 [.ref i, a1] (st) w r = Rn o d zX2_init 45 [.ref i, a1] (.ref i :: st) w r := rn_A (len := 1) dX2_init_44 rfl
theorem e_X2_init_45 : Rn o d zX2_init 45 [a0, .ref i] (st) w r = Rn o d zX2_init 46 [a0, .ref i] (.ref i :: st) w r := rn_A (len := 1) dX2_init_45 rfl
theorem e_X2_init_46 (hi : i < n ∧ j < n ∧ (κ i).1 = 2 + 3) : Rn o d zX2_init 46 [a0, a1] (.ref j :: .ref i :: st) (n, sl, κ, rf, m, lg) r = Rn o d zX2_init 49 [a0, a1] (st) (n, sl, κ, ai_upR rf i 0 (some j), m, lg) r := rg_putR dX2_init_46 fl_RX2_31 rfl (by decide +kernel) hi
theorem e_X2_init_49 : Rn o d zX2_init 49 [a0, a1] [] w r = ((none, w) = r) := rn_R dX2_init_49 rfl
def zX4_init : ai_Mi := (yX4_init, cX4_init, 1, none)
theorem ev_X4_init  {v : Option Value} {w' : ai_W} : Ev o d zX4_init [.ref i] w v w' = Rn o d zX4_init 0 [.ref i] [] w (v, w') := rfl
theorem e_X4_init_0 : Rn o d zX4_init 0 [.ref i] (st) w r = Rn o d zX4_init 1 [.ref i] (.ref i :: st) w r := rn_A (len := 1) dX4_init_0 rfl
theorem e_X4_init_1 {s0 : Nat} : Rn o (d + 1) zX4_init 1 [a0] ([.ref s0]) w r = Rn o (d + 1) zX4_init 4 [a0] ([]) w r := rn_objInit dX4_init_1 ml_RX4_3 oi_1 oi_2 (Nat.le_of_ble_eq_true rfl)
theorem e_X4_init_4 : Rn o d zX4_init 4 [.ref i] (st) w r = Rn o d zX4_init 5 [.ref i] (.ref i :: st) w r := rn_A (len := 1) dX4_init_4 rfl
theorem e_X4_init_5 : Rn o d zX4_init 5 [a0] (st) w r = Rn o d zX4_init 7 [a0] (.int (nI 6) :: st) w r := rn_int (len := 2) dX4_init_5 rfl (by decide)
theorem e_X4_init_7 {n9 s9 : Nat} (e1 : n + 1 = n9) (e2 : sl + j = s9) (hj : j ≤ 1000) (hn : n < 1000000) : Rn o d zX4_init 7 [a0] (.int (nI j) :: st) (n, sl, κ, rf, m, lg) r = Rn o d zX4_init 9 [a0] (.ref n :: st) (n9, s9, va_up κ n (0, j), va_up rf n (fun _ => none), va_up m n (fun _ => 0), va_up lg n (fun _ => 0)) r := by subst e1 e2; exact rg_newI dX4_init_7 ac_0 hj hn
theorem e_X4_init_9 (hi : i < n ∧ j < n ∧ (κ i).1 = 4 + 3) : Rn o d zX4_init 9 [a0] (.ref j :: .ref i :: st) (n, sl, κ, rf, m, lg) r = Rn o d zX4_init 12 [a0] (st) (n, sl, κ, ai_upR rf i 0 (some j), m, lg) r := rg_putR dX4_init_9 fl_RX4_9 rfl (by decide +kernel) hi
theorem e_X4_init_12 : Rn o d zX4_init 12 [.ref i] (st) w r = Rn o d zX4_init 13 [.ref i] (.ref i :: st) w r := rn_A (len := 1) dX4_init_12 rfl
theorem e_X4_init_13 : Rn o d zX4_init 13 [a0] (st) w r = Rn o d zX4_init 15 [a0] (.int (nI 6) :: st) w r := rn_int (len := 2) dX4_init_13 rfl (by decide)
theorem e_X4_init_15 {n9 s9 : Nat} (e1 : n + 1 = n9) (e2 : sl + j = s9) (hj : j ≤ 1000) (hn : n < 1000000) : Rn o d zX4_init 15 [a0] (.int (nI j) :: st) (n, sl, κ, rf, m, lg) r = Rn o d zX4_init 17 [a0] (.ref n :: st) (n9, s9, va_up κ n (0, j), va_up rf n (fun _ => none), va_up m n (fun _ => 0), va_up lg n (fun _ => 0)) r := by subst e1 e2; exact rg_newI dX4_init_15 ac_0 hj hn
theorem e_X4_init_17 (hi : i < n ∧ j < n ∧ (κ i).1 = 4 + 3) : Rn o d zX4_init 17 [a0] (.ref j :: .ref i :: st) (n, sl, κ, rf, m, lg) r = Rn o d zX4_init 20 [a0] (st) (n, sl, κ, ai_upR rf i 1 (some j), m, lg) r := rg_putR dX4_init_17 fl_RX4_15 rfl (by decide +kernel) hi
theorem e_X4_init_20 : Rn o d zX4_init 20 [.ref i] (st) w r = Rn o d zX4_init 21 [.ref i] (.ref i :: st) w r := rn_A (len := 1) dX4_init_20 rfl
theorem e_X4_init_21 : Rn o d zX4_init 21 [a0] (st) w r = Rn o d zX4_init 23 [a0] (.int (nI 6) :: st) w r := rn_int (len := 2) dX4_init_21 rfl (by decide)
theorem e_X4_init_23 {n9 s9 : Nat} (e1 : n + 1 = n9) (e2 : sl + j = s9) (hj : j ≤ 1000) (hn : n < 1000000) : Rn o d zX4_init 23 [a0] (.int (nI j) :: st) (n, sl, κ, rf, m, lg) r = Rn o d zX4_init 25 [a0] (.ref n :: st) (n9, s9, va_up κ n (1, j), va_up rf n (fun _ => none), va_up m n (fun _ => 0), va_up lg n (fun _ => 0)) r := by subst e1 e2; exact rg_newZ dX4_init_23 ac_1 hj hn
theorem e_X4_init_25 (hi : i < n ∧ j < n ∧ (κ i).1 = 4 + 3) : Rn o d zX4_init 25 [a0] (.ref j :: .ref i :: st) (n, sl, κ, rf, m, lg) r = Rn o d zX4_init 28 [a0] (st) (n, sl, κ, ai_upR rf i 2 (some j), m, lg) r := rg_putR dX4_init_25 fl_RX4_18 rfl (by decide +kernel) hi
theorem e_X4_init_28 : Rn o d zX4_init 28 [.ref i] (st) w r = Rn o d zX4_init 29 [.ref i] (.ref i :: st) w r := rn_A (len := 1) dX4_init_28 rfl
theorem e_X4_init_29 : Rn o d zX4_init 29 [a0] (st) w r = Rn o d zX4_init 30 [a0] (.int (nI 0) :: st) w r := rn_int (len := 1) dX4_init_29 rfl (by decide)
theorem e_X4_init_30 (hi : i < n ∧ (κ i).1 = 4 + 3) : Rn o d zX4_init 30 [a0] (.int x :: .ref i :: st) (n, sl, κ, rf, m, lg) r = Rn o d zX4_init 33 [a0] (st) (n, sl, κ, rf, (ai_up m i 3 x), lg) r := rg_putI dX4_init_30 fl_RX4_22 rfl (by decide +kernel) hi
theorem e_X4_init_33 : Rn o d zX4_init 33 [a0] [] w r = ((none, w) = r) := rn_R dX4_init_33 rfl
def zX3_init : ai_Mi := (yX3_init, cX3_init, 3, none)
theorem ev_X3_init {s0 : Nat} {s1 : Nat} {v : Option Value} {w' : ai_W} : Ev o d zX3_init [.ref i, .ref s0, .ref s1] w v w' = Rn o d zX3_init 0 [.ref i, .ref s0, .ref s1] [] w (v, w') := rfl
theorem e_X3_init_0 : Rn o d zX3_init 0 [.ref i, a1, a2] (st) w r = Rn o d zX3_init 1 [.ref i, a1, a2] (.ref i :: st) w r := rn_A (len := 1) dX3_init_0 rfl
theorem e_X3_init_1 {s0 : Nat} : Rn o (d + 1) zX3_init 1 [a0, a1, a2] ([.ref s0]) w r = Rn o (d + 1) zX3_init 4 [a0, a1, a2] ([]) w r := rn_objInit dX3_init_1 ml_RX3_3 oi_1 oi_2 (Nat.le_of_ble_eq_true rfl)
theorem e_X3_init_4 : Rn o d zX3_init 4 [.ref i, a1, a2] (st) w r = Rn o d zX3_init 5 [.ref i, a1, a2] (.ref i :: st) w r := rn_A (len := 1) dX3_init_4 rfl
theorem e_X3_init_5 : Rn o d zX3_init 5 [a0, a1, a2] (st) w r = Rn o d zX3_init 6 [a0, a1, a2] (.int (nI 0) :: st) w r := rn_int (len := 1) dX3_init_5 rfl (by decide)
theorem e_X3_init_6 (hi : i < n ∧ (κ i).1 = 3 + 3) : Rn o d zX3_init 6 [a0, a1, a2] (.int x :: .ref i :: st) (n, sl, κ, rf, m, lg) r = Rn o d zX3_init 9 [a0, a1, a2] (st) (n, sl, κ, rf, (ai_up m i 2 x), lg) r := rg_putI dX3_init_6 fl_RX3_9 rfl (by decide +kernel) hi
theorem e_X3_init_9 : Rn o d zX3_init 9 [.ref i, a1, a2] (st) w r = Rn o d zX3_init 10 [.ref i, a1, a2] (.ref i :: st) w r := rn_A (len := 1) dX3_init_9 rfl
theorem e_X3_init_10 : Rn o d zX3_init 10 [a0, a1, a2] (st) w r = Rn o d zX3_init 11 [a0, a1, a2] (.int (nI 0) :: st) w r := rn_int (len := 1) dX3_init_10 rfl (by decide)
theorem e_X3_init_11 (hi : i < n ∧ (κ i).1 = 3 + 3) : Rn o d zX3_init 11 [a0, a1, a2] (.int x :: .ref i :: st) (n, sl, κ, rf, m, lg) r = Rn o d zX3_init 14 [a0, a1, a2] (st) (n, sl, κ, rf, (ai_up m i 3 x), lg) r := rg_putI dX3_init_11 fl_RX3_15 rfl (by decide +kernel) hi
theorem e_X3_init_14 : Rn o d zX3_init 14 [.ref i, a1, a2] (st) w r = Rn o d zX3_init 15 [.ref i, a1, a2] (.ref i :: st) w r := rn_A (len := 1) dX3_init_14 rfl
theorem e_X3_init_15 : Rn o d zX3_init 15 [a0, a1, a2] (st) w r = Rn o d zX3_init 16 [a0, a1, a2] (.int (nI 0) :: st) w r := rn_int (len := 1) dX3_init_15 rfl (by decide)
theorem e_X3_init_16 (hi : i < n ∧ (κ i).1 = 3 + 3) : Rn o d zX3_init 16 [a0, a1, a2] (.int x :: .ref i :: st) (n, sl, κ, rf, m, lg) r = Rn o d zX3_init 19 [a0, a1, a2] (st) (n, sl, κ, rf, (ai_up m i 4 x), lg) r := rg_putI dX3_init_16 fl_RX3_18 rfl (by decide +kernel) hi
theorem e_X3_init_19 : Rn o d zX3_init 19 [.ref i, a1, a2] (st) w r = Rn o d zX3_init 20 [.ref i, a1, a2] (.ref i :: st) w r := rn_A (len := 1) dX3_init_19 rfl
theorem e_X3_init_20 : Rn o d zX3_init 20 [a0, .ref i, a2] (st) w r = Rn o d zX3_init 21 [a0, .ref i, a2] (.ref i :: st) w r := rn_A (len := 1) dX3_init_20 rfl
theorem e_X3_init_21 (hi : i < n ∧ j < n ∧ (κ i).1 = 3 + 3) : Rn o d zX3_init 21 [a0, a1, a2] (.ref j :: .ref i :: st) (n, sl, κ, rf, m, lg) r = Rn o d zX3_init 24 [a0, a1, a2] (st) (n, sl, κ, ai_upR rf i 0 (some j), m, lg) r := rg_putR dX3_init_21 fl_RX3_21 rfl (by decide +kernel) hi
theorem e_X3_init_24 : Rn o d zX3_init 24 [.ref i, a1, a2] (st) w r = Rn o d zX3_init 25 [.ref i, a1, a2] (.ref i :: st) w r := rn_A (len := 1) dX3_init_24 rfl
theorem e_X3_init_25 : Rn o d zX3_init 25 [a0, a1, .ref i] (st) w r = Rn o d zX3_init 26 [a0, a1, .ref i] (.ref i :: st) w r := rn_A (len := 1) dX3_init_25 rfl
theorem e_X3_init_26 (hi : i < n ∧ j < n ∧ (κ i).1 = 3 + 3) : Rn o d zX3_init 26 [a0, a1, a2] (.ref j :: .ref i :: st) (n, sl, κ, rf, m, lg) r = Rn o d zX3_init 29 [a0, a1, a2] (st) (n, sl, κ, ai_upR rf i 1 (some j), m, lg) r := rg_putR dX3_init_26 fl_RX3_25 rfl (by decide +kernel) hi
theorem e_X3_init_29 : Rn o d zX3_init 29 [a0, a1, a2] [] w r = ((none, w) = r) := rn_R dX3_init_29 rfl
def zX1_init : ai_Mi := (yX1_init, cX1_init, 3, none)
theorem ev_X1_init {s0 : Nat} {s1 : Nat} {v : Option Value} {w' : ai_W} : Ev o d zX1_init [.ref i, .ref s0, .ref s1] w v w' = Rn o d zX1_init 0 [.ref i, .ref s0, .ref s1] [] w (v, w') := rfl
theorem e_X1_init_0 : Rn o d zX1_init 0 [.ref i, a1, a2] (st) w r = Rn o d zX1_init 1 [.ref i, a1, a2] (.ref i :: st) w r := rn_A (len := 1) dX1_init_0 rfl
theorem e_X1_init_1 {s0 : Nat} : Rn o (d + 1) zX1_init 1 [a0, a1, a2] ([.ref s0]) w r = Rn o (d + 1) zX1_init 4 [a0, a1, a2] ([]) w r := rn_objInit dX1_init_1 ml_RX1_3 oi_1 oi_2 (Nat.le_of_ble_eq_true rfl)
theorem e_X1_init_4 : Rn o d zX1_init 4 [.ref i, a1, a2] (st) w r = Rn o d zX1_init 5 [.ref i, a1, a2] (.ref i :: st) w r := rn_A (len := 1) dX1_init_4 rfl
theorem e_X1_init_5 : Rn o d zX1_init 5 [a0, .ref i, a2] (st) w r = Rn o d zX1_init 6 [a0, .ref i, a2] (.ref i :: st) w r := rn_A (len := 1) dX1_init_5 rfl
theorem e_X1_init_6 (hi : i < n ∧ j < n ∧ (κ i).1 = 1 + 3) : Rn o d zX1_init 6 [a0, a1, a2] (.ref j :: .ref i :: st) (n, sl, κ, rf, m, lg) r = Rn o d zX1_init 9 [a0, a1, a2] (st) (n, sl, κ, ai_upR rf i 0 (some j), m, lg) r := rg_putR dX1_init_6 fl_RX1_9 rfl (by decide +kernel) hi
theorem e_X1_init_9 : Rn o d zX1_init 9 [.ref i, a1, a2] (st) w r = Rn o d zX1_init 10 [.ref i, a1, a2] (.ref i :: st) w r := rn_A (len := 1) dX1_init_9 rfl
theorem e_X1_init_10 : Rn o d zX1_init 10 [a0, a1, .ref i] (st) w r = Rn o d zX1_init 11 [a0, a1, .ref i] (.ref i :: st) w r := rn_A (len := 1) dX1_init_10 rfl
theorem e_X1_init_11 (hi : i < n ∧ j < n ∧ (κ i).1 = 1 + 3) : Rn o d zX1_init 11 [a0, a1, a2] (.ref j :: .ref i :: st) (n, sl, κ, rf, m, lg) r = Rn o d zX1_init 14 [a0, a1, a2] (st) (n, sl, κ, ai_upR rf i 1 (some j), m, lg) r := rg_putR dX1_init_11 fl_RX1_15 rfl (by decide +kernel) hi
theorem e_X1_init_14 : Rn o d zX1_init 14 [a0, a1, a2] [] w r = ((none, w) = r) := rn_R dX1_init_14 rfl
def zX0_init : ai_Mi := (yX0_init, cX0_init, 3, none)
theorem ev_X0_init {s0 : Nat} {v : Option Value} {w' : ai_W} : Ev o d zX0_init [.ref i, .ref s0] w v w' = Rn o d zX0_init 0 [.ref i, .ref s0, .null] [] w (v, w') := rfl
theorem e_X0_init_0 : Rn o d zX0_init 0 [.ref i, a1, a2] (st) w r = Rn o d zX0_init 1 [.ref i, a1, a2] (.ref i :: st) w r := rn_A (len := 1) dX0_init_0 rfl
theorem e_X0_init_1 {s0 : Nat} : Rn o (d + 1) zX0_init 1 [a0, a1, a2] ([.ref s0]) w r = Rn o (d + 1) zX0_init 4 [a0, a1, a2] ([]) w r := rn_objInit dX0_init_1 ml_RX0_3 oi_1 oi_2 (Nat.le_of_ble_eq_true rfl)
theorem e_X0_init_4 : Rn o d zX0_init 4 [.ref i, a1, a2] (st) w r = Rn o d zX0_init 5 [.ref i, a1, a2] (.ref i :: st) w r := rn_A (len := 1) dX0_init_4 rfl
theorem e_X0_init_5 : Rn o d zX0_init 5 [a0, a1, a2] (st) w r = Rn o d zX0_init 7 [a0, a1, a2] (.int (nI 14) :: st) w r := rn_int (len := 2) dX0_init_5 rfl (by decide)
theorem e_X0_init_7 {n9 s9 : Nat} (e1 : n + 1 = n9) (e2 : sl + j = s9) (hj : j ≤ 1000) (hn : n < 1000000) : Rn o d zX0_init 7 [a0, a1, a2] (.int (nI j) :: st) (n, sl, κ, rf, m, lg) r = Rn o d zX0_init 10 [a0, a1, a2] (.ref n :: st) (n9, s9, va_up κ n (2, j), va_up rf n (fun _ => none), va_up m n (fun _ => 0), va_up lg n (fun _ => 0)) r := by subst e1 e2; exact rg_newR dX0_init_7 ck_RX0_9 hj hn
theorem e_X0_init_10 (hi : i < n ∧ j < n ∧ (κ i).1 = 0 + 3) : Rn o d zX0_init 10 [a0, a1, a2] (.ref j :: .ref i :: st) (n, sl, κ, rf, m, lg) r = Rn o d zX0_init 13 [a0, a1, a2] (st) (n, sl, κ, ai_upR rf i 0 (some j), m, lg) r := rg_putR dX0_init_10 fl_RX0_11 rfl (by decide +kernel) hi
theorem e_X0_init_13 : Rn o d zX0_init 13 [.ref i, a1, a2] (st) w r = Rn o d zX0_init 14 [.ref i, a1, a2] (.ref i :: st) w r := rn_A (len := 1) dX0_init_13 rfl
theorem e_X0_init_14 : Rn o d zX0_init 14 [a0, a1, a2] (st) w r = Rn o d zX0_init 15 [a0, a1, a2] (.int (nI 0) :: st) w r := rn_int (len := 1) dX0_init_14 rfl (by decide)
theorem e_X0_init_15 (hi : i < n ∧ (κ i).1 = 0 + 3) : Rn o d zX0_init 15 [a0, a1, a2] (.int x :: .ref i :: st) (n, sl, κ, rf, m, lg) r = Rn o d zX0_init 18 [a0, a1, a2] (st) (n, sl, κ, rf, (ai_up m i 1 x), lg) r := rg_putI dX0_init_15 fl_RX0_17 rfl (by decide +kernel) hi
theorem e_X0_init_18 : Rn o d zX0_init 18 [.ref i, a1, a2] (st) w r = Rn o d zX0_init 19 [.ref i, a1, a2] (.ref i :: st) w r := rn_A (len := 1) dX0_init_18 rfl
theorem e_X0_init_19 : Rn o d zX0_init 19 [a0, a1, a2] (st) w r = Rn o d zX0_init 20 [a0, a1, a2] (.int (nI 0) :: st) w r := rn_int (len := 1) dX0_init_19 rfl (by decide)
theorem e_X0_init_20 (hi : i < n ∧ (κ i).1 = 0 + 3) : Rn o d zX0_init 20 [a0, a1, a2] (.int x :: .ref i :: st) (n, sl, κ, rf, m, lg) r = Rn o d zX0_init 23 [a0, a1, a2] (st) (n, sl, κ, rf, (ai_up m i 2 x), lg) r := rg_putI dX0_init_20 fl_RX0_21 rfl (by decide +kernel) hi
theorem e_X0_init_23 : Rn o d zX0_init 23 [a0, a1, a2] (st) w r = Rn o d zX0_init 24 [a0, a1, a2] (.int (nI 0) :: st) w r := rn_int (len := 1) dX0_init_23 rfl (by decide)
theorem e_X0_init_24 (h2 : ai_is2 (some a1) = false) : Rn o d zX0_init 24 [a0, a1, a2] (.int x :: st) w r = Rn o d zX0_init 25 [a0, a1, .int x] (st) w r := rn_sti0 (len := 1) (i := 2) dX0_init_24 rfl (Nat.le_of_ble_eq_true rfl) (Or.inr h2)
theorem e_X0_init_25 : Rn o d zX0_init 25 [a0, a1, .int x] (st) w r = Rn o d zX0_init 26 [a0, a1, .int x] (.int x :: st) w r := rn_A (len := 1) dX0_init_25 rfl
theorem e_X0_init_26 : Rn o d zX0_init 26 [a0, a1, a2] (st) w r = Rn o d zX0_init 28 [a0, a1, a2] (.int (nI 14) :: st) w r := rn_int (len := 2) dX0_init_26 rfl (by decide)
theorem e_X0_init_28 : Rn o d zX0_init 28 [a0, a1, a2] (.int y :: .int x :: st) w r = if y ≤ x then Rn o d zX0_init 51 [a0, a1, a2] st w r else Rn o d zX0_init 31 [a0, a1, a2] st w r := rn_br (off := 23) dX0_init_28 rfl (by decide)
theorem e_X0_init_31 : Rn o d zX0_init 31 [.ref i, a1, a2] (st) w r = Rn o d zX0_init 32 [.ref i, a1, a2] (.ref i :: st) w r := rn_A (len := 1) dX0_init_31 rfl
theorem e_X0_init_32 (hi : i < n ∧ (κ i).1 = 0 + 3) (hq : rf i 0 = some j) : Rn o d zX0_init 32 [a0, a1, a2] (.ref i :: st) (n, sl, κ, rf, m, lg) r = Rn o d zX0_init 35 [a0, a1, a2] (.ref j :: st) (n, sl, κ, rf, m, lg) r := rg_getR dX0_init_32 fl_RX0_11 rfl hi hq
theorem e_X0_init_35 : Rn o d zX0_init 35 [a0, a1, .int x] (st) w r = Rn o d zX0_init 36 [a0, a1, .int x] (.int x :: st) w r := rn_A (len := 1) dX0_init_35 rfl
theorem e_X0_init_36 {n9 s9 : Nat} (e1 : n + 1 = n9) (e2 : sl + 7 = s9) (hn : n < 1000000) : Rn o d zX0_init 36 [a0, a1, a2] (st) (n, sl, κ, rf, m, lg) r = Rn o d zX0_init 39 [a0, a1, a2] (.ref n :: st) (n9, s9, va_up κ n (2 + 3, 7), va_up rf n (fun _ => none), va_up m n (fun _ => 0), va_up lg n (fun _ => 0)) r := by subst e1 e2; exact rg_new (ci := 2) (q := (RX2, TX2, 7)) dX0_init_36 cs_RX0_9 rfl hn
theorem e_X0_init_39 : Rn o d zX0_init 39 [a0, a1, a2] (.ref i :: st) w r = Rn o d zX0_init 40 [a0, a1, a2] (.ref i :: .ref i :: st) w r := rn_A (len := 1) dX0_init_39 rfl
theorem e_X0_init_40 : Rn o d zX0_init 40 [a0, .ref i, a2] (st) w r = Rn o d zX0_init 41 [a0, .ref i, a2] (.ref i :: st) w r := rn_A (len := 1) dX0_init_40 rfl
theorem e_X0_init_41 {s0 : Nat} {t0 : Nat} {t1 : Int32} {t2 : Nat} {w' : ai_W} (hE : Ev o d zX2_init [.ref i, .ref s0] w none w') : Rn o (d + 1) zX0_init 41 [a0, a1, a2] ([.ref s0, .ref i, .ref t0, .int t1, .ref t2]) w r = Rn o (d + 1) zX0_init 44 [a0, a1, a2] ([.ref t0, .int t1, .ref t2]) w' r := rn_cI (n := 1) (b := i) (v := none) (As := [.ref s0]) (rest := [.ref t0, .int t1, .ref t2]) (zz := zX2_init) dX0_init_41 mn_RX0_24 cI_RX0_24 rfl (Nat.le_of_ble_eq_true rfl) hE
theorem e_X0_init_44 (hi : i < n ∧ k < n ∧ (κ k).1 = 5 ∧ (κ i).1 = 2) (hj : j < (κ i).2) (hj2 : j < 1000) : Rn o d zX0_init 44 [a0, a1, a2] (.ref k :: .int (nI j) :: .ref i :: st) (n, sl, κ, rf, m, lg) r = Rn o d zX0_init 45 [a0, a1, a2] (st) (n, sl, κ, ai_upR rf i j (some k), m, lg) r := rg_aastore dX0_init_44 hi hj hj2
theorem e_X0_init_45 (h2 : ai_is2 (some a1) = false) : Rn o d zX0_init 45 [a0, a1, .int x] (st) w r = Rn o d zX0_init 48 [a0, a1, .int (x + (nI 1))] (st) w r := rn_iinc (i := 2) (n := 1) (c := (nI 1)) dX0_init_45 rfl (by decide) (Nat.le_of_ble_eq_true rfl) (Or.inr h2)
theorem e_X0_init_48 : Rn o d zX0_init 48 [a0, a1, a2] (st) w r = Rn o d zX0_init 25 [a0, a1, a2] (st) w r := rn_goto dX0_init_48 (by decide)
theorem e_X0_init_51 : Rn o d zX0_init 51 [a0, a1, a2] [] w r = ((none, w) = r) := rn_R dX0_init_51 rfl
def zX7_init : ai_Mi := (yX7_init, cX7_init, 2, none)
theorem ev_X7_init  {v : Option Value} {w' : ai_W} : Ev o d zX7_init [.ref i] w v w' = Rn o d zX7_init 0 [.ref i, .null] [] w (v, w') := rfl
theorem e_X7_init_0 : Rn o d zX7_init 0 [.ref i, a1] (st) w r = Rn o d zX7_init 1 [.ref i, a1] (.ref i :: st) w r := rn_A (len := 1) dX7_init_0 rfl
theorem e_X7_init_1 {s0 : Nat} : Rn o (d + 1) zX7_init 1 [a0, a1] ([.ref s0]) w r = Rn o (d + 1) zX7_init 4 [a0, a1] ([]) w r := rn_objInit dX7_init_1 ml_RX7_1 oi_1 oi_2 (Nat.le_of_ble_eq_true rfl)
theorem e_X7_init_4 : Rn o d zX7_init 4 [.ref i, a1] (st) w r = Rn o d zX7_init 5 [.ref i, a1] (.ref i :: st) w r := rn_A (len := 1) dX7_init_4 rfl
theorem e_X7_init_5 {n9 s9 : Nat} (e1 : n + 1 = n9) (e2 : sl + 2 = s9) (hn : n < 1000000) : Rn o d zX7_init 5 [a0, a1] (st) (n, sl, κ, rf, m, lg) r = Rn o d zX7_init 8 [a0, a1] (.ref n :: st) (n9, s9, va_up κ n (5 + 3, 2), va_up rf n (fun _ => none), va_up m n (fun _ => 0), va_up lg n (fun _ => 0)) r := by subst e1 e2; exact rg_new (ci := 5) (q := (RX5, TX5, 2)) dX7_init_5 cs_RX7_7 rfl hn
theorem e_X7_init_8 : Rn o d zX7_init 8 [a0, a1] (.ref i :: st) w r = Rn o d zX7_init 9 [a0, a1] (.ref i :: .ref i :: st) w r := rn_A (len := 1) dX7_init_8 rfl
theorem e_X7_init_9 {t0 : Nat} {t1 : Nat} {w' : ai_W} (hE : Ev o d zX5_init [.ref i] w none w') : Rn o (d + 1) zX7_init 9 [a0, a1] ([.ref i, .ref t0, .ref t1]) w r = Rn o (d + 1) zX7_init 12 [a0, a1] ([.ref t0, .ref t1]) w' r := rn_cN (n := 0) (b := i) (v := none) (As := []) (rest := [.ref t0, .ref t1]) (zz := zX5_init) dX7_init_9 mn_RX7_9 c0_RX7_9 cN_RX7_9 rfl (Nat.le_of_ble_eq_true rfl) hE
theorem e_X7_init_12 (hi : i < n ∧ j < n ∧ (κ i).1 = 7 + 3) : Rn o d zX7_init 12 [a0, a1] (.ref j :: .ref i :: st) (n, sl, κ, rf, m, lg) r = Rn o d zX7_init 15 [a0, a1] (st) (n, sl, κ, ai_upR rf i 0 (some j), m, lg) r := rg_putR dX7_init_12 fl_RX7_10 rfl (by decide +kernel) hi
theorem e_X7_init_15 : Rn o d zX7_init 15 [.ref i, a1] (st) w r = Rn o d zX7_init 16 [.ref i, a1] (.ref i :: st) w r := rn_A (len := 1) dX7_init_15 rfl
theorem e_X7_init_16 {n9 s9 : Nat} (e1 : n + 1 = n9) (e2 : sl + 10 = s9) (hn : n < 1000000) : Rn o d zX7_init 16 [a0, a1] (st) (n, sl, κ, rf, m, lg) r = Rn o d zX7_init 19 [a0, a1] (.ref n :: st) (n9, s9, va_up κ n (6 + 3, 10), va_up rf n (fun _ => none), va_up m n (fun _ => 0), va_up lg n (fun _ => 0)) r := by subst e1 e2; exact rg_new (ci := 6) (q := (RX6, TX6, 10)) dX7_init_16 cs_RX7_16 rfl hn
theorem e_X7_init_19 : Rn o d zX7_init 19 [a0, a1] (.ref i :: st) w r = Rn o d zX7_init 20 [a0, a1] (.ref i :: .ref i :: st) w r := rn_A (len := 1) dX7_init_19 rfl
theorem e_X7_init_20 {t0 : Nat} {t1 : Nat} {w' : ai_W} (hE : Ev o d zX6_init [.ref i] w none w') : Rn o (d + 1) zX7_init 20 [a0, a1] ([.ref i, .ref t0, .ref t1]) w r = Rn o (d + 1) zX7_init 23 [a0, a1] ([.ref t0, .ref t1]) w' r := rn_cN (n := 0) (b := i) (v := none) (As := []) (rest := [.ref t0, .ref t1]) (zz := zX6_init) dX7_init_20 mn_RX7_18 c0_RX7_18 cN_RX7_18 rfl (Nat.le_of_ble_eq_true rfl) hE
theorem e_X7_init_23 (hi : i < n ∧ j < n ∧ (κ i).1 = 7 + 3) : Rn o d zX7_init 23 [a0, a1] (.ref j :: .ref i :: st) (n, sl, κ, rf, m, lg) r = Rn o d zX7_init 26 [a0, a1] (st) (n, sl, κ, ai_upR rf i 1 (some j), m, lg) r := rg_putR dX7_init_23 fl_RX7_19 rfl (by decide +kernel) hi
theorem e_X7_init_26 : Rn o d zX7_init 26 [.ref i, a1] (st) w r = Rn o d zX7_init 27 [.ref i, a1] (.ref i :: st) w r := rn_A (len := 1) dX7_init_26 rfl
theorem e_X7_init_27 {n9 s9 : Nat} (e1 : n + 1 = n9) (e2 : sl + 10 = s9) (hn : n < 1000000) : Rn o d zX7_init 27 [a0, a1] (st) (n, sl, κ, rf, m, lg) r = Rn o d zX7_init 30 [a0, a1] (.ref n :: st) (n9, s9, va_up κ n (6 + 3, 10), va_up rf n (fun _ => none), va_up m n (fun _ => 0), va_up lg n (fun _ => 0)) r := by subst e1 e2; exact rg_new (ci := 6) (q := (RX6, TX6, 10)) dX7_init_27 cs_RX7_16 rfl hn
theorem e_X7_init_30 : Rn o d zX7_init 30 [a0, a1] (.ref i :: st) w r = Rn o d zX7_init 31 [a0, a1] (.ref i :: .ref i :: st) w r := rn_A (len := 1) dX7_init_30 rfl
theorem e_X7_init_31 {t0 : Nat} {t1 : Nat} {w' : ai_W} (hE : Ev o d zX6_init [.ref i] w none w') : Rn o (d + 1) zX7_init 31 [a0, a1] ([.ref i, .ref t0, .ref t1]) w r = Rn o (d + 1) zX7_init 34 [a0, a1] ([.ref t0, .ref t1]) w' r := rn_cN (n := 0) (b := i) (v := none) (As := []) (rest := [.ref t0, .ref t1]) (zz := zX6_init) dX7_init_31 mn_RX7_18 c0_RX7_18 cN_RX7_18 rfl (Nat.le_of_ble_eq_true rfl) hE
theorem e_X7_init_34 (hi : i < n ∧ j < n ∧ (κ i).1 = 7 + 3) : Rn o d zX7_init 34 [a0, a1] (.ref j :: .ref i :: st) (n, sl, κ, rf, m, lg) r = Rn o d zX7_init 37 [a0, a1] (st) (n, sl, κ, ai_upR rf i 2 (some j), m, lg) r := rg_putR dX7_init_34 fl_RX7_23 rfl (by decide +kernel) hi
theorem e_X7_init_37 : Rn o d zX7_init 37 [.ref i, a1] (st) w r = Rn o d zX7_init 38 [.ref i, a1] (.ref i :: st) w r := rn_A (len := 1) dX7_init_37 rfl
theorem e_X7_init_38 {n9 s9 : Nat} (e1 : n + 1 = n9) (e2 : sl + 7 = s9) (hn : n < 1000000) : Rn o d zX7_init 38 [a0, a1] (st) (n, sl, κ, rf, m, lg) r = Rn o d zX7_init 41 [a0, a1] (.ref n :: st) (n9, s9, va_up κ n (2 + 3, 7), va_up rf n (fun _ => none), va_up m n (fun _ => 0), va_up lg n (fun _ => 0)) r := by subst e1 e2; exact rg_new (ci := 2) (q := (RX2, TX2, 7)) dX7_init_38 cs_RX7_26 rfl hn
theorem e_X7_init_41 : Rn o d zX7_init 41 [a0, a1] (.ref i :: st) w r = Rn o d zX7_init 42 [a0, a1] (.ref i :: .ref i :: st) w r := rn_A (len := 1) dX7_init_41 rfl
theorem e_X7_init_42 : Rn o d zX7_init 42 [.ref i, a1] (st) w r = Rn o d zX7_init 43 [.ref i, a1] (.ref i :: st) w r := rn_A (len := 1) dX7_init_42 rfl
theorem e_X7_init_43 (hi : i < n ∧ (κ i).1 = 7 + 3) (hq : rf i 1 = some j) : Rn o d zX7_init 43 [a0, a1] (.ref i :: st) (n, sl, κ, rf, m, lg) r = Rn o d zX7_init 46 [a0, a1] (.ref j :: st) (n, sl, κ, rf, m, lg) r := rg_getR dX7_init_43 fl_RX7_19 rfl hi hq
theorem e_X7_init_46 {s0 : Nat} {t0 : Nat} {t1 : Nat} {w' : ai_W} (hE : Ev o d zX2_init [.ref i, .ref s0] w none w') : Rn o (d + 1) zX7_init 46 [a0, a1] ([.ref s0, .ref i, .ref t0, .ref t1]) w r = Rn o (d + 1) zX7_init 49 [a0, a1] ([.ref t0, .ref t1]) w' r := rn_cI (n := 1) (b := i) (v := none) (As := [.ref s0]) (rest := [.ref t0, .ref t1]) (zz := zX2_init) dX7_init_46 mn_RX7_28 cI_RX7_28 rfl (Nat.le_of_ble_eq_true rfl) hE
theorem e_X7_init_49 (hi : i < n ∧ j < n ∧ (κ i).1 = 7 + 3) : Rn o d zX7_init 49 [a0, a1] (.ref j :: .ref i :: st) (n, sl, κ, rf, m, lg) r = Rn o d zX7_init 52 [a0, a1] (st) (n, sl, κ, ai_upR rf i 3 (some j), m, lg) r := rg_putR dX7_init_49 fl_RX7_31 rfl (by decide +kernel) hi
theorem e_X7_init_52 : Rn o d zX7_init 52 [.ref i, a1] (st) w r = Rn o d zX7_init 53 [.ref i, a1] (.ref i :: st) w r := rn_A (len := 1) dX7_init_52 rfl
theorem e_X7_init_53 {n9 s9 : Nat} (e1 : n + 1 = n9) (e2 : sl + 7 = s9) (hn : n < 1000000) : Rn o d zX7_init 53 [a0, a1] (st) (n, sl, κ, rf, m, lg) r = Rn o d zX7_init 56 [a0, a1] (.ref n :: st) (n9, s9, va_up κ n (2 + 3, 7), va_up rf n (fun _ => none), va_up m n (fun _ => 0), va_up lg n (fun _ => 0)) r := by subst e1 e2; exact rg_new (ci := 2) (q := (RX2, TX2, 7)) dX7_init_53 cs_RX7_26 rfl hn
theorem e_X7_init_56 : Rn o d zX7_init 56 [a0, a1] (.ref i :: st) w r = Rn o d zX7_init 57 [a0, a1] (.ref i :: .ref i :: st) w r := rn_A (len := 1) dX7_init_56 rfl
theorem e_X7_init_57 : Rn o d zX7_init 57 [.ref i, a1] (st) w r = Rn o d zX7_init 58 [.ref i, a1] (.ref i :: st) w r := rn_A (len := 1) dX7_init_57 rfl
theorem e_X7_init_58 (hi : i < n ∧ (κ i).1 = 7 + 3) (hq : rf i 1 = some j) : Rn o d zX7_init 58 [a0, a1] (.ref i :: st) (n, sl, κ, rf, m, lg) r = Rn o d zX7_init 61 [a0, a1] (.ref j :: st) (n, sl, κ, rf, m, lg) r := rg_getR dX7_init_58 fl_RX7_19 rfl hi hq
theorem e_X7_init_61 {s0 : Nat} {t0 : Nat} {t1 : Nat} {w' : ai_W} (hE : Ev o d zX2_init [.ref i, .ref s0] w none w') : Rn o (d + 1) zX7_init 61 [a0, a1] ([.ref s0, .ref i, .ref t0, .ref t1]) w r = Rn o (d + 1) zX7_init 64 [a0, a1] ([.ref t0, .ref t1]) w' r := rn_cI (n := 1) (b := i) (v := none) (As := [.ref s0]) (rest := [.ref t0, .ref t1]) (zz := zX2_init) dX7_init_61 mn_RX7_28 cI_RX7_28 rfl (Nat.le_of_ble_eq_true rfl) hE
theorem e_X7_init_64 (hi : i < n ∧ j < n ∧ (κ i).1 = 7 + 3) : Rn o d zX7_init 64 [a0, a1] (.ref j :: .ref i :: st) (n, sl, κ, rf, m, lg) r = Rn o d zX7_init 67 [a0, a1] (st) (n, sl, κ, ai_upR rf i 4 (some j), m, lg) r := rg_putR dX7_init_64 fl_RX7_35 rfl (by decide +kernel) hi
theorem e_X7_init_67 : Rn o d zX7_init 67 [.ref i, a1] (st) w r = Rn o d zX7_init 68 [.ref i, a1] (.ref i :: st) w r := rn_A (len := 1) dX7_init_67 rfl
theorem e_X7_init_68 {n9 s9 : Nat} (e1 : n + 1 = n9) (e2 : sl + 3 = s9) (hn : n < 1000000) : Rn o d zX7_init 68 [a0, a1] (st) (n, sl, κ, rf, m, lg) r = Rn o d zX7_init 71 [a0, a1] (.ref n :: st) (n9, s9, va_up κ n (0 + 3, 3), va_up rf n (fun _ => none), va_up m n (fun _ => 0), va_up lg n (fun _ => 0)) r := by subst e1 e2; exact rg_new (ci := 0) (q := (RX0, TX0, 3)) dX7_init_68 cs_RX7_38 rfl hn
theorem e_X7_init_71 : Rn o d zX7_init 71 [a0, a1] (.ref i :: st) w r = Rn o d zX7_init 72 [a0, a1] (.ref i :: .ref i :: st) w r := rn_A (len := 1) dX7_init_71 rfl
theorem e_X7_init_72 : Rn o d zX7_init 72 [.ref i, a1] (st) w r = Rn o d zX7_init 73 [.ref i, a1] (.ref i :: st) w r := rn_A (len := 1) dX7_init_72 rfl
theorem e_X7_init_73 (hi : i < n ∧ (κ i).1 = 7 + 3) (hq : rf i 1 = some j) : Rn o d zX7_init 73 [a0, a1] (.ref i :: st) (n, sl, κ, rf, m, lg) r = Rn o d zX7_init 76 [a0, a1] (.ref j :: st) (n, sl, κ, rf, m, lg) r := rg_getR dX7_init_73 fl_RX7_19 rfl hi hq
theorem e_X7_init_76 {s0 : Nat} {t0 : Nat} {t1 : Nat} {w' : ai_W} (hE : Ev o d zX0_init [.ref i, .ref s0] w none w') : Rn o (d + 1) zX7_init 76 [a0, a1] ([.ref s0, .ref i, .ref t0, .ref t1]) w r = Rn o (d + 1) zX7_init 79 [a0, a1] ([.ref t0, .ref t1]) w' r := rn_cI (n := 1) (b := i) (v := none) (As := [.ref s0]) (rest := [.ref t0, .ref t1]) (zz := zX0_init) dX7_init_76 mn_RX7_40 cI_RX7_40 rfl (Nat.le_of_ble_eq_true rfl) hE
theorem e_X7_init_79 (hi : i < n ∧ j < n ∧ (κ i).1 = 7 + 3) : Rn o d zX7_init 79 [a0, a1] (.ref j :: .ref i :: st) (n, sl, κ, rf, m, lg) r = Rn o d zX7_init 82 [a0, a1] (st) (n, sl, κ, ai_upR rf i 5 (some j), m, lg) r := rg_putR dX7_init_79 fl_RX7_41 rfl (by decide +kernel) hi
theorem e_X7_init_82 : Rn o d zX7_init 82 [.ref i, a1] (st) w r = Rn o d zX7_init 83 [.ref i, a1] (.ref i :: st) w r := rn_A (len := 1) dX7_init_82 rfl
theorem e_X7_init_83 {n9 s9 : Nat} (e1 : n + 1 = n9) (e2 : sl + 4 = s9) (hn : n < 1000000) : Rn o d zX7_init 83 [a0, a1] (st) (n, sl, κ, rf, m, lg) r = Rn o d zX7_init 86 [a0, a1] (.ref n :: st) (n9, s9, va_up κ n (4 + 3, 4), va_up rf n (fun _ => none), va_up m n (fun _ => 0), va_up lg n (fun _ => 0)) r := by subst e1 e2; exact rg_new (ci := 4) (q := (RX4, TX4, 4)) dX7_init_83 cs_RX7_45 rfl hn
theorem e_X7_init_86 : Rn o d zX7_init 86 [a0, a1] (.ref i :: st) w r = Rn o d zX7_init 87 [a0, a1] (.ref i :: .ref i :: st) w r := rn_A (len := 1) dX7_init_86 rfl
theorem e_X7_init_87 {t0 : Nat} {t1 : Nat} {w' : ai_W} (hE : Ev o d zX4_init [.ref i] w none w') : Rn o (d + 1) zX7_init 87 [a0, a1] ([.ref i, .ref t0, .ref t1]) w r = Rn o (d + 1) zX7_init 90 [a0, a1] ([.ref t0, .ref t1]) w' r := rn_cN (n := 0) (b := i) (v := none) (As := []) (rest := [.ref t0, .ref t1]) (zz := zX4_init) dX7_init_87 mn_RX7_47 c0_RX7_47 cN_RX7_47 rfl (Nat.le_of_ble_eq_true rfl) hE
theorem e_X7_init_90 (hi : i < n ∧ j < n ∧ (κ i).1 = 7 + 3) : Rn o d zX7_init 90 [a0, a1] (.ref j :: .ref i :: st) (n, sl, κ, rf, m, lg) r = Rn o d zX7_init 93 [a0, a1] (st) (n, sl, κ, ai_upR rf i 6 (some j), m, lg) r := rg_putR dX7_init_90 fl_RX7_48 rfl (by decide +kernel) hi
theorem e_X7_init_93 : Rn o d zX7_init 93 [.ref i, a1] (st) w r = Rn o d zX7_init 94 [.ref i, a1] (.ref i :: st) w r := rn_A (len := 1) dX7_init_93 rfl
theorem e_X7_init_94 {n9 s9 : Nat} (e1 : n + 1 = n9) (e2 : sl + 5 = s9) (hn : n < 1000000) : Rn o d zX7_init 94 [a0, a1] (st) (n, sl, κ, rf, m, lg) r = Rn o d zX7_init 97 [a0, a1] (.ref n :: st) (n9, s9, va_up κ n (3 + 3, 5), va_up rf n (fun _ => none), va_up m n (fun _ => 0), va_up lg n (fun _ => 0)) r := by subst e1 e2; exact rg_new (ci := 3) (q := (RX3, TX3, 5)) dX7_init_94 cs_RX7_52 rfl hn
theorem e_X7_init_97 : Rn o d zX7_init 97 [a0, a1] (.ref i :: st) w r = Rn o d zX7_init 98 [a0, a1] (.ref i :: .ref i :: st) w r := rn_A (len := 1) dX7_init_97 rfl
theorem e_X7_init_98 : Rn o d zX7_init 98 [.ref i, a1] (st) w r = Rn o d zX7_init 99 [.ref i, a1] (.ref i :: st) w r := rn_A (len := 1) dX7_init_98 rfl
theorem e_X7_init_99 (hi : i < n ∧ (κ i).1 = 7 + 3) (hq : rf i 1 = some j) : Rn o d zX7_init 99 [a0, a1] (.ref i :: st) (n, sl, κ, rf, m, lg) r = Rn o d zX7_init 102 [a0, a1] (.ref j :: st) (n, sl, κ, rf, m, lg) r := rg_getR dX7_init_99 fl_RX7_19 rfl hi hq
theorem e_X7_init_102 : Rn o d zX7_init 102 [.ref i, a1] (st) w r = Rn o d zX7_init 103 [.ref i, a1] (.ref i :: st) w r := rn_A (len := 1) dX7_init_102 rfl
theorem e_X7_init_103 (hi : i < n ∧ (κ i).1 = 7 + 3) (hq : rf i 4 = some j) : Rn o d zX7_init 103 [a0, a1] (.ref i :: st) (n, sl, κ, rf, m, lg) r = Rn o d zX7_init 106 [a0, a1] (.ref j :: st) (n, sl, κ, rf, m, lg) r := rg_getR dX7_init_103 fl_RX7_35 rfl hi hq
theorem e_X7_init_106 {s0 : Nat} {s1 : Nat} {t0 : Nat} {t1 : Nat} {w' : ai_W} (hE : Ev o d zX3_init [.ref i, .ref s0, .ref s1] w none w') : Rn o (d + 1) zX7_init 106 [a0, a1] ([.ref s1, .ref s0, .ref i, .ref t0, .ref t1]) w r = Rn o (d + 1) zX7_init 109 [a0, a1] ([.ref t0, .ref t1]) w' r := rn_cI (n := 2) (b := i) (v := none) (As := [.ref s0, .ref s1]) (rest := [.ref t0, .ref t1]) (zz := zX3_init) dX7_init_106 mn_RX7_54 cI_RX7_54 rfl (Nat.le_of_ble_eq_true rfl) hE
theorem e_X7_init_109 (hi : i < n ∧ j < n ∧ (κ i).1 = 7 + 3) : Rn o d zX7_init 109 [a0, a1] (.ref j :: .ref i :: st) (n, sl, κ, rf, m, lg) r = Rn o d zX7_init 112 [a0, a1] (st) (n, sl, κ, ai_upR rf i 7 (some j), m, lg) r := rg_putR dX7_init_109 fl_RX7_57 rfl (by decide +kernel) hi
theorem e_X7_init_112 : Rn o d zX7_init 112 [.ref i, a1] (st) w r = Rn o d zX7_init 113 [.ref i, a1] (.ref i :: st) w r := rn_A (len := 1) dX7_init_112 rfl
theorem e_X7_init_113 {n9 s9 : Nat} (e1 : n + 1 = n9) (e2 : sl + 2 = s9) (hn : n < 1000000) : Rn o d zX7_init 113 [a0, a1] (st) (n, sl, κ, rf, m, lg) r = Rn o d zX7_init 116 [a0, a1] (.ref n :: st) (n9, s9, va_up κ n (1 + 3, 2), va_up rf n (fun _ => none), va_up m n (fun _ => 0), va_up lg n (fun _ => 0)) r := by subst e1 e2; exact rg_new (ci := 1) (q := (RX1, TX1, 2)) dX7_init_113 cs_RX7_61 rfl hn
theorem e_X7_init_116 : Rn o d zX7_init 116 [a0, a1] (.ref i :: st) w r = Rn o d zX7_init 117 [a0, a1] (.ref i :: .ref i :: st) w r := rn_A (len := 1) dX7_init_116 rfl
theorem e_X7_init_117 : Rn o d zX7_init 117 [.ref i, a1] (st) w r = Rn o d zX7_init 118 [.ref i, a1] (.ref i :: st) w r := rn_A (len := 1) dX7_init_117 rfl
theorem e_X7_init_118 (hi : i < n ∧ (κ i).1 = 7 + 3) (hq : rf i 1 = some j) : Rn o d zX7_init 118 [a0, a1] (.ref i :: st) (n, sl, κ, rf, m, lg) r = Rn o d zX7_init 121 [a0, a1] (.ref j :: st) (n, sl, κ, rf, m, lg) r := rg_getR dX7_init_118 fl_RX7_19 rfl hi hq
theorem e_X7_init_121 : Rn o d zX7_init 121 [.ref i, a1] (st) w r = Rn o d zX7_init 122 [.ref i, a1] (.ref i :: st) w r := rn_A (len := 1) dX7_init_121 rfl
theorem e_X7_init_122 (hi : i < n ∧ (κ i).1 = 7 + 3) (hq : rf i 4 = some j) : Rn o d zX7_init 122 [a0, a1] (.ref i :: st) (n, sl, κ, rf, m, lg) r = Rn o d zX7_init 125 [a0, a1] (.ref j :: st) (n, sl, κ, rf, m, lg) r := rg_getR dX7_init_122 fl_RX7_35 rfl hi hq
theorem e_X7_init_125 {s0 : Nat} {s1 : Nat} {t0 : Nat} {t1 : Nat} {w' : ai_W} (hE : Ev o d zX1_init [.ref i, .ref s0, .ref s1] w none w') : Rn o (d + 1) zX7_init 125 [a0, a1] ([.ref s1, .ref s0, .ref i, .ref t0, .ref t1]) w r = Rn o (d + 1) zX7_init 128 [a0, a1] ([.ref t0, .ref t1]) w' r := rn_cI (n := 2) (b := i) (v := none) (As := [.ref s0, .ref s1]) (rest := [.ref t0, .ref t1]) (zz := zX1_init) dX7_init_125 mn_RX7_63 cI_RX7_63 rfl (Nat.le_of_ble_eq_true rfl) hE
theorem e_X7_init_128 (hi : i < n ∧ j < n ∧ (κ i).1 = 7 + 3) : Rn o d zX7_init 128 [a0, a1] (.ref j :: .ref i :: st) (n, sl, κ, rf, m, lg) r = Rn o d zX7_init 131 [a0, a1] (st) (n, sl, κ, ai_upR rf i 8 (some j), m, lg) r := rg_putR dX7_init_128 fl_RX7_64 rfl (by decide +kernel) hi
theorem e_X7_init_131 : Rn o d zX7_init 131 [.ref i, a1] (st) w r = Rn o d zX7_init 132 [.ref i, a1] (.ref i :: st) w r := rn_A (len := 1) dX7_init_131 rfl
theorem e_X7_init_132 : Rn o d zX7_init 132 [a0, a1] (st) w r = Rn o d zX7_init 133 [a0, a1] (.int (nI 2) :: st) w r := rn_int (len := 1) dX7_init_132 rfl (by decide)
theorem e_X7_init_133 {n9 s9 : Nat} (e1 : n + 1 = n9) (e2 : sl + j = s9) (hj : j ≤ 1000) (hn : n < 1000000) : Rn o d zX7_init 133 [a0, a1] (.int (nI j) :: st) (n, sl, κ, rf, m, lg) r = Rn o d zX7_init 136 [a0, a1] (.ref n :: st) (n9, s9, va_up κ n (2, j), va_up rf n (fun _ => none), va_up m n (fun _ => 0), va_up lg n (fun _ => 0)) r := by subst e1 e2; exact rg_newR dX7_init_133 ck_RX7_26 hj hn
theorem e_X7_init_136 (hi : i < n ∧ j < n ∧ (κ i).1 = 7 + 3) : Rn o d zX7_init 136 [a0, a1] (.ref j :: .ref i :: st) (n, sl, κ, rf, m, lg) r = Rn o d zX7_init 139 [a0, a1] (st) (n, sl, κ, ai_upR rf i 9 (some j), m, lg) r := rg_putR dX7_init_136 fl_RX7_68 rfl (by decide +kernel) hi
theorem e_X7_init_139 : Rn o d zX7_init 139 [.ref i, a1] (st) w r = Rn o d zX7_init 140 [.ref i, a1] (.ref i :: st) w r := rn_A (len := 1) dX7_init_139 rfl
theorem e_X7_init_140 : Rn o d zX7_init 140 [a0, a1] (st) w r = Rn o d zX7_init 141 [a0, a1] (.int (nI 2) :: st) w r := rn_int (len := 1) dX7_init_140 rfl (by decide)
theorem e_X7_init_141 {n9 s9 : Nat} (e1 : n + 1 = n9) (e2 : sl + j = s9) (hj : j ≤ 1000) (hn : n < 1000000) : Rn o d zX7_init 141 [a0, a1] (.int (nI j) :: st) (n, sl, κ, rf, m, lg) r = Rn o d zX7_init 143 [a0, a1] (.ref n :: st) (n9, s9, va_up κ n (1, j), va_up rf n (fun _ => none), va_up m n (fun _ => 0), va_up lg n (fun _ => 0)) r := by subst e1 e2; exact rg_newZ dX7_init_141 ac_1 hj hn
theorem e_X7_init_143 (hi : i < n ∧ j < n ∧ (κ i).1 = 7 + 3) : Rn o d zX7_init 143 [a0, a1] (.ref j :: .ref i :: st) (n, sl, κ, rf, m, lg) r = Rn o d zX7_init 146 [a0, a1] (st) (n, sl, κ, ai_upR rf i 10 (some j), m, lg) r := rg_putR dX7_init_143 fl_RX7_72 rfl (by decide +kernel) hi
theorem e_X7_init_146 : Rn o d zX7_init 146 [.ref i, a1] (st) w r = Rn o d zX7_init 147 [.ref i, a1] (.ref i :: st) w r := rn_A (len := 1) dX7_init_146 rfl
theorem e_X7_init_147 : Rn o d zX7_init 147 [a0, a1] (st) w r = Rn o d zX7_init 148 [a0, a1] (.long 0 :: st) w r := rn_A (len := 1) dX7_init_147 rfl
theorem e_X7_init_148 (hi : i < n ∧ (κ i).1 = 7 + 3) : Rn o d zX7_init 148 [a0, a1] (.long xl :: .ref i :: st) (n, sl, κ, rf, m, lg) r = Rn o d zX7_init 151 [a0, a1] (st) (n, sl, κ, rf, m, (ai_upL lg i 11 xl)) r := rg_putL dX7_init_148 fl_RX7_76 rfl (by decide +kernel) hi
theorem e_X7_init_151 : Rn o d zX7_init 151 [a0, a1] (st) w r = Rn o d zX7_init 152 [a0, a1] (.int (nI 0) :: st) w r := rn_int (len := 1) dX7_init_151 rfl (by decide)
theorem e_X7_init_152 (h2 : ai_is2 (some a0) = false) : Rn o d zX7_init 152 [a0, a1] (.int x :: st) w r = Rn o d zX7_init 153 [a0, .int x] (st) w r := rn_sti0 (len := 1) (i := 1) dX7_init_152 rfl (Nat.le_of_ble_eq_true rfl) (Or.inr h2)
theorem e_X7_init_153 : Rn o d zX7_init 153 [a0, .int x] (st) w r = Rn o d zX7_init 154 [a0, .int x] (.int x :: st) w r := rn_A (len := 1) dX7_init_153 rfl
theorem e_X7_init_154 : Rn o d zX7_init 154 [a0, a1] (st) w r = Rn o d zX7_init 155 [a0, a1] (.int (nI 2) :: st) w r := rn_int (len := 1) dX7_init_154 rfl (by decide)
theorem e_X7_init_155 : Rn o d zX7_init 155 [a0, a1] (.int y :: .int x :: st) w r = if y ≤ x then Rn o d zX7_init 181 [a0, a1] st w r else Rn o d zX7_init 158 [a0, a1] st w r := rn_br (off := 26) dX7_init_155 rfl (by decide)
theorem e_X7_init_158 : Rn o d zX7_init 158 [.ref i, a1] (st) w r = Rn o d zX7_init 159 [.ref i, a1] (.ref i :: st) w r := rn_A (len := 1) dX7_init_158 rfl
theorem e_X7_init_159 (hi : i < n ∧ (κ i).1 = 7 + 3) (hq : rf i 9 = some j) : Rn o d zX7_init 159 [a0, a1] (.ref i :: st) (n, sl, κ, rf, m, lg) r = Rn o d zX7_init 162 [a0, a1] (.ref j :: st) (n, sl, κ, rf, m, lg) r := rg_getR dX7_init_159 fl_RX7_68 rfl hi hq
theorem e_X7_init_162 : Rn o d zX7_init 162 [a0, .int x] (st) w r = Rn o d zX7_init 163 [a0, .int x] (.int x :: st) w r := rn_A (len := 1) dX7_init_162 rfl
theorem e_X7_init_163 {n9 s9 : Nat} (e1 : n + 1 = n9) (e2 : sl + 7 = s9) (hn : n < 1000000) : Rn o d zX7_init 163 [a0, a1] (st) (n, sl, κ, rf, m, lg) r = Rn o d zX7_init 166 [a0, a1] (.ref n :: st) (n9, s9, va_up κ n (2 + 3, 7), va_up rf n (fun _ => none), va_up m n (fun _ => 0), va_up lg n (fun _ => 0)) r := by subst e1 e2; exact rg_new (ci := 2) (q := (RX2, TX2, 7)) dX7_init_163 cs_RX7_26 rfl hn
theorem e_X7_init_166 : Rn o d zX7_init 166 [a0, a1] (.ref i :: st) w r = Rn o d zX7_init 167 [a0, a1] (.ref i :: .ref i :: st) w r := rn_A (len := 1) dX7_init_166 rfl
theorem e_X7_init_167 : Rn o d zX7_init 167 [.ref i, a1] (st) w r = Rn o d zX7_init 168 [.ref i, a1] (.ref i :: st) w r := rn_A (len := 1) dX7_init_167 rfl
theorem e_X7_init_168 (hi : i < n ∧ (κ i).1 = 7 + 3) (hq : rf i 1 = some j) : Rn o d zX7_init 168 [a0, a1] (.ref i :: st) (n, sl, κ, rf, m, lg) r = Rn o d zX7_init 171 [a0, a1] (.ref j :: st) (n, sl, κ, rf, m, lg) r := rg_getR dX7_init_168 fl_RX7_19 rfl hi hq
theorem e_X7_init_171 {s0 : Nat} {t0 : Nat} {t1 : Int32} {t2 : Nat} {w' : ai_W} (hE : Ev o d zX2_init [.ref i, .ref s0] w none w') : Rn o (d + 1) zX7_init 171 [a0, a1] ([.ref s0, .ref i, .ref t0, .int t1, .ref t2]) w r = Rn o (d + 1) zX7_init 174 [a0, a1] ([.ref t0, .int t1, .ref t2]) w' r := rn_cI (n := 1) (b := i) (v := none) (As := [.ref s0]) (rest := [.ref t0, .int t1, .ref t2]) (zz := zX2_init) dX7_init_171 mn_RX7_28 cI_RX7_28 rfl (Nat.le_of_ble_eq_true rfl) hE
theorem e_X7_init_174 (hi : i < n ∧ k < n ∧ (κ k).1 = 5 ∧ (κ i).1 = 2) (hj : j < (κ i).2) (hj2 : j < 1000) : Rn o d zX7_init 174 [a0, a1] (.ref k :: .int (nI j) :: .ref i :: st) (n, sl, κ, rf, m, lg) r = Rn o d zX7_init 175 [a0, a1] (st) (n, sl, κ, ai_upR rf i j (some k), m, lg) r := rg_aastore dX7_init_174 hi hj hj2
theorem e_X7_init_175 (h2 : ai_is2 (some a0) = false) : Rn o d zX7_init 175 [a0, .int x] (st) w r = Rn o d zX7_init 178 [a0, .int (x + (nI 1))] (st) w r := rn_iinc (i := 1) (n := 1) (c := (nI 1)) dX7_init_175 rfl (by decide) (Nat.le_of_ble_eq_true rfl) (Or.inr h2)
theorem e_X7_init_178 : Rn o d zX7_init 178 [a0, a1] (st) w r = Rn o d zX7_init 153 [a0, a1] (st) w r := rn_goto dX7_init_178 (by decide)
theorem e_X7_init_181 : Rn o d zX7_init 181 [a0, a1] [] w r = ((none, w) = r) := rn_R dX7_init_181 rfl
def zX8_init : ai_Mi := (yX8_init, cX8_init, 1, none)
theorem ev_X8_init  {v : Option Value} {w' : ai_W} : Ev o d zX8_init [.ref i] w v w' = Rn o d zX8_init 0 [.ref i] [] w (v, w') := rfl
theorem e_X8_init_0 : Rn o d zX8_init 0 [.ref i] (st) w r = Rn o d zX8_init 1 [.ref i] (.ref i :: st) w r := rn_A (len := 1) dX8_init_0 rfl
theorem e_X8_init_1 {s0 : Nat} : Rn o (d + 1) zX8_init 1 [a0] ([.ref s0]) w r = Rn o (d + 1) zX8_init 4 [a0] ([]) w r := rn_objInit dX8_init_1 ml_RX8_1 oi_1 oi_2 (Nat.le_of_ble_eq_true rfl)
theorem e_X8_init_4 : Rn o d zX8_init 4 [.ref i] (st) w r = Rn o d zX8_init 5 [.ref i] (.ref i :: st) w r := rn_A (len := 1) dX8_init_4 rfl
theorem e_X8_init_5 : Rn o d zX8_init 5 [a0] (st) w r = Rn o d zX8_init 7 [a0] (.int (nI 48) :: st) w r := rn_int (len := 2) dX8_init_5 rfl (by decide)
theorem e_X8_init_7 {n9 s9 : Nat} (e1 : n + 1 = n9) (e2 : sl + j = s9) (hj : j ≤ 1000) (hn : n < 1000000) : Rn o d zX8_init 7 [a0] (.int (nI j) :: st) (n, sl, κ, rf, m, lg) r = Rn o d zX8_init 9 [a0] (.ref n :: st) (n9, s9, va_up κ n (0, j), va_up rf n (fun _ => none), va_up m n (fun _ => 0), va_up lg n (fun _ => 0)) r := by subst e1 e2; exact rg_newI dX8_init_7 ac_0 hj hn
theorem e_X8_init_9 (hi : i < n ∧ j < n ∧ (κ i).1 = 8 + 3) : Rn o d zX8_init 9 [a0] (.ref j :: .ref i :: st) (n, sl, κ, rf, m, lg) r = Rn o d zX8_init 12 [a0] (st) (n, sl, κ, ai_upR rf i 1 (some j), m, lg) r := rg_putR dX8_init_9 fl_RX8_7 rfl (by decide +kernel) hi
theorem e_X8_init_12 : Rn o d zX8_init 12 [.ref i] (st) w r = Rn o d zX8_init 13 [.ref i] (.ref i :: st) w r := rn_A (len := 1) dX8_init_12 rfl
theorem e_X8_init_13 : Rn o d zX8_init 13 [a0] (st) w r = Rn o d zX8_init 14 [a0] (.int (nI 4) :: st) w r := rn_int (len := 1) dX8_init_13 rfl (by decide)
theorem e_X8_init_14 {n9 s9 : Nat} (e1 : n + 1 = n9) (e2 : sl + j = s9) (hj : j ≤ 1000) (hn : n < 1000000) : Rn o d zX8_init 14 [a0] (.int (nI j) :: st) (n, sl, κ, rf, m, lg) r = Rn o d zX8_init 16 [a0] (.ref n :: st) (n9, s9, va_up κ n (0, j), va_up rf n (fun _ => none), va_up m n (fun _ => 0), va_up lg n (fun _ => 0)) r := by subst e1 e2; exact rg_newI dX8_init_14 ac_0 hj hn
theorem e_X8_init_16 (hi : i < n ∧ j < n ∧ (κ i).1 = 8 + 3) : Rn o d zX8_init 16 [a0] (.ref j :: .ref i :: st) (n, sl, κ, rf, m, lg) r = Rn o d zX8_init 19 [a0] (st) (n, sl, κ, ai_upR rf i 5 (some j), m, lg) r := rg_putR dX8_init_16 fl_RX8_13 rfl (by decide +kernel) hi
theorem e_X8_init_19 : Rn o d zX8_init 19 [.ref i] (st) w r = Rn o d zX8_init 20 [.ref i] (.ref i :: st) w r := rn_A (len := 1) dX8_init_19 rfl
theorem e_X8_init_20 : Rn o d zX8_init 20 [a0] (st) w r = Rn o d zX8_init 21 [a0] (.int (nI 4) :: st) w r := rn_int (len := 1) dX8_init_20 rfl (by decide)
theorem e_X8_init_21 {n9 s9 : Nat} (e1 : n + 1 = n9) (e2 : sl + j = s9) (hj : j ≤ 1000) (hn : n < 1000000) : Rn o d zX8_init 21 [a0] (.int (nI j) :: st) (n, sl, κ, rf, m, lg) r = Rn o d zX8_init 23 [a0] (.ref n :: st) (n9, s9, va_up κ n (0, j), va_up rf n (fun _ => none), va_up m n (fun _ => 0), va_up lg n (fun _ => 0)) r := by subst e1 e2; exact rg_newI dX8_init_21 ac_0 hj hn
theorem e_X8_init_23 (hi : i < n ∧ j < n ∧ (κ i).1 = 8 + 3) : Rn o d zX8_init 23 [a0] (.ref j :: .ref i :: st) (n, sl, κ, rf, m, lg) r = Rn o d zX8_init 26 [a0] (st) (n, sl, κ, ai_upR rf i 7 (some j), m, lg) r := rg_putR dX8_init_23 fl_RX8_16 rfl (by decide +kernel) hi
theorem e_X8_init_26 : Rn o d zX8_init 26 [.ref i] (st) w r = Rn o d zX8_init 27 [.ref i] (.ref i :: st) w r := rn_A (len := 1) dX8_init_26 rfl
theorem e_X8_init_27 : Rn o d zX8_init 27 [a0] (st) w r = Rn o d zX8_init 28 [a0] (.int (nI 5) :: st) w r := rn_int (len := 1) dX8_init_27 rfl (by decide)
theorem e_X8_init_28 {n9 s9 : Nat} (e1 : n + 1 = n9) (e2 : sl + j = s9) (hj : j ≤ 1000) (hn : n < 1000000) : Rn o d zX8_init 28 [a0] (.int (nI j) :: st) (n, sl, κ, rf, m, lg) r = Rn o d zX8_init 30 [a0] (.ref n :: st) (n9, s9, va_up κ n (0, j), va_up rf n (fun _ => none), va_up m n (fun _ => 0), va_up lg n (fun _ => 0)) r := by subst e1 e2; exact rg_newI dX8_init_28 ac_0 hj hn
theorem e_X8_init_30 (hi : i < n ∧ j < n ∧ (κ i).1 = 8 + 3) : Rn o d zX8_init 30 [a0] (.ref j :: .ref i :: st) (n, sl, κ, rf, m, lg) r = Rn o d zX8_init 33 [a0] (st) (n, sl, κ, ai_upR rf i 9 (some j), m, lg) r := rg_putR dX8_init_30 fl_RX8_19 rfl (by decide +kernel) hi
theorem e_X8_init_33 : Rn o d zX8_init 33 [.ref i] (st) w r = Rn o d zX8_init 34 [.ref i] (.ref i :: st) w r := rn_A (len := 1) dX8_init_33 rfl
theorem e_X8_init_34 : Rn o d zX8_init 34 [a0] (st) w r = Rn o d zX8_init 35 [a0] (.int (nI 4) :: st) w r := rn_int (len := 1) dX8_init_34 rfl (by decide)
theorem e_X8_init_35 {n9 s9 : Nat} (e1 : n + 1 = n9) (e2 : sl + j = s9) (hj : j ≤ 1000) (hn : n < 1000000) : Rn o d zX8_init 35 [a0] (.int (nI j) :: st) (n, sl, κ, rf, m, lg) r = Rn o d zX8_init 37 [a0] (.ref n :: st) (n9, s9, va_up κ n (0, j), va_up rf n (fun _ => none), va_up m n (fun _ => 0), va_up lg n (fun _ => 0)) r := by subst e1 e2; exact rg_newI dX8_init_35 ac_0 hj hn
theorem e_X8_init_37 (hi : i < n ∧ j < n ∧ (κ i).1 = 8 + 3) : Rn o d zX8_init 37 [a0] (.ref j :: .ref i :: st) (n, sl, κ, rf, m, lg) r = Rn o d zX8_init 40 [a0] (st) (n, sl, κ, ai_upR rf i 11 (some j), m, lg) r := rg_putR dX8_init_37 fl_RX8_22 rfl (by decide +kernel) hi
theorem e_X8_init_40 : Rn o d zX8_init 40 [.ref i] (st) w r = Rn o d zX8_init 41 [.ref i] (.ref i :: st) w r := rn_A (len := 1) dX8_init_40 rfl
theorem e_X8_init_41 : Rn o d zX8_init 41 [a0] (st) w r = Rn o d zX8_init 43 [a0] (.int (nI 8) :: st) w r := rn_int (len := 2) dX8_init_41 rfl (by decide)
theorem e_X8_init_43 {n9 s9 : Nat} (e1 : n + 1 = n9) (e2 : sl + j = s9) (hj : j ≤ 1000) (hn : n < 1000000) : Rn o d zX8_init 43 [a0] (.int (nI j) :: st) (n, sl, κ, rf, m, lg) r = Rn o d zX8_init 45 [a0] (.ref n :: st) (n9, s9, va_up κ n (0, j), va_up rf n (fun _ => none), va_up m n (fun _ => 0), va_up lg n (fun _ => 0)) r := by subst e1 e2; exact rg_newI dX8_init_43 ac_0 hj hn
theorem e_X8_init_45 (hi : i < n ∧ j < n ∧ (κ i).1 = 8 + 3) : Rn o d zX8_init 45 [a0] (.ref j :: .ref i :: st) (n, sl, κ, rf, m, lg) r = Rn o d zX8_init 48 [a0] (st) (n, sl, κ, ai_upR rf i 13 (some j), m, lg) r := rg_putR dX8_init_45 fl_RX8_25 rfl (by decide +kernel) hi
theorem e_X8_init_48 : Rn o d zX8_init 48 [.ref i] (st) w r = Rn o d zX8_init 49 [.ref i] (.ref i :: st) w r := rn_A (len := 1) dX8_init_48 rfl
theorem e_X8_init_49 : Rn o d zX8_init 49 [a0] (st) w r = Rn o d zX8_init 51 [a0] (.int (nI 10) :: st) w r := rn_int (len := 2) dX8_init_49 rfl (by decide)
theorem e_X8_init_51 {n9 s9 : Nat} (e1 : n + 1 = n9) (e2 : sl + j = s9) (hj : j ≤ 1000) (hn : n < 1000000) : Rn o d zX8_init 51 [a0] (.int (nI j) :: st) (n, sl, κ, rf, m, lg) r = Rn o d zX8_init 53 [a0] (.ref n :: st) (n9, s9, va_up κ n (0, j), va_up rf n (fun _ => none), va_up m n (fun _ => 0), va_up lg n (fun _ => 0)) r := by subst e1 e2; exact rg_newI dX8_init_51 ac_0 hj hn
theorem e_X8_init_53 (hi : i < n ∧ j < n ∧ (κ i).1 = 8 + 3) : Rn o d zX8_init 53 [a0] (.ref j :: .ref i :: st) (n, sl, κ, rf, m, lg) r = Rn o d zX8_init 56 [a0] (st) (n, sl, κ, ai_upR rf i 15 (some j), m, lg) r := rg_putR dX8_init_53 fl_RX8_28 rfl (by decide +kernel) hi
theorem e_X8_init_56 : Rn o d zX8_init 56 [.ref i] (st) w r = Rn o d zX8_init 57 [.ref i] (.ref i :: st) w r := rn_A (len := 1) dX8_init_56 rfl
theorem e_X8_init_57 : Rn o d zX8_init 57 [a0] (st) w r = Rn o d zX8_init 59 [a0] (.int (nI 24) :: st) w r := rn_int (len := 2) dX8_init_57 rfl (by decide)
theorem e_X8_init_59 {n9 s9 : Nat} (e1 : n + 1 = n9) (e2 : sl + j = s9) (hj : j ≤ 1000) (hn : n < 1000000) : Rn o d zX8_init 59 [a0] (.int (nI j) :: st) (n, sl, κ, rf, m, lg) r = Rn o d zX8_init 61 [a0] (.ref n :: st) (n9, s9, va_up κ n (0, j), va_up rf n (fun _ => none), va_up m n (fun _ => 0), va_up lg n (fun _ => 0)) r := by subst e1 e2; exact rg_newI dX8_init_59 ac_0 hj hn
theorem e_X8_init_61 (hi : i < n ∧ j < n ∧ (κ i).1 = 8 + 3) : Rn o d zX8_init 61 [a0] (.ref j :: .ref i :: st) (n, sl, κ, rf, m, lg) r = Rn o d zX8_init 64 [a0] (st) (n, sl, κ, ai_upR rf i 16 (some j), m, lg) r := rg_putR dX8_init_61 fl_RX8_31 rfl (by decide +kernel) hi
theorem e_X8_init_64 : Rn o d zX8_init 64 [.ref i] (st) w r = Rn o d zX8_init 65 [.ref i] (.ref i :: st) w r := rn_A (len := 1) dX8_init_64 rfl
theorem e_X8_init_65 : Rn o d zX8_init 65 [a0] (st) w r = Rn o d zX8_init 67 [a0] (.int (nI 24) :: st) w r := rn_int (len := 2) dX8_init_65 rfl (by decide)
theorem e_X8_init_67 {n9 s9 : Nat} (e1 : n + 1 = n9) (e2 : sl + j = s9) (hj : j ≤ 1000) (hn : n < 1000000) : Rn o d zX8_init 67 [a0] (.int (nI j) :: st) (n, sl, κ, rf, m, lg) r = Rn o d zX8_init 69 [a0] (.ref n :: st) (n9, s9, va_up κ n (0, j), va_up rf n (fun _ => none), va_up m n (fun _ => 0), va_up lg n (fun _ => 0)) r := by subst e1 e2; exact rg_newI dX8_init_67 ac_0 hj hn
theorem e_X8_init_69 (hi : i < n ∧ j < n ∧ (κ i).1 = 8 + 3) : Rn o d zX8_init 69 [a0] (.ref j :: .ref i :: st) (n, sl, κ, rf, m, lg) r = Rn o d zX8_init 72 [a0] (st) (n, sl, κ, ai_upR rf i 17 (some j), m, lg) r := rg_putR dX8_init_69 fl_RX8_34 rfl (by decide +kernel) hi
theorem e_X8_init_72 : Rn o d zX8_init 72 [.ref i] (st) w r = Rn o d zX8_init 73 [.ref i] (.ref i :: st) w r := rn_A (len := 1) dX8_init_72 rfl
theorem e_X8_init_73 : Rn o d zX8_init 73 [a0] (st) w r = Rn o d zX8_init 76 [a0] (.int (nI 336) :: st) w r := rn_int (len := 3) dX8_init_73 rfl (by decide)
theorem e_X8_init_76 {n9 s9 : Nat} (e1 : n + 1 = n9) (e2 : sl + j = s9) (hj : j ≤ 1000) (hn : n < 1000000) : Rn o d zX8_init 76 [a0] (.int (nI j) :: st) (n, sl, κ, rf, m, lg) r = Rn o d zX8_init 78 [a0] (.ref n :: st) (n9, s9, va_up κ n (0, j), va_up rf n (fun _ => none), va_up m n (fun _ => 0), va_up lg n (fun _ => 0)) r := by subst e1 e2; exact rg_newI dX8_init_76 ac_0 hj hn
theorem e_X8_init_78 (hi : i < n ∧ j < n ∧ (κ i).1 = 8 + 3) : Rn o d zX8_init 78 [a0] (.ref j :: .ref i :: st) (n, sl, κ, rf, m, lg) r = Rn o d zX8_init 81 [a0] (st) (n, sl, κ, ai_upR rf i 18 (some j), m, lg) r := rg_putR dX8_init_78 fl_RX8_37 rfl (by decide +kernel) hi
theorem e_X8_init_81 : Rn o d zX8_init 81 [.ref i] (st) w r = Rn o d zX8_init 82 [.ref i] (.ref i :: st) w r := rn_A (len := 1) dX8_init_81 rfl
theorem e_X8_init_82 : Rn o d zX8_init 82 [a0] (st) w r = Rn o d zX8_init 84 [a0] (.int (nI 48) :: st) w r := rn_int (len := 2) dX8_init_82 rfl (by decide)
theorem e_X8_init_84 {n9 s9 : Nat} (e1 : n + 1 = n9) (e2 : sl + j = s9) (hj : j ≤ 1000) (hn : n < 1000000) : Rn o d zX8_init 84 [a0] (.int (nI j) :: st) (n, sl, κ, rf, m, lg) r = Rn o d zX8_init 86 [a0] (.ref n :: st) (n9, s9, va_up κ n (0, j), va_up rf n (fun _ => none), va_up m n (fun _ => 0), va_up lg n (fun _ => 0)) r := by subst e1 e2; exact rg_newI dX8_init_84 ac_0 hj hn
theorem e_X8_init_86 (hi : i < n ∧ j < n ∧ (κ i).1 = 8 + 3) : Rn o d zX8_init 86 [a0] (.ref j :: .ref i :: st) (n, sl, κ, rf, m, lg) r = Rn o d zX8_init 89 [a0] (st) (n, sl, κ, ai_upR rf i 20 (some j), m, lg) r := rg_putR dX8_init_86 fl_RX8_40 rfl (by decide +kernel) hi
theorem e_X8_init_89 : Rn o d zX8_init 89 [.ref i] (st) w r = Rn o d zX8_init 90 [.ref i] (.ref i :: st) w r := rn_A (len := 1) dX8_init_89 rfl
theorem e_X8_init_90 : Rn o d zX8_init 90 [a0] (st) w r = Rn o d zX8_init 91 [a0] (.int (nI 2) :: st) w r := rn_int (len := 1) dX8_init_90 rfl (by decide)
theorem e_X8_init_91 {n9 s9 : Nat} (e1 : n + 1 = n9) (e2 : sl + j = s9) (hj : j ≤ 1000) (hn : n < 1000000) : Rn o d zX8_init 91 [a0] (.int (nI j) :: st) (n, sl, κ, rf, m, lg) r = Rn o d zX8_init 93 [a0] (.ref n :: st) (n9, s9, va_up κ n (1, j), va_up rf n (fun _ => none), va_up m n (fun _ => 0), va_up lg n (fun _ => 0)) r := by subst e1 e2; exact rg_newZ dX8_init_91 ac_1 hj hn
theorem e_X8_init_93 (hi : i < n ∧ j < n ∧ (κ i).1 = 8 + 3) : Rn o d zX8_init 93 [a0] (.ref j :: .ref i :: st) (n, sl, κ, rf, m, lg) r = Rn o d zX8_init 96 [a0] (st) (n, sl, κ, ai_upR rf i 21 (some j), m, lg) r := rg_putR dX8_init_93 fl_RX8_43 rfl (by decide +kernel) hi
theorem e_X8_init_96 : Rn o d zX8_init 96 [.ref i] (st) w r = Rn o d zX8_init 97 [.ref i] (.ref i :: st) w r := rn_A (len := 1) dX8_init_96 rfl
theorem e_X8_init_97 : Rn o d zX8_init 97 [a0] (st) w r = Rn o d zX8_init 99 [a0] (.int (nI 6) :: st) w r := rn_int (len := 2) dX8_init_97 rfl (by decide)
theorem e_X8_init_99 {n9 s9 : Nat} (e1 : n + 1 = n9) (e2 : sl + j = s9) (hj : j ≤ 1000) (hn : n < 1000000) : Rn o d zX8_init 99 [a0] (.int (nI j) :: st) (n, sl, κ, rf, m, lg) r = Rn o d zX8_init 101 [a0] (.ref n :: st) (n9, s9, va_up κ n (0, j), va_up rf n (fun _ => none), va_up m n (fun _ => 0), va_up lg n (fun _ => 0)) r := by subst e1 e2; exact rg_newI dX8_init_99 ac_0 hj hn
theorem e_X8_init_101 (hi : i < n ∧ j < n ∧ (κ i).1 = 8 + 3) : Rn o d zX8_init 101 [a0] (.ref j :: .ref i :: st) (n, sl, κ, rf, m, lg) r = Rn o d zX8_init 104 [a0] (st) (n, sl, κ, ai_upR rf i 23 (some j), m, lg) r := rg_putR dX8_init_101 fl_RX8_47 rfl (by decide +kernel) hi
theorem e_X8_init_104 : Rn o d zX8_init 104 [.ref i] (st) w r = Rn o d zX8_init 105 [.ref i] (.ref i :: st) w r := rn_A (len := 1) dX8_init_104 rfl
theorem e_X8_init_105 : Rn o d zX8_init 105 [a0] (st) w r = Rn o d zX8_init 107 [a0] (.int (nI 6) :: st) w r := rn_int (len := 2) dX8_init_105 rfl (by decide)
theorem e_X8_init_107 {n9 s9 : Nat} (e1 : n + 1 = n9) (e2 : sl + j = s9) (hj : j ≤ 1000) (hn : n < 1000000) : Rn o d zX8_init 107 [a0] (.int (nI j) :: st) (n, sl, κ, rf, m, lg) r = Rn o d zX8_init 109 [a0] (.ref n :: st) (n9, s9, va_up κ n (0, j), va_up rf n (fun _ => none), va_up m n (fun _ => 0), va_up lg n (fun _ => 0)) r := by subst e1 e2; exact rg_newI dX8_init_107 ac_0 hj hn
theorem e_X8_init_109 (hi : i < n ∧ j < n ∧ (κ i).1 = 8 + 3) : Rn o d zX8_init 109 [a0] (.ref j :: .ref i :: st) (n, sl, κ, rf, m, lg) r = Rn o d zX8_init 112 [a0] (st) (n, sl, κ, ai_upR rf i 24 (some j), m, lg) r := rg_putR dX8_init_109 fl_RX8_50 rfl (by decide +kernel) hi
theorem e_X8_init_112 : Rn o d zX8_init 112 [.ref i] (st) w r = Rn o d zX8_init 113 [.ref i] (.ref i :: st) w r := rn_A (len := 1) dX8_init_112 rfl
theorem e_X8_init_113 : Rn o d zX8_init 113 [a0] (st) w r = Rn o d zX8_init 115 [a0] (.int (nI 6) :: st) w r := rn_int (len := 2) dX8_init_113 rfl (by decide)
theorem e_X8_init_115 {n9 s9 : Nat} (e1 : n + 1 = n9) (e2 : sl + j = s9) (hj : j ≤ 1000) (hn : n < 1000000) : Rn o d zX8_init 115 [a0] (.int (nI j) :: st) (n, sl, κ, rf, m, lg) r = Rn o d zX8_init 117 [a0] (.ref n :: st) (n9, s9, va_up κ n (0, j), va_up rf n (fun _ => none), va_up m n (fun _ => 0), va_up lg n (fun _ => 0)) r := by subst e1 e2; exact rg_newI dX8_init_115 ac_0 hj hn
theorem e_X8_init_117 (hi : i < n ∧ j < n ∧ (κ i).1 = 8 + 3) : Rn o d zX8_init 117 [a0] (.ref j :: .ref i :: st) (n, sl, κ, rf, m, lg) r = Rn o d zX8_init 120 [a0] (st) (n, sl, κ, ai_upR rf i 25 (some j), m, lg) r := rg_putR dX8_init_117 fl_RX8_53 rfl (by decide +kernel) hi
theorem e_X8_init_120 : Rn o d zX8_init 120 [.ref i] (st) w r = Rn o d zX8_init 121 [.ref i] (.ref i :: st) w r := rn_A (len := 1) dX8_init_120 rfl
theorem e_X8_init_121 : Rn o d zX8_init 121 [a0] (st) w r = Rn o d zX8_init 123 [a0] (.int (nI 50) :: st) w r := rn_int (len := 2) dX8_init_121 rfl (by decide)
theorem e_X8_init_123 {n9 s9 : Nat} (e1 : n + 1 = n9) (e2 : sl + j = s9) (hj : j ≤ 1000) (hn : n < 1000000) : Rn o d zX8_init 123 [a0] (.int (nI j) :: st) (n, sl, κ, rf, m, lg) r = Rn o d zX8_init 125 [a0] (.ref n :: st) (n9, s9, va_up κ n (0, j), va_up rf n (fun _ => none), va_up m n (fun _ => 0), va_up lg n (fun _ => 0)) r := by subst e1 e2; exact rg_newI dX8_init_123 ac_0 hj hn
theorem e_X8_init_125 (hi : i < n ∧ j < n ∧ (κ i).1 = 8 + 3) : Rn o d zX8_init 125 [a0] (.ref j :: .ref i :: st) (n, sl, κ, rf, m, lg) r = Rn o d zX8_init 128 [a0] (st) (n, sl, κ, ai_upR rf i 35 (some j), m, lg) r := rg_putR dX8_init_125 fl_RX8_56 rfl (by decide +kernel) hi
theorem e_X8_init_128 : Rn o d zX8_init 128 [.ref i] (st) w r = Rn o d zX8_init 129 [.ref i] (.ref i :: st) w r := rn_A (len := 1) dX8_init_128 rfl
theorem e_X8_init_129 : Rn o d zX8_init 129 [a0] (st) w r = Rn o d zX8_init 131 [a0] (.int (nI 16) :: st) w r := rn_int (len := 2) dX8_init_129 rfl (by decide)
theorem e_X8_init_131 {n9 s9 : Nat} (e1 : n + 1 = n9) (e2 : sl + j = s9) (hj : j ≤ 1000) (hn : n < 1000000) : Rn o d zX8_init 131 [a0] (.int (nI j) :: st) (n, sl, κ, rf, m, lg) r = Rn o d zX8_init 133 [a0] (.ref n :: st) (n9, s9, va_up κ n (0, j), va_up rf n (fun _ => none), va_up m n (fun _ => 0), va_up lg n (fun _ => 0)) r := by subst e1 e2; exact rg_newI dX8_init_131 ac_0 hj hn
theorem e_X8_init_133 (hi : i < n ∧ j < n ∧ (κ i).1 = 8 + 3) : Rn o d zX8_init 133 [a0] (.ref j :: .ref i :: st) (n, sl, κ, rf, m, lg) r = Rn o d zX8_init 136 [a0] (st) (n, sl, κ, ai_upR rf i 36 (some j), m, lg) r := rg_putR dX8_init_133 fl_RX8_59 rfl (by decide +kernel) hi
theorem e_X8_init_136 : Rn o d zX8_init 136 [a0] [] w r = ((none, w) = r) := rn_R dX8_init_136 rfl
end EQC
end
section
section CTG
variable {o : ai_S} {d : Nat} {st : List Value} {w : ai_W} {r : Option Value × ai_W} {x y : Int32} {xl yl : Int64} {i j k n sl : Nat} {κ : Nat → Nat × Nat} {rf : Nat → Nat → Option Nat} {m : Nat → Nat → Int32} {lg : Nat → Nat → Int64} {a0 a1 a2 a3 a4 a5 a6 a7 a8 a9 a10 a11 a12 : Value}
theorem c_X5_init {b  : Nat} (hb : b < n)  (hk : (κ b).1 = 5 + 3) (hn : n < 900000) : Ev o (d + 1) zX5_init [.ref b] (n, sl, κ, rf, m, lg) none ((n + 1), (sl + 48), (va_up κ n (0, 48)), (ai_upR (va_up rf n (fun _ => none)) b 0 (some n)), (ai_up (va_up m n (fun _ => 0)) b 1 (nI 0)), (va_up lg n (fun _ => 0))) := by
  rw [ev_X5_init]
  rw [e_X5_init_0, e_X5_init_1, e_X5_init_4, e_X5_init_5, e_X5_init_7 (n9 := (n + 1)) (s9 := (sl + 48)) (by first | rfl | omega) (by first | rfl | omega) (by decide) (by first | decide | omega), e_X5_init_9 ⟨(by omega), (by omega), (by (try simp only [va_up]); (repeat rw [if_neg (by omega)]); exact hk)⟩, e_X5_init_12, e_X5_init_13, e_X5_init_14 ⟨(by omega), (by (try simp only [va_up]); (repeat rw [if_neg (by omega)]); exact hk)⟩, e_X5_init_17]
theorem c_X6_init {b  : Nat} (hb : b < n)  (hk : (κ b).1 = 6 + 3) (hn : n < 900000) : Ev o (d + 1) zX6_init [.ref b] (n, sl, κ, rf, m, lg) none ((n + 5), (sl + 22), (va_up (va_up (va_up (va_up (va_up κ n (0, 4)) (n + 1) (0, 4)) (n + 2) (0, 4)) (n + 3) (0, 5)) (n + 4) (0, 5)), (ai_upR (va_up (ai_upR (va_up (ai_upR (va_up (ai_upR (va_up (ai_upR (va_up rf n (fun _ => none)) b 0 (some n)) (n + 1) (fun _ => none)) b 1 (some (n + 1))) (n + 2) (fun _ => none)) b 2 (some (n + 2))) (n + 3) (fun _ => none)) b 3 (some (n + 3))) (n + 4) (fun _ => none)) b 4 (some (n + 4))), (ai_up (ai_up (ai_up (ai_up (ai_up (va_up (va_up (va_up (va_up (va_up m n (fun _ => 0)) (n + 1) (fun _ => 0)) (n + 2) (fun _ => 0)) (n + 3) (fun _ => 0)) (n + 4) (fun _ => 0)) b 5 (nI 0)) b 6 (nI 0)) b 7 (nI 0)) b 8 (nI 0)) b 9 (-9)), (va_up (va_up (va_up (va_up (va_up lg n (fun _ => 0)) (n + 1) (fun _ => 0)) (n + 2) (fun _ => 0)) (n + 3) (fun _ => 0)) (n + 4) (fun _ => 0))) := by
  rw [ev_X6_init]
  rw [e_X6_init_0, e_X6_init_1, e_X6_init_4, e_X6_init_5, e_X6_init_6 (n9 := (n + 1)) (s9 := (sl + 4)) (by first | rfl | omega) (by first | rfl | omega) (by decide) (by first | decide | omega), e_X6_init_8 ⟨(by omega), (by omega), (by (try simp only [va_up]); (repeat rw [if_neg (by omega)]); exact hk)⟩, e_X6_init_11, e_X6_init_12, e_X6_init_13 (n9 := (n + 2)) (s9 := (sl + 8)) (by first | rfl | omega) (by first | rfl | omega) (by decide) (by first | decide | omega), e_X6_init_15 ⟨(by omega), (by omega), (by (try simp only [va_up]); (repeat rw [if_neg (by omega)]); exact hk)⟩, e_X6_init_18, e_X6_init_19]
  rw [e_X6_init_20 (n9 := (n + 3)) (s9 := (sl + 12)) (by first | rfl | omega) (by first | rfl | omega) (by decide) (by first | decide | omega), e_X6_init_22 ⟨(by omega), (by omega), (by (try simp only [va_up]); (repeat rw [if_neg (by omega)]); exact hk)⟩, e_X6_init_25, e_X6_init_26, e_X6_init_27 (n9 := (n + 4)) (s9 := (sl + 17)) (by first | rfl | omega) (by first | rfl | omega) (by decide) (by first | decide | omega), e_X6_init_29 ⟨(by omega), (by omega), (by (try simp only [va_up]); (repeat rw [if_neg (by omega)]); exact hk)⟩, e_X6_init_32, e_X6_init_33, e_X6_init_34 (n9 := (n + 5)) (s9 := (sl + 22)) (by first | rfl | omega) (by first | rfl | omega) (by decide) (by first | decide | omega), e_X6_init_36 ⟨(by omega), (by omega), (by (try simp only [va_up]); (repeat rw [if_neg (by omega)]); exact hk)⟩, e_X6_init_39, e_X6_init_40]
  rw [e_X6_init_41 ⟨(by omega), (by (try simp only [va_up]); (repeat rw [if_neg (by omega)]); exact hk)⟩, e_X6_init_44, e_X6_init_45, e_X6_init_46 ⟨(by omega), (by (try simp only [va_up]); (repeat rw [if_neg (by omega)]); exact hk)⟩, e_X6_init_49, e_X6_init_50, e_X6_init_51 ⟨(by omega), (by (try simp only [va_up]); (repeat rw [if_neg (by omega)]); exact hk)⟩, e_X6_init_54, e_X6_init_55, e_X6_init_56 ⟨(by omega), (by (try simp only [va_up]); (repeat rw [if_neg (by omega)]); exact hk)⟩, e_X6_init_59, e_X6_init_60]
  rw [e_X6_init_62 ⟨(by omega), (by (try simp only [va_up]); (repeat rw [if_neg (by omega)]); exact hk)⟩, e_X6_init_65]
theorem c_X2_init {b t0 : Nat} (hb : b < n) (ht0 : t0 < n) (hk : (κ b).1 = 2 + 3) (hn : n < 900000) : Ev o (d + 1) zX2_init [.ref b, .ref t0] (n, sl, κ, rf, m, lg) none ((n + 5), (sl + 23), (va_up (va_up (va_up (va_up (va_up κ n (0, 5)) (n + 1) (0, 5)) (n + 2) (0, 5)) (n + 3) (0, 4)) (n + 4) (0, 4)), (ai_upR (ai_upR (va_up (ai_upR (va_up (ai_upR (va_up (ai_upR (va_up (ai_upR (va_up rf n (fun _ => none)) b 1 (some n)) (n + 1) (fun _ => none)) b 2 (some (n + 1))) (n + 2) (fun _ => none)) b 3 (some (n + 2))) (n + 3) (fun _ => none)) b 4 (some (n + 3))) (n + 4) (fun _ => none)) b 5 (some (n + 4))) b 0 (some t0)), (ai_up (va_up (va_up (va_up (va_up (va_up m n (fun _ => 0)) (n + 1) (fun _ => 0)) (n + 2) (fun _ => 0)) (n + 3) (fun _ => 0)) (n + 4) (fun _ => 0)) b 6 (nI 0)), (va_up (va_up (va_up (va_up (va_up lg n (fun _ => 0)) (n + 1) (fun _ => 0)) (n + 2) (fun _ => 0)) (n + 3) (fun _ => 0)) (n + 4) (fun _ => 0))) := by
  rw [ev_X2_init]
  rw [e_X2_init_0, e_X2_init_1, e_X2_init_4, e_X2_init_5, e_X2_init_6 (n9 := (n + 1)) (s9 := (sl + 5)) (by first | rfl | omega) (by first | rfl | omega) (by decide) (by first | decide | omega), e_X2_init_8 ⟨(by omega), (by omega), (by (try simp only [va_up]); (repeat rw [if_neg (by omega)]); exact hk)⟩, e_X2_init_11, e_X2_init_12, e_X2_init_13 (n9 := (n + 2)) (s9 := (sl + 10)) (by first | rfl | omega) (by first | rfl | omega) (by decide) (by first | decide | omega), e_X2_init_15 ⟨(by omega), (by omega), (by (try simp only [va_up]); (repeat rw [if_neg (by omega)]); exact hk)⟩, e_X2_init_18, e_X2_init_19]
  rw [e_X2_init_20 (n9 := (n + 3)) (s9 := (sl + 15)) (by first | rfl | omega) (by first | rfl | omega) (by decide) (by first | decide | omega), e_X2_init_22 ⟨(by omega), (by omega), (by (try simp only [va_up]); (repeat rw [if_neg (by omega)]); exact hk)⟩, e_X2_init_25, e_X2_init_26, e_X2_init_27 (n9 := (n + 4)) (s9 := (sl + 19)) (by first | rfl | omega) (by first | rfl | omega) (by decide) (by first | decide | omega), e_X2_init_29 ⟨(by omega), (by omega), (by (try simp only [va_up]); (repeat rw [if_neg (by omega)]); exact hk)⟩, e_X2_init_32, e_X2_init_33, e_X2_init_34 (n9 := (n + 5)) (s9 := (sl + 23)) (by first | rfl | omega) (by first | rfl | omega) (by decide) (by first | decide | omega), e_X2_init_36 ⟨(by omega), (by omega), (by (try simp only [va_up]); (repeat rw [if_neg (by omega)]); exact hk)⟩, e_X2_init_39, e_X2_init_40]
  rw [e_X2_init_41 ⟨(by omega), (by (try simp only [va_up]); (repeat rw [if_neg (by omega)]); exact hk)⟩, e_X2_init_44, e_X2_init_45, e_X2_init_46 ⟨(by omega), (by omega), (by (try simp only [va_up]); (repeat rw [if_neg (by omega)]); exact hk)⟩, e_X2_init_49]
theorem c_X4_init {b  : Nat} (hb : b < n)  (hk : (κ b).1 = 4 + 3) (hn : n < 900000) : Ev o (d + 1) zX4_init [.ref b] (n, sl, κ, rf, m, lg) none ((n + 3), (sl + 18), (va_up (va_up (va_up κ n (0, 6)) (n + 1) (0, 6)) (n + 2) (1, 6)), (ai_upR (va_up (ai_upR (va_up (ai_upR (va_up rf n (fun _ => none)) b 0 (some n)) (n + 1) (fun _ => none)) b 1 (some (n + 1))) (n + 2) (fun _ => none)) b 2 (some (n + 2))), (ai_up (va_up (va_up (va_up m n (fun _ => 0)) (n + 1) (fun _ => 0)) (n + 2) (fun _ => 0)) b 3 (nI 0)), (va_up (va_up (va_up lg n (fun _ => 0)) (n + 1) (fun _ => 0)) (n + 2) (fun _ => 0))) := by
  rw [ev_X4_init]
  rw [e_X4_init_0, e_X4_init_1, e_X4_init_4, e_X4_init_5, e_X4_init_7 (n9 := (n + 1)) (s9 := (sl + 6)) (by first | rfl | omega) (by first | rfl | omega) (by decide) (by first | decide | omega), e_X4_init_9 ⟨(by omega), (by omega), (by (try simp only [va_up]); (repeat rw [if_neg (by omega)]); exact hk)⟩, e_X4_init_12, e_X4_init_13, e_X4_init_15 (n9 := (n + 2)) (s9 := (sl + 12)) (by first | rfl | omega) (by first | rfl | omega) (by decide) (by first | decide | omega), e_X4_init_17 ⟨(by omega), (by omega), (by (try simp only [va_up]); (repeat rw [if_neg (by omega)]); exact hk)⟩, e_X4_init_20, e_X4_init_21]
  rw [e_X4_init_23 (n9 := (n + 3)) (s9 := (sl + 18)) (by first | rfl | omega) (by first | rfl | omega) (by decide) (by first | decide | omega), e_X4_init_25 ⟨(by omega), (by omega), (by (try simp only [va_up]); (repeat rw [if_neg (by omega)]); exact hk)⟩, e_X4_init_28, e_X4_init_29, e_X4_init_30 ⟨(by omega), (by (try simp only [va_up]); (repeat rw [if_neg (by omega)]); exact hk)⟩, e_X4_init_33]
theorem c_X3_init {b t0 t1 : Nat} (hb : b < n) (ht0 : t0 < n) (ht1 : t1 < n) (hk : (κ b).1 = 3 + 3) (hn : n < 900000) : Ev o (d + 1) zX3_init [.ref b, .ref t0, .ref t1] (n, sl, κ, rf, m, lg) none (n, sl, κ, (ai_upR (ai_upR rf b 0 (some t0)) b 1 (some t1)), (ai_up (ai_up (ai_up m b 2 (nI 0)) b 3 (nI 0)) b 4 (nI 0)), lg) := by
  rw [ev_X3_init]
  rw [e_X3_init_0, e_X3_init_1, e_X3_init_4, e_X3_init_5, e_X3_init_6 ⟨(by omega), (by (try simp only [va_up]); (repeat rw [if_neg (by omega)]); exact hk)⟩, e_X3_init_9, e_X3_init_10, e_X3_init_11 ⟨(by omega), (by (try simp only [va_up]); (repeat rw [if_neg (by omega)]); exact hk)⟩, e_X3_init_14, e_X3_init_15, e_X3_init_16 ⟨(by omega), (by (try simp only [va_up]); (repeat rw [if_neg (by omega)]); exact hk)⟩, e_X3_init_19]
  rw [e_X3_init_20, e_X3_init_21 ⟨(by omega), (by omega), (by (try simp only [va_up]); (repeat rw [if_neg (by omega)]); exact hk)⟩, e_X3_init_24, e_X3_init_25, e_X3_init_26 ⟨(by omega), (by omega), (by (try simp only [va_up]); (repeat rw [if_neg (by omega)]); exact hk)⟩, e_X3_init_29]
theorem c_X1_init {b t0 t1 : Nat} (hb : b < n) (ht0 : t0 < n) (ht1 : t1 < n) (hk : (κ b).1 = 1 + 3) (hn : n < 900000) : Ev o (d + 1) zX1_init [.ref b, .ref t0, .ref t1] (n, sl, κ, rf, m, lg) none (n, sl, κ, (ai_upR (ai_upR rf b 0 (some t0)) b 1 (some t1)), m, lg) := by
  rw [ev_X1_init]
  rw [e_X1_init_0, e_X1_init_1, e_X1_init_4, e_X1_init_5, e_X1_init_6 ⟨(by omega), (by omega), (by (try simp only [va_up]); (repeat rw [if_neg (by omega)]); exact hk)⟩, e_X1_init_9, e_X1_init_10, e_X1_init_11 ⟨(by omega), (by omega), (by (try simp only [va_up]); (repeat rw [if_neg (by omega)]); exact hk)⟩, e_X1_init_14]
end CTG
end
section
section CTC
variable {o : ai_S} {d : Nat} {st : List Value} {w : ai_W} {r : Option Value × ai_W} {x y : Int32} {xl yl : Int64} {i j k n sl : Nat} {κ : Nat → Nat × Nat} {rf : Nat → Nat → Option Nat} {m : Nat → Nat → Int32} {lg : Nat → Nat → Int64} {a0 a1 a2 a3 a4 a5 a6 a7 a8 a9 a10 a11 a12 : Value}
def cs_k : Nat → Nat × Nat := (va_up (fun _ => (0, 0)) 0 (7 + 3, 12))
def cs_rf : Nat → Nat → Option Nat := (va_up (fun _ _ => none) 0 (fun _ => none))
def cs_m : Nat → Nat → Int32 := (va_up (fun _ _ => 0) 0 (fun _ => 0))
def cs_lg : Nat → Nat → Int64 := (va_up (fun _ _ => 0) 0 (fun _ => 0))
def ca_k : Nat → Nat × Nat := (va_up (va_up (va_up (va_up (va_up (va_up (va_up (va_up (va_up (va_up (va_up (va_up (va_up (va_up (va_up (va_up (va_up (va_up (va_up (va_up (va_up (va_up (va_up (va_up (va_up (va_up (va_up cs_k 1 (5 + 3, 2)) 2 (0, 48)) 3 (6 + 3, 10)) 4 (0, 4)) 5 (0, 4)) 6 (0, 4)) 7 (0, 5)) 8 (0, 5)) 9 (6 + 3, 10)) 10 (0, 4)) 11 (0, 4)) 12 (0, 4)) 13 (0, 5)) 14 (0, 5)) 15 (2 + 3, 7)) 16 (0, 5)) 17 (0, 5)) 18 (0, 5)) 19 (0, 4)) 20 (0, 4)) 21 (2 + 3, 7)) 22 (0, 5)) 23 (0, 5)) 24 (0, 5)) 25 (0, 4)) 26 (0, 4)) 27 (0 + 3, 3))
def ca_rf : Nat → Nat → Option Nat := (va_up (ai_upR (ai_upR (ai_upR (va_up (ai_upR (va_up (ai_upR (va_up (ai_upR (va_up (ai_upR (va_up (va_up (ai_upR (ai_upR (ai_upR (va_up (ai_upR (va_up (ai_upR (va_up (ai_upR (va_up (ai_upR (va_up (va_up (ai_upR (ai_upR (va_up (ai_upR (va_up (ai_upR (va_up (ai_upR (va_up (ai_upR (va_up (va_up (ai_upR (ai_upR (va_up (ai_upR (va_up (ai_upR (va_up (ai_upR (va_up (ai_upR (va_up (va_up (ai_upR (ai_upR (va_up (va_up cs_rf 1 (fun _ => none)) 2 (fun _ => none)) 1 0 (some 2)) 0 0 (some 1)) 3 (fun _ => none)) 4 (fun _ => none)) 3 0 (some 4)) 5 (fun _ => none)) 3 1 (some 5)) 6 (fun _ => none)) 3 2 (some 6)) 7 (fun _ => none)) 3 3 (some 7)) 8 (fun _ => none)) 3 4 (some 8)) 0 1 (some 3)) 9 (fun _ => none)) 10 (fun _ => none)) 9 0 (some 10)) 11 (fun _ => none)) 9 1 (some 11)) 12 (fun _ => none)) 9 2 (some 12)) 13 (fun _ => none)) 9 3 (some 13)) 14 (fun _ => none)) 9 4 (some 14)) 0 2 (some 9)) 15 (fun _ => none)) 16 (fun _ => none)) 15 1 (some 16)) 17 (fun _ => none)) 15 2 (some 17)) 18 (fun _ => none)) 15 3 (some 18)) 19 (fun _ => none)) 15 4 (some 19)) 20 (fun _ => none)) 15 5 (some 20)) 15 0 (some 3)) 0 3 (some 15)) 21 (fun _ => none)) 22 (fun _ => none)) 21 1 (some 22)) 23 (fun _ => none)) 21 2 (some 23)) 24 (fun _ => none)) 21 3 (some 24)) 25 (fun _ => none)) 21 4 (some 25)) 26 (fun _ => none)) 21 5 (some 26)) 21 0 (some 3)) 0 4 (some 21)) 27 (fun _ => none))
def ca_m : Nat → Nat → Int32 := (va_up (ai_up (va_up (va_up (va_up (va_up (va_up (va_up (ai_up (va_up (va_up (va_up (va_up (va_up (va_up (ai_up (ai_up (ai_up (ai_up (ai_up (va_up (va_up (va_up (va_up (va_up (va_up (ai_up (ai_up (ai_up (ai_up (ai_up (va_up (va_up (va_up (va_up (va_up (va_up (ai_up (va_up (va_up cs_m 1 (fun _ => 0)) 2 (fun _ => 0)) 1 1 (nI 0)) 3 (fun _ => 0)) 4 (fun _ => 0)) 5 (fun _ => 0)) 6 (fun _ => 0)) 7 (fun _ => 0)) 8 (fun _ => 0)) 3 5 (nI 0)) 3 6 (nI 0)) 3 7 (nI 0)) 3 8 (nI 0)) 3 9 (-9)) 9 (fun _ => 0)) 10 (fun _ => 0)) 11 (fun _ => 0)) 12 (fun _ => 0)) 13 (fun _ => 0)) 14 (fun _ => 0)) 9 5 (nI 0)) 9 6 (nI 0)) 9 7 (nI 0)) 9 8 (nI 0)) 9 9 (-9)) 15 (fun _ => 0)) 16 (fun _ => 0)) 17 (fun _ => 0)) 18 (fun _ => 0)) 19 (fun _ => 0)) 20 (fun _ => 0)) 15 6 (nI 0)) 21 (fun _ => 0)) 22 (fun _ => 0)) 23 (fun _ => 0)) 24 (fun _ => 0)) 25 (fun _ => 0)) 26 (fun _ => 0)) 21 6 (nI 0)) 27 (fun _ => 0))
def ca_lg : Nat → Nat → Int64 := (va_up (va_up (va_up (va_up (va_up (va_up (va_up (va_up (va_up (va_up (va_up (va_up (va_up (va_up (va_up (va_up (va_up (va_up (va_up (va_up (va_up (va_up (va_up (va_up (va_up (va_up (va_up cs_lg 1 (fun _ => 0)) 2 (fun _ => 0)) 3 (fun _ => 0)) 4 (fun _ => 0)) 5 (fun _ => 0)) 6 (fun _ => 0)) 7 (fun _ => 0)) 8 (fun _ => 0)) 9 (fun _ => 0)) 10 (fun _ => 0)) 11 (fun _ => 0)) 12 (fun _ => 0)) 13 (fun _ => 0)) 14 (fun _ => 0)) 15 (fun _ => 0)) 16 (fun _ => 0)) 17 (fun _ => 0)) 18 (fun _ => 0)) 19 (fun _ => 0)) 20 (fun _ => 0)) 21 (fun _ => 0)) 22 (fun _ => 0)) 23 (fun _ => 0)) 24 (fun _ => 0)) 25 (fun _ => 0)) 26 (fun _ => 0)) 27 (fun _ => 0))
def cb_k : Nat → Nat × Nat := (va_up (va_up (va_up (va_up (va_up (va_up (va_up (va_up (va_up (va_up (va_up (va_up (va_up (va_up (va_up (va_up (va_up (va_up (va_up (va_up (va_up (va_up (va_up (va_up (va_up (va_up (va_up (va_up (va_up (va_up (va_up (va_up (va_up (va_up (va_up (va_up (va_up (va_up (va_up (va_up (va_up (va_up (va_up (va_up (va_up (va_up (va_up (va_up (va_up (va_up (va_up (va_up (va_up (va_up (va_up (va_up (va_up (va_up (va_up (va_up (va_up (va_up (va_up (va_up (va_up (va_up (va_up (va_up (va_up (va_up (va_up (va_up (va_up (va_up (va_up (va_up (va_up (va_up (va_up (va_up (va_up (va_up (va_up (va_up (va_up ca_k 28 (2, 14)) 29 (2 + 3, 7)) 30 (0, 5)) 31 (0, 5)) 32 (0, 5)) 33 (0, 4)) 34 (0, 4)) 35 (2 + 3, 7)) 36 (0, 5)) 37 (0, 5)) 38 (0, 5)) 39 (0, 4)) 40 (0, 4)) 41 (2 + 3, 7)) 42 (0, 5)) 43 (0, 5)) 44 (0, 5)) 45 (0, 4)) 46 (0, 4)) 47 (2 + 3, 7)) 48 (0, 5)) 49 (0, 5)) 50 (0, 5)) 51 (0, 4)) 52 (0, 4)) 53 (2 + 3, 7)) 54 (0, 5)) 55 (0, 5)) 56 (0, 5)) 57 (0, 4)) 58 (0, 4)) 59 (2 + 3, 7)) 60 (0, 5)) 61 (0, 5)) 62 (0, 5)) 63 (0, 4)) 64 (0, 4)) 65 (2 + 3, 7)) 66 (0, 5)) 67 (0, 5)) 68 (0, 5)) 69 (0, 4)) 70 (0, 4)) 71 (2 + 3, 7)) 72 (0, 5)) 73 (0, 5)) 74 (0, 5)) 75 (0, 4)) 76 (0, 4)) 77 (2 + 3, 7)) 78 (0, 5)) 79 (0, 5)) 80 (0, 5)) 81 (0, 4)) 82 (0, 4)) 83 (2 + 3, 7)) 84 (0, 5)) 85 (0, 5)) 86 (0, 5)) 87 (0, 4)) 88 (0, 4)) 89 (2 + 3, 7)) 90 (0, 5)) 91 (0, 5)) 92 (0, 5)) 93 (0, 4)) 94 (0, 4)) 95 (2 + 3, 7)) 96 (0, 5)) 97 (0, 5)) 98 (0, 5)) 99 (0, 4)) 100 (0, 4)) 101 (2 + 3, 7)) 102 (0, 5)) 103 (0, 5)) 104 (0, 5)) 105 (0, 4)) 106 (0, 4)) 107 (2 + 3, 7)) 108 (0, 5)) 109 (0, 5)) 110 (0, 5)) 111 (0, 4)) 112 (0, 4))
def cb_rf : Nat → Nat → Option Nat := (ai_upR (ai_upR (ai_upR (va_up (ai_upR (va_up (ai_upR (va_up (ai_upR (va_up (ai_upR (va_up (va_up (ai_upR (ai_upR (ai_upR (va_up (ai_upR (va_up (ai_upR (va_up (ai_upR (va_up (ai_upR (va_up (va_up (ai_upR (ai_upR (ai_upR (va_up (ai_upR (va_up (ai_upR (va_up (ai_upR (va_up (ai_upR (va_up (va_up (ai_upR (ai_upR (ai_upR (va_up (ai_upR (va_up (ai_upR (va_up (ai_upR (va_up (ai_upR (va_up (va_up (ai_upR (ai_upR (ai_upR (va_up (ai_upR (va_up (ai_upR (va_up (ai_upR (va_up (ai_upR (va_up (va_up (ai_upR (ai_upR (ai_upR (va_up (ai_upR (va_up (ai_upR (va_up (ai_upR (va_up (ai_upR (va_up (va_up (ai_upR (ai_upR (ai_upR (va_up (ai_upR (va_up (ai_upR (va_up (ai_upR (va_up (ai_upR (va_up (va_up (ai_upR (ai_upR (ai_upR (va_up (ai_upR (va_up (ai_upR (va_up (ai_upR (va_up (ai_upR (va_up (va_up (ai_upR (ai_upR (ai_upR (va_up (ai_upR (va_up (ai_upR (va_up (ai_upR (va_up (ai_upR (va_up (va_up (ai_upR (ai_upR (ai_upR (va_up (ai_upR (va_up (ai_upR (va_up (ai_upR (va_up (ai_upR (va_up (va_up (ai_upR (ai_upR (ai_upR (va_up (ai_upR (va_up (ai_upR (va_up (ai_upR (va_up (ai_upR (va_up (va_up (ai_upR (ai_upR (ai_upR (va_up (ai_upR (va_up (ai_upR (va_up (ai_upR (va_up (ai_upR (va_up (va_up (ai_upR (ai_upR (ai_upR (va_up (ai_upR (va_up (ai_upR (va_up (ai_upR (va_up (ai_upR (va_up (va_up (ai_upR (ai_upR (ai_upR (va_up (ai_upR (va_up (ai_upR (va_up (ai_upR (va_up (ai_upR (va_up (va_up (ai_upR (va_up ca_rf 28 (fun _ => none)) 27 0 (some 28)) 29 (fun _ => none)) 30 (fun _ => none)) 29 1 (some 30)) 31 (fun _ => none)) 29 2 (some 31)) 32 (fun _ => none)) 29 3 (some 32)) 33 (fun _ => none)) 29 4 (some 33)) 34 (fun _ => none)) 29 5 (some 34)) 29 0 (some 3)) 28 0 (some 29)) 35 (fun _ => none)) 36 (fun _ => none)) 35 1 (some 36)) 37 (fun _ => none)) 35 2 (some 37)) 38 (fun _ => none)) 35 3 (some 38)) 39 (fun _ => none)) 35 4 (some 39)) 40 (fun _ => none)) 35 5 (some 40)) 35 0 (some 3)) 28 1 (some 35)) 41 (fun _ => none)) 42 (fun _ => none)) 41 1 (some 42)) 43 (fun _ => none)) 41 2 (some 43)) 44 (fun _ => none)) 41 3 (some 44)) 45 (fun _ => none)) 41 4 (some 45)) 46 (fun _ => none)) 41 5 (some 46)) 41 0 (some 3)) 28 2 (some 41)) 47 (fun _ => none)) 48 (fun _ => none)) 47 1 (some 48)) 49 (fun _ => none)) 47 2 (some 49)) 50 (fun _ => none)) 47 3 (some 50)) 51 (fun _ => none)) 47 4 (some 51)) 52 (fun _ => none)) 47 5 (some 52)) 47 0 (some 3)) 28 3 (some 47)) 53 (fun _ => none)) 54 (fun _ => none)) 53 1 (some 54)) 55 (fun _ => none)) 53 2 (some 55)) 56 (fun _ => none)) 53 3 (some 56)) 57 (fun _ => none)) 53 4 (some 57)) 58 (fun _ => none)) 53 5 (some 58)) 53 0 (some 3)) 28 4 (some 53)) 59 (fun _ => none)) 60 (fun _ => none)) 59 1 (some 60)) 61 (fun _ => none)) 59 2 (some 61)) 62 (fun _ => none)) 59 3 (some 62)) 63 (fun _ => none)) 59 4 (some 63)) 64 (fun _ => none)) 59 5 (some 64)) 59 0 (some 3)) 28 5 (some 59)) 65 (fun _ => none)) 66 (fun _ => none)) 65 1 (some 66)) 67 (fun _ => none)) 65 2 (some 67)) 68 (fun _ => none)) 65 3 (some 68)) 69 (fun _ => none)) 65 4 (some 69)) 70 (fun _ => none)) 65 5 (some 70)) 65 0 (some 3)) 28 6 (some 65)) 71 (fun _ => none)) 72 (fun _ => none)) 71 1 (some 72)) 73 (fun _ => none)) 71 2 (some 73)) 74 (fun _ => none)) 71 3 (some 74)) 75 (fun _ => none)) 71 4 (some 75)) 76 (fun _ => none)) 71 5 (some 76)) 71 0 (some 3)) 28 7 (some 71)) 77 (fun _ => none)) 78 (fun _ => none)) 77 1 (some 78)) 79 (fun _ => none)) 77 2 (some 79)) 80 (fun _ => none)) 77 3 (some 80)) 81 (fun _ => none)) 77 4 (some 81)) 82 (fun _ => none)) 77 5 (some 82)) 77 0 (some 3)) 28 8 (some 77)) 83 (fun _ => none)) 84 (fun _ => none)) 83 1 (some 84)) 85 (fun _ => none)) 83 2 (some 85)) 86 (fun _ => none)) 83 3 (some 86)) 87 (fun _ => none)) 83 4 (some 87)) 88 (fun _ => none)) 83 5 (some 88)) 83 0 (some 3)) 28 9 (some 83)) 89 (fun _ => none)) 90 (fun _ => none)) 89 1 (some 90)) 91 (fun _ => none)) 89 2 (some 91)) 92 (fun _ => none)) 89 3 (some 92)) 93 (fun _ => none)) 89 4 (some 93)) 94 (fun _ => none)) 89 5 (some 94)) 89 0 (some 3)) 28 10 (some 89)) 95 (fun _ => none)) 96 (fun _ => none)) 95 1 (some 96)) 97 (fun _ => none)) 95 2 (some 97)) 98 (fun _ => none)) 95 3 (some 98)) 99 (fun _ => none)) 95 4 (some 99)) 100 (fun _ => none)) 95 5 (some 100)) 95 0 (some 3)) 28 11 (some 95)) 101 (fun _ => none)) 102 (fun _ => none)) 101 1 (some 102)) 103 (fun _ => none)) 101 2 (some 103)) 104 (fun _ => none)) 101 3 (some 104)) 105 (fun _ => none)) 101 4 (some 105)) 106 (fun _ => none)) 101 5 (some 106)) 101 0 (some 3)) 28 12 (some 101)) 107 (fun _ => none)) 108 (fun _ => none)) 107 1 (some 108)) 109 (fun _ => none)) 107 2 (some 109)) 110 (fun _ => none)) 107 3 (some 110)) 111 (fun _ => none)) 107 4 (some 111)) 112 (fun _ => none)) 107 5 (some 112)) 107 0 (some 3)) 28 13 (some 107))
def cb_m : Nat → Nat → Int32 := (ai_up (va_up (va_up (va_up (va_up (va_up (va_up (ai_up (va_up (va_up (va_up (va_up (va_up (va_up (ai_up (va_up (va_up (va_up (va_up (va_up (va_up (ai_up (va_up (va_up (va_up (va_up (va_up (va_up (ai_up (va_up (va_up (va_up (va_up (va_up (va_up (ai_up (va_up (va_up (va_up (va_up (va_up (va_up (ai_up (va_up (va_up (va_up (va_up (va_up (va_up (ai_up (va_up (va_up (va_up (va_up (va_up (va_up (ai_up (va_up (va_up (va_up (va_up (va_up (va_up (ai_up (va_up (va_up (va_up (va_up (va_up (va_up (ai_up (va_up (va_up (va_up (va_up (va_up (va_up (ai_up (va_up (va_up (va_up (va_up (va_up (va_up (ai_up (va_up (va_up (va_up (va_up (va_up (va_up (ai_up (va_up (va_up (va_up (va_up (va_up (va_up (ai_up (ai_up (va_up ca_m 28 (fun _ => 0)) 27 1 (nI 0)) 27 2 (nI 0)) 29 (fun _ => 0)) 30 (fun _ => 0)) 31 (fun _ => 0)) 32 (fun _ => 0)) 33 (fun _ => 0)) 34 (fun _ => 0)) 29 6 (nI 0)) 35 (fun _ => 0)) 36 (fun _ => 0)) 37 (fun _ => 0)) 38 (fun _ => 0)) 39 (fun _ => 0)) 40 (fun _ => 0)) 35 6 (nI 0)) 41 (fun _ => 0)) 42 (fun _ => 0)) 43 (fun _ => 0)) 44 (fun _ => 0)) 45 (fun _ => 0)) 46 (fun _ => 0)) 41 6 (nI 0)) 47 (fun _ => 0)) 48 (fun _ => 0)) 49 (fun _ => 0)) 50 (fun _ => 0)) 51 (fun _ => 0)) 52 (fun _ => 0)) 47 6 (nI 0)) 53 (fun _ => 0)) 54 (fun _ => 0)) 55 (fun _ => 0)) 56 (fun _ => 0)) 57 (fun _ => 0)) 58 (fun _ => 0)) 53 6 (nI 0)) 59 (fun _ => 0)) 60 (fun _ => 0)) 61 (fun _ => 0)) 62 (fun _ => 0)) 63 (fun _ => 0)) 64 (fun _ => 0)) 59 6 (nI 0)) 65 (fun _ => 0)) 66 (fun _ => 0)) 67 (fun _ => 0)) 68 (fun _ => 0)) 69 (fun _ => 0)) 70 (fun _ => 0)) 65 6 (nI 0)) 71 (fun _ => 0)) 72 (fun _ => 0)) 73 (fun _ => 0)) 74 (fun _ => 0)) 75 (fun _ => 0)) 76 (fun _ => 0)) 71 6 (nI 0)) 77 (fun _ => 0)) 78 (fun _ => 0)) 79 (fun _ => 0)) 80 (fun _ => 0)) 81 (fun _ => 0)) 82 (fun _ => 0)) 77 6 (nI 0)) 83 (fun _ => 0)) 84 (fun _ => 0)) 85 (fun _ => 0)) 86 (fun _ => 0)) 87 (fun _ => 0)) 88 (fun _ => 0)) 83 6 (nI 0)) 89 (fun _ => 0)) 90 (fun _ => 0)) 91 (fun _ => 0)) 92 (fun _ => 0)) 93 (fun _ => 0)) 94 (fun _ => 0)) 89 6 (nI 0)) 95 (fun _ => 0)) 96 (fun _ => 0)) 97 (fun _ => 0)) 98 (fun _ => 0)) 99 (fun _ => 0)) 100 (fun _ => 0)) 95 6 (nI 0)) 101 (fun _ => 0)) 102 (fun _ => 0)) 103 (fun _ => 0)) 104 (fun _ => 0)) 105 (fun _ => 0)) 106 (fun _ => 0)) 101 6 (nI 0)) 107 (fun _ => 0)) 108 (fun _ => 0)) 109 (fun _ => 0)) 110 (fun _ => 0)) 111 (fun _ => 0)) 112 (fun _ => 0)) 107 6 (nI 0))
def cb_lg : Nat → Nat → Int64 := (va_up (va_up (va_up (va_up (va_up (va_up (va_up (va_up (va_up (va_up (va_up (va_up (va_up (va_up (va_up (va_up (va_up (va_up (va_up (va_up (va_up (va_up (va_up (va_up (va_up (va_up (va_up (va_up (va_up (va_up (va_up (va_up (va_up (va_up (va_up (va_up (va_up (va_up (va_up (va_up (va_up (va_up (va_up (va_up (va_up (va_up (va_up (va_up (va_up (va_up (va_up (va_up (va_up (va_up (va_up (va_up (va_up (va_up (va_up (va_up (va_up (va_up (va_up (va_up (va_up (va_up (va_up (va_up (va_up (va_up (va_up (va_up (va_up (va_up (va_up (va_up (va_up (va_up (va_up (va_up (va_up (va_up (va_up (va_up (va_up ca_lg 28 (fun _ => 0)) 29 (fun _ => 0)) 30 (fun _ => 0)) 31 (fun _ => 0)) 32 (fun _ => 0)) 33 (fun _ => 0)) 34 (fun _ => 0)) 35 (fun _ => 0)) 36 (fun _ => 0)) 37 (fun _ => 0)) 38 (fun _ => 0)) 39 (fun _ => 0)) 40 (fun _ => 0)) 41 (fun _ => 0)) 42 (fun _ => 0)) 43 (fun _ => 0)) 44 (fun _ => 0)) 45 (fun _ => 0)) 46 (fun _ => 0)) 47 (fun _ => 0)) 48 (fun _ => 0)) 49 (fun _ => 0)) 50 (fun _ => 0)) 51 (fun _ => 0)) 52 (fun _ => 0)) 53 (fun _ => 0)) 54 (fun _ => 0)) 55 (fun _ => 0)) 56 (fun _ => 0)) 57 (fun _ => 0)) 58 (fun _ => 0)) 59 (fun _ => 0)) 60 (fun _ => 0)) 61 (fun _ => 0)) 62 (fun _ => 0)) 63 (fun _ => 0)) 64 (fun _ => 0)) 65 (fun _ => 0)) 66 (fun _ => 0)) 67 (fun _ => 0)) 68 (fun _ => 0)) 69 (fun _ => 0)) 70 (fun _ => 0)) 71 (fun _ => 0)) 72 (fun _ => 0)) 73 (fun _ => 0)) 74 (fun _ => 0)) 75 (fun _ => 0)) 76 (fun _ => 0)) 77 (fun _ => 0)) 78 (fun _ => 0)) 79 (fun _ => 0)) 80 (fun _ => 0)) 81 (fun _ => 0)) 82 (fun _ => 0)) 83 (fun _ => 0)) 84 (fun _ => 0)) 85 (fun _ => 0)) 86 (fun _ => 0)) 87 (fun _ => 0)) 88 (fun _ => 0)) 89 (fun _ => 0)) 90 (fun _ => 0)) 91 (fun _ => 0)) 92 (fun _ => 0)) 93 (fun _ => 0)) 94 (fun _ => 0)) 95 (fun _ => 0)) 96 (fun _ => 0)) 97 (fun _ => 0)) 98 (fun _ => 0)) 99 (fun _ => 0)) 100 (fun _ => 0)) 101 (fun _ => 0)) 102 (fun _ => 0)) 103 (fun _ => 0)) 104 (fun _ => 0)) 105 (fun _ => 0)) 106 (fun _ => 0)) 107 (fun _ => 0)) 108 (fun _ => 0)) 109 (fun _ => 0)) 110 (fun _ => 0)) 111 (fun _ => 0)) 112 (fun _ => 0))
def ce_k : Nat → Nat × Nat := (va_up (va_up (va_up (va_up (va_up (va_up (va_up (va_up (va_up (va_up (va_up (va_up (va_up (va_up (va_up (va_up (va_up (va_up (va_up (va_up cb_k 113 (4 + 3, 4)) 114 (0, 6)) 115 (0, 6)) 116 (1, 6)) 117 (3 + 3, 5)) 118 (1 + 3, 2)) 119 (2, 2)) 120 (1, 2)) 121 (2 + 3, 7)) 122 (0, 5)) 123 (0, 5)) 124 (0, 5)) 125 (0, 4)) 126 (0, 4)) 127 (2 + 3, 7)) 128 (0, 5)) 129 (0, 5)) 130 (0, 5)) 131 (0, 4)) 132 (0, 4))
def ce_rf : Nat → Nat → Option Nat := (ai_upR (ai_upR (ai_upR (va_up (ai_upR (va_up (ai_upR (va_up (ai_upR (va_up (ai_upR (va_up (va_up (ai_upR (ai_upR (ai_upR (va_up (ai_upR (va_up (ai_upR (va_up (ai_upR (va_up (ai_upR (va_up (va_up (ai_upR (va_up (ai_upR (va_up (ai_upR (ai_upR (ai_upR (va_up (ai_upR (ai_upR (ai_upR (va_up (ai_upR (ai_upR (va_up (ai_upR (va_up (ai_upR (va_up (va_up (ai_upR cb_rf 0 5 (some 27)) 113 (fun _ => none)) 114 (fun _ => none)) 113 0 (some 114)) 115 (fun _ => none)) 113 1 (some 115)) 116 (fun _ => none)) 113 2 (some 116)) 0 6 (some 113)) 117 (fun _ => none)) 117 0 (some 3)) 117 1 (some 21)) 0 7 (some 117)) 118 (fun _ => none)) 118 0 (some 3)) 118 1 (some 21)) 0 8 (some 118)) 119 (fun _ => none)) 0 9 (some 119)) 120 (fun _ => none)) 0 10 (some 120)) 121 (fun _ => none)) 122 (fun _ => none)) 121 1 (some 122)) 123 (fun _ => none)) 121 2 (some 123)) 124 (fun _ => none)) 121 3 (some 124)) 125 (fun _ => none)) 121 4 (some 125)) 126 (fun _ => none)) 121 5 (some 126)) 121 0 (some 3)) 119 0 (some 121)) 127 (fun _ => none)) 128 (fun _ => none)) 127 1 (some 128)) 129 (fun _ => none)) 127 2 (some 129)) 130 (fun _ => none)) 127 3 (some 130)) 131 (fun _ => none)) 127 4 (some 131)) 132 (fun _ => none)) 127 5 (some 132)) 127 0 (some 3)) 119 1 (some 127))
def ce_m : Nat → Nat → Int32 := (ai_up (va_up (va_up (va_up (va_up (va_up (va_up (ai_up (va_up (va_up (va_up (va_up (va_up (va_up (va_up (va_up (va_up (ai_up (ai_up (ai_up (va_up (ai_up (va_up (va_up (va_up (va_up cb_m 113 (fun _ => 0)) 114 (fun _ => 0)) 115 (fun _ => 0)) 116 (fun _ => 0)) 113 3 (nI 0)) 117 (fun _ => 0)) 117 2 (nI 0)) 117 3 (nI 0)) 117 4 (nI 0)) 118 (fun _ => 0)) 119 (fun _ => 0)) 120 (fun _ => 0)) 121 (fun _ => 0)) 122 (fun _ => 0)) 123 (fun _ => 0)) 124 (fun _ => 0)) 125 (fun _ => 0)) 126 (fun _ => 0)) 121 6 (nI 0)) 127 (fun _ => 0)) 128 (fun _ => 0)) 129 (fun _ => 0)) 130 (fun _ => 0)) 131 (fun _ => 0)) 132 (fun _ => 0)) 127 6 (nI 0))
def ce_lg : Nat → Nat → Int64 := (va_up (va_up (va_up (va_up (va_up (va_up (va_up (va_up (va_up (va_up (va_up (va_up (ai_upL (va_up (va_up (va_up (va_up (va_up (va_up (va_up (va_up cb_lg 113 (fun _ => 0)) 114 (fun _ => 0)) 115 (fun _ => 0)) 116 (fun _ => 0)) 117 (fun _ => 0)) 118 (fun _ => 0)) 119 (fun _ => 0)) 120 (fun _ => 0)) 0 11 0) 121 (fun _ => 0)) 122 (fun _ => 0)) 123 (fun _ => 0)) 124 (fun _ => 0)) 125 (fun _ => 0)) 126 (fun _ => 0)) 127 (fun _ => 0)) 128 (fun _ => 0)) 129 (fun _ => 0)) 130 (fun _ => 0)) 131 (fun _ => 0)) 132 (fun _ => 0))
def cm_k : Nat → Nat × Nat := (va_up ce_k 133 (8 + 3, 37))
def cm_rf : Nat → Nat → Option Nat := (va_up ce_rf 133 (fun _ => none))
def cm_m : Nat → Nat → Int32 := (va_up ce_m 133 (fun _ => 0))
def cm_lg : Nat → Nat → Int64 := (va_up ce_lg 133 (fun _ => 0))
def cz_k : Nat → Nat × Nat := (va_up (va_up (va_up (va_up (va_up (va_up (va_up (va_up (va_up (va_up (va_up (va_up (va_up (va_up (va_up (va_up (va_up cm_k 134 (0, 48)) 135 (0, 4)) 136 (0, 4)) 137 (0, 5)) 138 (0, 4)) 139 (0, 8)) 140 (0, 10)) 141 (0, 24)) 142 (0, 24)) 143 (0, 336)) 144 (0, 48)) 145 (1, 2)) 146 (0, 6)) 147 (0, 6)) 148 (0, 6)) 149 (0, 50)) 150 (0, 16))
def cz_rf : Nat → Nat → Option Nat := (ai_upR (va_up (ai_upR (va_up (ai_upR (va_up (ai_upR (va_up (ai_upR (va_up (ai_upR (va_up (ai_upR (va_up (ai_upR (va_up (ai_upR (va_up (ai_upR (va_up (ai_upR (va_up (ai_upR (va_up (ai_upR (va_up (ai_upR (va_up (ai_upR (va_up (ai_upR (va_up (ai_upR (va_up cm_rf 134 (fun _ => none)) 133 1 (some 134)) 135 (fun _ => none)) 133 5 (some 135)) 136 (fun _ => none)) 133 7 (some 136)) 137 (fun _ => none)) 133 9 (some 137)) 138 (fun _ => none)) 133 11 (some 138)) 139 (fun _ => none)) 133 13 (some 139)) 140 (fun _ => none)) 133 15 (some 140)) 141 (fun _ => none)) 133 16 (some 141)) 142 (fun _ => none)) 133 17 (some 142)) 143 (fun _ => none)) 133 18 (some 143)) 144 (fun _ => none)) 133 20 (some 144)) 145 (fun _ => none)) 133 21 (some 145)) 146 (fun _ => none)) 133 23 (some 146)) 147 (fun _ => none)) 133 24 (some 147)) 148 (fun _ => none)) 133 25 (some 148)) 149 (fun _ => none)) 133 35 (some 149)) 150 (fun _ => none)) 133 36 (some 150))
def cz_m : Nat → Nat → Int32 := (va_up (va_up (va_up (va_up (va_up (va_up (va_up (va_up (va_up (va_up (va_up (va_up (va_up (va_up (va_up (va_up (va_up cm_m 134 (fun _ => 0)) 135 (fun _ => 0)) 136 (fun _ => 0)) 137 (fun _ => 0)) 138 (fun _ => 0)) 139 (fun _ => 0)) 140 (fun _ => 0)) 141 (fun _ => 0)) 142 (fun _ => 0)) 143 (fun _ => 0)) 144 (fun _ => 0)) 145 (fun _ => 0)) 146 (fun _ => 0)) 147 (fun _ => 0)) 148 (fun _ => 0)) 149 (fun _ => 0)) 150 (fun _ => 0))
def cz_lg : Nat → Nat → Int64 := (va_up (va_up (va_up (va_up (va_up (va_up (va_up (va_up (va_up (va_up (va_up (va_up (va_up (va_up (va_up (va_up (va_up cm_lg 134 (fun _ => 0)) 135 (fun _ => 0)) 136 (fun _ => 0)) 137 (fun _ => 0)) 138 (fun _ => 0)) 139 (fun _ => 0)) 140 (fun _ => 0)) 141 (fun _ => 0)) 142 (fun _ => 0)) 143 (fun _ => 0)) 144 (fun _ => 0)) 145 (fun _ => 0)) 146 (fun _ => 0)) 147 (fun _ => 0)) 148 (fun _ => 0)) 149 (fun _ => 0)) 150 (fun _ => 0))
set_option maxHeartbeats 4000000 in
set_option maxRecDepth 20000 in
theorem c_X0_init : Ev o (d + 2) zX0_init [.ref 27, .ref 3] (28, 189, ca_k, ca_rf, ca_m, ca_lg) none (113, 623, cb_k, cb_rf, cb_m, cb_lg) := by
  rw [ev_X0_init]
  rw [e_X0_init_0, e_X0_init_1, e_X0_init_4, e_X0_init_5, e_X0_init_7 (n9 := 29) (s9 := 203) (by first | rfl | omega) (by first | rfl | omega) (by decide) (by first | decide | omega), e_X0_init_10 ⟨(by first | decide | omega), (by first | decide | omega), (by first | rfl | (simp [va_up]; done) | (simp [va_up, *]; done) | (simp [va_up]; omega))⟩, e_X0_init_13, e_X0_init_14, e_X0_init_15 ⟨(by first | decide | omega), (by first | rfl | (simp [va_up]; done) | (simp [va_up, *]; done) | (simp [va_up]; omega))⟩, e_X0_init_18, e_X0_init_19, e_X0_init_20 ⟨(by first | decide | omega), (by first | rfl | (simp [va_up]; done) | (simp [va_up, *]; done) | (simp [va_up]; omega))⟩]
  rw [e_X0_init_23, e_X0_init_24 (by rfl), e_X0_init_25, e_X0_init_26, e_X0_init_28, if_neg (by decide), e_X0_init_31, e_X0_init_32 (j := 28) ⟨(by first | decide | omega), (by first | rfl | (simp [va_up]; done) | (simp [va_up, *]; done) | (simp [va_up]; omega))⟩ (by first | rfl | decide), e_X0_init_35, e_X0_init_36 (n9 := 30) (s9 := 210) (by first | rfl | omega) (by first | rfl | omega) (by first | decide | omega), e_X0_init_39, e_X0_init_40]
  rw [e_X0_init_41 (hE := c_X2_init (by decide) (by decide) (by rfl) (by decide))]
  try simp only [Nat.reduceAdd]
  rw [e_X0_init_44 ⟨(by first | decide | omega), (by first | decide | omega), (by first | decide | omega), (by first | rfl | (simp [va_up]; done) | (simp [va_up, *]; done) | (simp [va_up]; omega))⟩ (by first | rfl | decide) (by decide), e_X0_init_45 (by rfl), nI_add, e_X0_init_48, e_X0_init_25, e_X0_init_26, e_X0_init_28, if_neg (by decide), e_X0_init_31, e_X0_init_32 (j := 28) ⟨(by first | decide | omega), (by first | rfl | (simp [va_up]; done) | (simp [va_up, *]; done) | (simp [va_up]; omega))⟩ (by first | rfl | decide), e_X0_init_35, e_X0_init_36 (n9 := 36) (s9 := 240) (by first | rfl | omega) (by first | rfl | omega) (by first | decide | omega)]
  rw [e_X0_init_39, e_X0_init_40, e_X0_init_41 (hE := c_X2_init (by decide) (by decide) (by rfl) (by decide))]
  try simp only [Nat.reduceAdd]
  rw [e_X0_init_44 ⟨(by first | decide | omega), (by first | decide | omega), (by first | decide | omega), (by first | rfl | (simp [va_up]; done) | (simp [va_up, *]; done) | (simp [va_up]; omega))⟩ (by first | rfl | decide) (by decide), e_X0_init_45 (by rfl), nI_add, e_X0_init_48, e_X0_init_25, e_X0_init_26, e_X0_init_28, if_neg (by decide), e_X0_init_31, e_X0_init_32 (j := 28) ⟨(by first | decide | omega), (by first | rfl | (simp [va_up]; done) | (simp [va_up, *]; done) | (simp [va_up]; omega))⟩ (by first | rfl | decide), e_X0_init_35, e_X0_init_36 (n9 := 42) (s9 := 270) (by first | rfl | omega) (by first | rfl | omega) (by first | decide | omega)]
  rw [e_X0_init_39, e_X0_init_40, e_X0_init_41 (hE := c_X2_init (by decide) (by decide) (by rfl) (by decide))]
  try simp only [Nat.reduceAdd]
  rw [e_X0_init_44 ⟨(by first | decide | omega), (by first | decide | omega), (by first | decide | omega), (by first | rfl | (simp [va_up]; done) | (simp [va_up, *]; done) | (simp [va_up]; omega))⟩ (by first | rfl | decide) (by decide), e_X0_init_45 (by rfl), nI_add, e_X0_init_48, e_X0_init_25, e_X0_init_26, e_X0_init_28, if_neg (by decide), e_X0_init_31, e_X0_init_32 (j := 28) ⟨(by first | decide | omega), (by first | rfl | (simp [va_up]; done) | (simp [va_up, *]; done) | (simp [va_up]; omega))⟩ (by first | rfl | decide), e_X0_init_35, e_X0_init_36 (n9 := 48) (s9 := 300) (by first | rfl | omega) (by first | rfl | omega) (by first | decide | omega)]
  rw [e_X0_init_39, e_X0_init_40, e_X0_init_41 (hE := c_X2_init (by decide) (by decide) (by rfl) (by decide))]
  try simp only [Nat.reduceAdd]
  rw [e_X0_init_44 ⟨(by first | decide | omega), (by first | decide | omega), (by first | decide | omega), (by first | rfl | (simp [va_up]; done) | (simp [va_up, *]; done) | (simp [va_up]; omega))⟩ (by first | rfl | decide) (by decide), e_X0_init_45 (by rfl), nI_add, e_X0_init_48, e_X0_init_25, e_X0_init_26, e_X0_init_28, if_neg (by decide), e_X0_init_31, e_X0_init_32 (j := 28) ⟨(by first | decide | omega), (by first | rfl | (simp [va_up]; done) | (simp [va_up, *]; done) | (simp [va_up]; omega))⟩ (by first | rfl | decide), e_X0_init_35, e_X0_init_36 (n9 := 54) (s9 := 330) (by first | rfl | omega) (by first | rfl | omega) (by first | decide | omega)]
  rw [e_X0_init_39, e_X0_init_40, e_X0_init_41 (hE := c_X2_init (by decide) (by decide) (by rfl) (by decide))]
  try simp only [Nat.reduceAdd]
  rw [e_X0_init_44 ⟨(by first | decide | omega), (by first | decide | omega), (by first | decide | omega), (by first | rfl | (simp [va_up]; done) | (simp [va_up, *]; done) | (simp [va_up]; omega))⟩ (by first | rfl | decide) (by decide), e_X0_init_45 (by rfl), nI_add, e_X0_init_48, e_X0_init_25, e_X0_init_26, e_X0_init_28, if_neg (by decide), e_X0_init_31, e_X0_init_32 (j := 28) ⟨(by first | decide | omega), (by first | rfl | (simp [va_up]; done) | (simp [va_up, *]; done) | (simp [va_up]; omega))⟩ (by first | rfl | decide), e_X0_init_35, e_X0_init_36 (n9 := 60) (s9 := 360) (by first | rfl | omega) (by first | rfl | omega) (by first | decide | omega)]
  rw [e_X0_init_39, e_X0_init_40, e_X0_init_41 (hE := c_X2_init (by decide) (by decide) (by rfl) (by decide))]
  try simp only [Nat.reduceAdd]
  rw [e_X0_init_44 ⟨(by first | decide | omega), (by first | decide | omega), (by first | decide | omega), (by first | rfl | (simp [va_up]; done) | (simp [va_up, *]; done) | (simp [va_up]; omega))⟩ (by first | rfl | decide) (by decide), e_X0_init_45 (by rfl), nI_add, e_X0_init_48, e_X0_init_25, e_X0_init_26, e_X0_init_28, if_neg (by decide), e_X0_init_31, e_X0_init_32 (j := 28) ⟨(by first | decide | omega), (by first | rfl | (simp [va_up]; done) | (simp [va_up, *]; done) | (simp [va_up]; omega))⟩ (by first | rfl | decide), e_X0_init_35, e_X0_init_36 (n9 := 66) (s9 := 390) (by first | rfl | omega) (by first | rfl | omega) (by first | decide | omega)]
  rw [e_X0_init_39, e_X0_init_40, e_X0_init_41 (hE := c_X2_init (by decide) (by decide) (by rfl) (by decide))]
  try simp only [Nat.reduceAdd]
  rw [e_X0_init_44 ⟨(by first | decide | omega), (by first | decide | omega), (by first | decide | omega), (by first | rfl | (simp [va_up]; done) | (simp [va_up, *]; done) | (simp [va_up]; omega))⟩ (by first | rfl | decide) (by decide), e_X0_init_45 (by rfl), nI_add, e_X0_init_48, e_X0_init_25, e_X0_init_26, e_X0_init_28, if_neg (by decide), e_X0_init_31, e_X0_init_32 (j := 28) ⟨(by first | decide | omega), (by first | rfl | (simp [va_up]; done) | (simp [va_up, *]; done) | (simp [va_up]; omega))⟩ (by first | rfl | decide), e_X0_init_35, e_X0_init_36 (n9 := 72) (s9 := 420) (by first | rfl | omega) (by first | rfl | omega) (by first | decide | omega)]
  rw [e_X0_init_39, e_X0_init_40, e_X0_init_41 (hE := c_X2_init (by decide) (by decide) (by rfl) (by decide))]
  try simp only [Nat.reduceAdd]
  rw [e_X0_init_44 ⟨(by first | decide | omega), (by first | decide | omega), (by first | decide | omega), (by first | rfl | (simp [va_up]; done) | (simp [va_up, *]; done) | (simp [va_up]; omega))⟩ (by first | rfl | decide) (by decide), e_X0_init_45 (by rfl), nI_add, e_X0_init_48, e_X0_init_25, e_X0_init_26, e_X0_init_28, if_neg (by decide), e_X0_init_31, e_X0_init_32 (j := 28) ⟨(by first | decide | omega), (by first | rfl | (simp [va_up]; done) | (simp [va_up, *]; done) | (simp [va_up]; omega))⟩ (by first | rfl | decide), e_X0_init_35, e_X0_init_36 (n9 := 78) (s9 := 450) (by first | rfl | omega) (by first | rfl | omega) (by first | decide | omega)]
  rw [e_X0_init_39, e_X0_init_40, e_X0_init_41 (hE := c_X2_init (by decide) (by decide) (by rfl) (by decide))]
  try simp only [Nat.reduceAdd]
  rw [e_X0_init_44 ⟨(by first | decide | omega), (by first | decide | omega), (by first | decide | omega), (by first | rfl | (simp [va_up]; done) | (simp [va_up, *]; done) | (simp [va_up]; omega))⟩ (by first | rfl | decide) (by decide), e_X0_init_45 (by rfl), nI_add, e_X0_init_48, e_X0_init_25, e_X0_init_26, e_X0_init_28, if_neg (by decide), e_X0_init_31, e_X0_init_32 (j := 28) ⟨(by first | decide | omega), (by first | rfl | (simp [va_up]; done) | (simp [va_up, *]; done) | (simp [va_up]; omega))⟩ (by first | rfl | decide), e_X0_init_35, e_X0_init_36 (n9 := 84) (s9 := 480) (by first | rfl | omega) (by first | rfl | omega) (by first | decide | omega)]
  rw [e_X0_init_39, e_X0_init_40, e_X0_init_41 (hE := c_X2_init (by decide) (by decide) (by rfl) (by decide))]
  try simp only [Nat.reduceAdd]
  rw [e_X0_init_44 ⟨(by first | decide | omega), (by first | decide | omega), (by first | decide | omega), (by first | rfl | (simp [va_up]; done) | (simp [va_up, *]; done) | (simp [va_up]; omega))⟩ (by first | rfl | decide) (by decide), e_X0_init_45 (by rfl), nI_add, e_X0_init_48, e_X0_init_25, e_X0_init_26, e_X0_init_28, if_neg (by decide), e_X0_init_31, e_X0_init_32 (j := 28) ⟨(by first | decide | omega), (by first | rfl | (simp [va_up]; done) | (simp [va_up, *]; done) | (simp [va_up]; omega))⟩ (by first | rfl | decide), e_X0_init_35, e_X0_init_36 (n9 := 90) (s9 := 510) (by first | rfl | omega) (by first | rfl | omega) (by first | decide | omega)]
  rw [e_X0_init_39, e_X0_init_40, e_X0_init_41 (hE := c_X2_init (by decide) (by decide) (by rfl) (by decide))]
  try simp only [Nat.reduceAdd]
  rw [e_X0_init_44 ⟨(by first | decide | omega), (by first | decide | omega), (by first | decide | omega), (by first | rfl | (simp [va_up]; done) | (simp [va_up, *]; done) | (simp [va_up]; omega))⟩ (by first | rfl | decide) (by decide), e_X0_init_45 (by rfl), nI_add, e_X0_init_48, e_X0_init_25, e_X0_init_26, e_X0_init_28, if_neg (by decide), e_X0_init_31, e_X0_init_32 (j := 28) ⟨(by first | decide | omega), (by first | rfl | (simp [va_up]; done) | (simp [va_up, *]; done) | (simp [va_up]; omega))⟩ (by first | rfl | decide), e_X0_init_35, e_X0_init_36 (n9 := 96) (s9 := 540) (by first | rfl | omega) (by first | rfl | omega) (by first | decide | omega)]
  rw [e_X0_init_39, e_X0_init_40, e_X0_init_41 (hE := c_X2_init (by decide) (by decide) (by rfl) (by decide))]
  try simp only [Nat.reduceAdd]
  rw [e_X0_init_44 ⟨(by first | decide | omega), (by first | decide | omega), (by first | decide | omega), (by first | rfl | (simp [va_up]; done) | (simp [va_up, *]; done) | (simp [va_up]; omega))⟩ (by first | rfl | decide) (by decide), e_X0_init_45 (by rfl), nI_add, e_X0_init_48, e_X0_init_25, e_X0_init_26, e_X0_init_28, if_neg (by decide), e_X0_init_31, e_X0_init_32 (j := 28) ⟨(by first | decide | omega), (by first | rfl | (simp [va_up]; done) | (simp [va_up, *]; done) | (simp [va_up]; omega))⟩ (by first | rfl | decide), e_X0_init_35, e_X0_init_36 (n9 := 102) (s9 := 570) (by first | rfl | omega) (by first | rfl | omega) (by first | decide | omega)]
  rw [e_X0_init_39, e_X0_init_40, e_X0_init_41 (hE := c_X2_init (by decide) (by decide) (by rfl) (by decide))]
  try simp only [Nat.reduceAdd]
  rw [e_X0_init_44 ⟨(by first | decide | omega), (by first | decide | omega), (by first | decide | omega), (by first | rfl | (simp [va_up]; done) | (simp [va_up, *]; done) | (simp [va_up]; omega))⟩ (by first | rfl | decide) (by decide), e_X0_init_45 (by rfl), nI_add, e_X0_init_48, e_X0_init_25, e_X0_init_26, e_X0_init_28, if_neg (by decide), e_X0_init_31, e_X0_init_32 (j := 28) ⟨(by first | decide | omega), (by first | rfl | (simp [va_up]; done) | (simp [va_up, *]; done) | (simp [va_up]; omega))⟩ (by first | rfl | decide), e_X0_init_35, e_X0_init_36 (n9 := 108) (s9 := 600) (by first | rfl | omega) (by first | rfl | omega) (by first | decide | omega)]
  rw [e_X0_init_39, e_X0_init_40, e_X0_init_41 (hE := c_X2_init (by decide) (by decide) (by rfl) (by decide))]
  try simp only [Nat.reduceAdd]
  rw [e_X0_init_44 ⟨(by first | decide | omega), (by first | decide | omega), (by first | decide | omega), (by first | rfl | (simp [va_up]; done) | (simp [va_up, *]; done) | (simp [va_up]; omega))⟩ (by first | rfl | decide) (by decide), e_X0_init_45 (by rfl), nI_add, e_X0_init_48, e_X0_init_25, e_X0_init_26, e_X0_init_28, if_pos (by decide), e_X0_init_51]
  rfl
set_option maxHeartbeats 4000000 in
set_option maxRecDepth 20000 in
theorem c_X7_init : Ev o (d + 3) zX7_init [.ref 0] (1, 12, cs_k, cs_rf, cs_m, cs_lg) none (133, 716, ce_k, ce_rf, ce_m, ce_lg) := by
  rw [ev_X7_init]
  rw [e_X7_init_0, e_X7_init_1, e_X7_init_4, e_X7_init_5 (n9 := 2) (s9 := 14) (by first | rfl | omega) (by first | rfl | omega) (by first | decide | omega), e_X7_init_8, e_X7_init_9 (hE := c_X5_init (by decide)  (by rfl) (by decide))]
  try simp only [Nat.reduceAdd]
  rw [e_X7_init_12 ⟨(by first | decide | omega), (by first | decide | omega), (by first | rfl | (simp [va_up]; done) | (simp [va_up, *]; done) | (simp [va_up]; omega))⟩, e_X7_init_15, e_X7_init_16 (n9 := 4) (s9 := 72) (by first | rfl | omega) (by first | rfl | omega) (by first | decide | omega), e_X7_init_19, e_X7_init_20 (hE := c_X6_init (by decide)  (by rfl) (by decide))]
  try simp only [Nat.reduceAdd]
  rw [e_X7_init_23 ⟨(by first | decide | omega), (by first | decide | omega), (by first | rfl | (simp [va_up]; done) | (simp [va_up, *]; done) | (simp [va_up]; omega))⟩, e_X7_init_26, e_X7_init_27 (n9 := 10) (s9 := 104) (by first | rfl | omega) (by first | rfl | omega) (by first | decide | omega), e_X7_init_30, e_X7_init_31 (hE := c_X6_init (by decide)  (by rfl) (by decide))]
  try simp only [Nat.reduceAdd]
  rw [e_X7_init_34 ⟨(by first | decide | omega), (by first | decide | omega), (by first | rfl | (simp [va_up]; done) | (simp [va_up, *]; done) | (simp [va_up]; omega))⟩, e_X7_init_37, e_X7_init_38 (n9 := 16) (s9 := 133) (by first | rfl | omega) (by first | rfl | omega) (by first | decide | omega), e_X7_init_41, e_X7_init_42, e_X7_init_43 (j := 3) ⟨(by first | decide | omega), (by first | rfl | (simp [va_up]; done) | (simp [va_up, *]; done) | (simp [va_up]; omega))⟩ (by first | rfl | decide), e_X7_init_46 (hE := c_X2_init (by decide) (by decide) (by rfl) (by decide))]
  try simp only [Nat.reduceAdd]
  rw [e_X7_init_49 ⟨(by first | decide | omega), (by first | decide | omega), (by first | rfl | (simp [va_up]; done) | (simp [va_up, *]; done) | (simp [va_up]; omega))⟩, e_X7_init_52, e_X7_init_53 (n9 := 22) (s9 := 163) (by first | rfl | omega) (by first | rfl | omega) (by first | decide | omega), e_X7_init_56, e_X7_init_57, e_X7_init_58 (j := 3) ⟨(by first | decide | omega), (by first | rfl | (simp [va_up]; done) | (simp [va_up, *]; done) | (simp [va_up]; omega))⟩ (by first | rfl | decide), e_X7_init_61 (hE := c_X2_init (by decide) (by decide) (by rfl) (by decide))]
  try simp only [Nat.reduceAdd]
  rw [e_X7_init_64 ⟨(by first | decide | omega), (by first | decide | omega), (by first | rfl | (simp [va_up]; done) | (simp [va_up, *]; done) | (simp [va_up]; omega))⟩, e_X7_init_67, e_X7_init_68 (n9 := 28) (s9 := 189) (by first | rfl | omega) (by first | rfl | omega) (by first | decide | omega), e_X7_init_71, e_X7_init_72, e_X7_init_73 (j := 3) ⟨(by first | decide | omega), (by first | rfl | (simp [va_up]; done) | (simp [va_up, *]; done) | (simp [va_up]; omega))⟩ (by first | rfl | decide)]
  change Rn _ _ _ _ _ _ (28, 189, ca_k, ca_rf, ca_m, ca_lg) _
  rw [e_X7_init_76 (hE := c_X0_init)]
  try simp only [Nat.reduceAdd]
  rw [e_X7_init_79 ⟨(by first | decide | omega), (by first | decide | omega), (by first | rfl | (simp [va_up]; done) | (simp [va_up, *]; done) | (simp [va_up]; omega))⟩, e_X7_init_82, e_X7_init_83 (n9 := 114) (s9 := 627) (by first | rfl | omega) (by first | rfl | omega) (by first | decide | omega), e_X7_init_86, e_X7_init_87 (hE := c_X4_init (by decide)  (by rfl) (by decide))]
  try simp only [Nat.reduceAdd]
  rw [e_X7_init_90 ⟨(by first | decide | omega), (by first | decide | omega), (by first | rfl | (simp [va_up]; done) | (simp [va_up, *]; done) | (simp [va_up]; omega))⟩, e_X7_init_93, e_X7_init_94 (n9 := 118) (s9 := 650) (by first | rfl | omega) (by first | rfl | omega) (by first | decide | omega), e_X7_init_97, e_X7_init_98, e_X7_init_99 (j := 3) ⟨(by first | decide | omega), (by first | rfl | (simp [va_up]; done) | (simp [va_up, *]; done) | (simp [va_up]; omega))⟩ (by first | rfl | decide), e_X7_init_102, e_X7_init_103 (j := 21) ⟨(by first | decide | omega), (by first | rfl | (simp [va_up]; done) | (simp [va_up, *]; done) | (simp [va_up]; omega))⟩ (by first | rfl | decide), e_X7_init_106 (hE := c_X3_init (by decide) (by decide) (by decide) (by rfl) (by decide))]
  try simp only [Nat.reduceAdd]
  rw [e_X7_init_109 ⟨(by first | decide | omega), (by first | decide | omega), (by first | rfl | (simp [va_up]; done) | (simp [va_up, *]; done) | (simp [va_up]; omega))⟩, e_X7_init_112, e_X7_init_113 (n9 := 119) (s9 := 652) (by first | rfl | omega) (by first | rfl | omega) (by first | decide | omega), e_X7_init_116, e_X7_init_117, e_X7_init_118 (j := 3) ⟨(by first | decide | omega), (by first | rfl | (simp [va_up]; done) | (simp [va_up, *]; done) | (simp [va_up]; omega))⟩ (by first | rfl | decide), e_X7_init_121, e_X7_init_122 (j := 21) ⟨(by first | decide | omega), (by first | rfl | (simp [va_up]; done) | (simp [va_up, *]; done) | (simp [va_up]; omega))⟩ (by first | rfl | decide), e_X7_init_125 (hE := c_X1_init (by decide) (by decide) (by decide) (by rfl) (by decide))]
  try simp only [Nat.reduceAdd]
  rw [e_X7_init_128 ⟨(by first | decide | omega), (by first | decide | omega), (by first | rfl | (simp [va_up]; done) | (simp [va_up, *]; done) | (simp [va_up]; omega))⟩, e_X7_init_131, e_X7_init_132, e_X7_init_133 (n9 := 120) (s9 := 654) (by first | rfl | omega) (by first | rfl | omega) (by decide) (by first | decide | omega), e_X7_init_136 ⟨(by first | decide | omega), (by first | decide | omega), (by first | rfl | (simp [va_up]; done) | (simp [va_up, *]; done) | (simp [va_up]; omega))⟩, e_X7_init_139, e_X7_init_140, e_X7_init_141 (n9 := 121) (s9 := 656) (by first | rfl | omega) (by first | rfl | omega) (by decide) (by first | decide | omega), e_X7_init_143 ⟨(by first | decide | omega), (by first | decide | omega), (by first | rfl | (simp [va_up]; done) | (simp [va_up, *]; done) | (simp [va_up]; omega))⟩, e_X7_init_146, e_X7_init_147, e_X7_init_148 ⟨(by first | decide | omega), (by first | rfl | (simp [va_up]; done) | (simp [va_up, *]; done) | (simp [va_up]; omega))⟩]
  rw [e_X7_init_151, e_X7_init_152 (by rfl), e_X7_init_153, e_X7_init_154, e_X7_init_155, if_neg (by decide), e_X7_init_158, e_X7_init_159 (j := 119) ⟨(by first | decide | omega), (by first | rfl | (simp [va_up]; done) | (simp [va_up, *]; done) | (simp [va_up]; omega))⟩ (by first | rfl | decide), e_X7_init_162, e_X7_init_163 (n9 := 122) (s9 := 663) (by first | rfl | omega) (by first | rfl | omega) (by first | decide | omega), e_X7_init_166, e_X7_init_167]
  rw [e_X7_init_168 (j := 3) ⟨(by first | decide | omega), (by first | rfl | (simp [va_up]; done) | (simp [va_up, *]; done) | (simp [va_up]; omega))⟩ (by first | rfl | decide), e_X7_init_171 (hE := c_X2_init (by decide) (by decide) (by rfl) (by decide))]
  try simp only [Nat.reduceAdd]
  rw [e_X7_init_174 ⟨(by first | decide | omega), (by first | decide | omega), (by first | decide | omega), (by first | rfl | (simp [va_up]; done) | (simp [va_up, *]; done) | (simp [va_up]; omega))⟩ (by first | rfl | decide) (by decide), e_X7_init_175 (by rfl), nI_add, e_X7_init_178, e_X7_init_153, e_X7_init_154, e_X7_init_155, if_neg (by decide), e_X7_init_158, e_X7_init_159 (j := 119) ⟨(by first | decide | omega), (by first | rfl | (simp [va_up]; done) | (simp [va_up, *]; done) | (simp [va_up]; omega))⟩ (by first | rfl | decide), e_X7_init_162, e_X7_init_163 (n9 := 128) (s9 := 693) (by first | rfl | omega) (by first | rfl | omega) (by first | decide | omega)]
  rw [e_X7_init_166, e_X7_init_167, e_X7_init_168 (j := 3) ⟨(by first | decide | omega), (by first | rfl | (simp [va_up]; done) | (simp [va_up, *]; done) | (simp [va_up]; omega))⟩ (by first | rfl | decide), e_X7_init_171 (hE := c_X2_init (by decide) (by decide) (by rfl) (by decide))]
  try simp only [Nat.reduceAdd]
  rw [e_X7_init_174 ⟨(by first | decide | omega), (by first | decide | omega), (by first | decide | omega), (by first | rfl | (simp [va_up]; done) | (simp [va_up, *]; done) | (simp [va_up]; omega))⟩ (by first | rfl | decide) (by decide), e_X7_init_175 (by rfl), nI_add, e_X7_init_178, e_X7_init_153, e_X7_init_154, e_X7_init_155, if_pos (by decide), e_X7_init_181]
  rfl
set_option maxHeartbeats 4000000 in
set_option maxRecDepth 20000 in
theorem c_X8_init : Ev o (d + 1) zX8_init [.ref 133] (134, 753, cm_k, cm_rf, cm_m, cm_lg) none (151, 1354, cz_k, cz_rf, cz_m, cz_lg) := by
  rw [ev_X8_init]
  rw [e_X8_init_0, e_X8_init_1, e_X8_init_4, e_X8_init_5, e_X8_init_7 (n9 := 135) (s9 := 801) (by first | rfl | omega) (by first | rfl | omega) (by decide) (by first | decide | omega), e_X8_init_9 ⟨(by first | decide | omega), (by first | decide | omega), (by first | rfl | (simp [va_up]; done) | (simp [va_up, *]; done) | (simp [va_up]; omega))⟩, e_X8_init_12, e_X8_init_13, e_X8_init_14 (n9 := 136) (s9 := 805) (by first | rfl | omega) (by first | rfl | omega) (by decide) (by first | decide | omega), e_X8_init_16 ⟨(by first | decide | omega), (by first | decide | omega), (by first | rfl | (simp [va_up]; done) | (simp [va_up, *]; done) | (simp [va_up]; omega))⟩, e_X8_init_19, e_X8_init_20]
  rw [e_X8_init_21 (n9 := 137) (s9 := 809) (by first | rfl | omega) (by first | rfl | omega) (by decide) (by first | decide | omega), e_X8_init_23 ⟨(by first | decide | omega), (by first | decide | omega), (by first | rfl | (simp [va_up]; done) | (simp [va_up, *]; done) | (simp [va_up]; omega))⟩, e_X8_init_26, e_X8_init_27, e_X8_init_28 (n9 := 138) (s9 := 814) (by first | rfl | omega) (by first | rfl | omega) (by decide) (by first | decide | omega), e_X8_init_30 ⟨(by first | decide | omega), (by first | decide | omega), (by first | rfl | (simp [va_up]; done) | (simp [va_up, *]; done) | (simp [va_up]; omega))⟩, e_X8_init_33, e_X8_init_34, e_X8_init_35 (n9 := 139) (s9 := 818) (by first | rfl | omega) (by first | rfl | omega) (by decide) (by first | decide | omega), e_X8_init_37 ⟨(by first | decide | omega), (by first | decide | omega), (by first | rfl | (simp [va_up]; done) | (simp [va_up, *]; done) | (simp [va_up]; omega))⟩, e_X8_init_40, e_X8_init_41]
  rw [e_X8_init_43 (n9 := 140) (s9 := 826) (by first | rfl | omega) (by first | rfl | omega) (by decide) (by first | decide | omega), e_X8_init_45 ⟨(by first | decide | omega), (by first | decide | omega), (by first | rfl | (simp [va_up]; done) | (simp [va_up, *]; done) | (simp [va_up]; omega))⟩, e_X8_init_48, e_X8_init_49, e_X8_init_51 (n9 := 141) (s9 := 836) (by first | rfl | omega) (by first | rfl | omega) (by decide) (by first | decide | omega), e_X8_init_53 ⟨(by first | decide | omega), (by first | decide | omega), (by first | rfl | (simp [va_up]; done) | (simp [va_up, *]; done) | (simp [va_up]; omega))⟩, e_X8_init_56, e_X8_init_57, e_X8_init_59 (n9 := 142) (s9 := 860) (by first | rfl | omega) (by first | rfl | omega) (by decide) (by first | decide | omega), e_X8_init_61 ⟨(by first | decide | omega), (by first | decide | omega), (by first | rfl | (simp [va_up]; done) | (simp [va_up, *]; done) | (simp [va_up]; omega))⟩, e_X8_init_64, e_X8_init_65]
  rw [e_X8_init_67 (n9 := 143) (s9 := 884) (by first | rfl | omega) (by first | rfl | omega) (by decide) (by first | decide | omega), e_X8_init_69 ⟨(by first | decide | omega), (by first | decide | omega), (by first | rfl | (simp [va_up]; done) | (simp [va_up, *]; done) | (simp [va_up]; omega))⟩, e_X8_init_72, e_X8_init_73, e_X8_init_76 (n9 := 144) (s9 := 1220) (by first | rfl | omega) (by first | rfl | omega) (by decide) (by first | decide | omega), e_X8_init_78 ⟨(by first | decide | omega), (by first | decide | omega), (by first | rfl | (simp [va_up]; done) | (simp [va_up, *]; done) | (simp [va_up]; omega))⟩, e_X8_init_81, e_X8_init_82, e_X8_init_84 (n9 := 145) (s9 := 1268) (by first | rfl | omega) (by first | rfl | omega) (by decide) (by first | decide | omega), e_X8_init_86 ⟨(by first | decide | omega), (by first | decide | omega), (by first | rfl | (simp [va_up]; done) | (simp [va_up, *]; done) | (simp [va_up]; omega))⟩, e_X8_init_89, e_X8_init_90]
  rw [e_X8_init_91 (n9 := 146) (s9 := 1270) (by first | rfl | omega) (by first | rfl | omega) (by decide) (by first | decide | omega), e_X8_init_93 ⟨(by first | decide | omega), (by first | decide | omega), (by first | rfl | (simp [va_up]; done) | (simp [va_up, *]; done) | (simp [va_up]; omega))⟩, e_X8_init_96, e_X8_init_97, e_X8_init_99 (n9 := 147) (s9 := 1276) (by first | rfl | omega) (by first | rfl | omega) (by decide) (by first | decide | omega), e_X8_init_101 ⟨(by first | decide | omega), (by first | decide | omega), (by first | rfl | (simp [va_up]; done) | (simp [va_up, *]; done) | (simp [va_up]; omega))⟩, e_X8_init_104, e_X8_init_105, e_X8_init_107 (n9 := 148) (s9 := 1282) (by first | rfl | omega) (by first | rfl | omega) (by decide) (by first | decide | omega), e_X8_init_109 ⟨(by first | decide | omega), (by first | decide | omega), (by first | rfl | (simp [va_up]; done) | (simp [va_up, *]; done) | (simp [va_up]; omega))⟩, e_X8_init_112, e_X8_init_113]
  rw [e_X8_init_115 (n9 := 149) (s9 := 1288) (by first | rfl | omega) (by first | rfl | omega) (by decide) (by first | decide | omega), e_X8_init_117 ⟨(by first | decide | omega), (by first | decide | omega), (by first | rfl | (simp [va_up]; done) | (simp [va_up, *]; done) | (simp [va_up]; omega))⟩, e_X8_init_120, e_X8_init_121, e_X8_init_123 (n9 := 150) (s9 := 1338) (by first | rfl | omega) (by first | rfl | omega) (by decide) (by first | decide | omega), e_X8_init_125 ⟨(by first | decide | omega), (by first | decide | omega), (by first | rfl | (simp [va_up]; done) | (simp [va_up, *]; done) | (simp [va_up]; omega))⟩, e_X8_init_128, e_X8_init_129, e_X8_init_131 (n9 := 151) (s9 := 1354) (by first | rfl | omega) (by first | rfl | omega) (by decide) (by first | decide | omega), e_X8_init_133 ⟨(by first | decide | omega), (by first | decide | omega), (by first | rfl | (simp [va_up]; done) | (simp [va_up, *]; done) | (simp [va_up]; omega))⟩, e_X8_init_136]
  rfl
end CTC
end
section
/-! the world behind the two constructors: which cell is what stays so -/
def ai_w (m : Nat → Nat → Int32) (lg : Nat → Nat → Int64) : ai_W := (151, 1354, cz_k, cz_rf, m, lg)
abbrev ai_rf : Nat → Nat → Option Nat := cz_rf
def ai_len (i : Nat) : Nat := (cz_k i).2
def ai_a0 (i : Nat) : Bool := decide (i < 151) && decide ((cz_k i).1 = 0)
def ai_a1 (i : Nat) : Bool := decide (i < 151) && decide ((cz_k i).1 = 1)
def ai_a2 (i : Nat) : Bool := decide (i < 151) && decide ((cz_k i).1 = 2)
/-- a Harbour: its arrays follow it -/
def ai_H (b : Nat) : Prop := (b < 151 ∧ (cz_k b).1 = 2 + 3) ∧ cz_rf b 0 = some 3 ∧ cz_rf b 1 = some (b + 1) ∧ cz_rf b 2 = some (b + 2) ∧ cz_rf b 3 = some (b + 3) ∧ cz_rf b 4 = some (b + 4) ∧ cz_rf b 5 = some (b + 5) ∧
  (ai_a0 (b + 1) = true ∧ ai_len (b + 1) = 5) ∧ (ai_a0 (b + 2) = true ∧ ai_len (b + 2) = 5) ∧ (ai_a0 (b + 3) = true ∧ ai_len (b + 3) = 5) ∧ (ai_a0 (b + 4) = true ∧ ai_len (b + 4) = 4) ∧ ai_a0 (b + 5) = true ∧ ai_len (b + 5) = 4
/-- a Told, likewise -/
def ai_T (b : Nat) : Prop := (b < 151 ∧ (cz_k b).1 = 6 + 3) ∧ cz_rf b 0 = some (b + 1) ∧ cz_rf b 1 = some (b + 2) ∧ cz_rf b 2 = some (b + 3) ∧ cz_rf b 3 = some (b + 4) ∧ cz_rf b 4 = some (b + 5) ∧
  (ai_a0 (b + 1) = true ∧ ai_len (b + 1) = 4) ∧ (ai_a0 (b + 2) = true ∧ ai_len (b + 2) = 4) ∧ (ai_a0 (b + 3) = true ∧ ai_len (b + 3) = 4) ∧ (ai_a0 (b + 4) = true ∧ ai_len (b + 4) = 5) ∧ ai_a0 (b + 5) = true ∧ ai_len (b + 5) = 5
section SHAPE
variable {b : Nat}
theorem ai_Hr0 (h : ai_H b) : cz_rf b 0 = some 3 := h.2.1
theorem ai_Hr1 (h : ai_H b) : cz_rf b 1 = some (b + 1) := h.2.2.1
theorem ai_Hr2 (h : ai_H b) : cz_rf b 2 = some (b + 2) := h.2.2.2.1
theorem ai_Hr3 (h : ai_H b) : cz_rf b 3 = some (b + 3) := h.2.2.2.2.1
theorem ai_Hr4 (h : ai_H b) : cz_rf b 4 = some (b + 4) := h.2.2.2.2.2.1
theorem ai_Hr5 (h : ai_H b) : cz_rf b 5 = some (b + 5) := h.2.2.2.2.2.2.1
theorem ai_Tr0 (h : ai_T b) : cz_rf b 0 = some (b + 1) := h.2.1
theorem ai_Tr1 (h : ai_T b) : cz_rf b 1 = some (b + 2) := h.2.2.1
theorem ai_Tr2 (h : ai_T b) : cz_rf b 2 = some (b + 3) := h.2.2.2.1
theorem ai_Tr3 (h : ai_T b) : cz_rf b 3 = some (b + 4) := h.2.2.2.2.1
theorem ai_Tr4 (h : ai_T b) : cz_rf b 4 = some (b + 5) := h.2.2.2.2.2.1
theorem hA1 (h : ai_H b) : ai_a0 (b + 1) = true := h.2.2.2.2.2.2.2.1.1
theorem hA2 (h : ai_H b) : ai_a0 (b + 2) = true := h.2.2.2.2.2.2.2.2.1.1
theorem hA3 (h : ai_H b) : ai_a0 (b + 3) = true := h.2.2.2.2.2.2.2.2.2.1.1
theorem hA4 (h : ai_H b) : ai_a0 (b + 4) = true := h.2.2.2.2.2.2.2.2.2.2.1.1
theorem hA5 (h : ai_H b) : ai_a0 (b + 5) = true := h.2.2.2.2.2.2.2.2.2.2.2.1
theorem hL1 (h : ai_H b) : ai_len (b + 1) = 5 := h.2.2.2.2.2.2.2.1.2
theorem hL2 (h : ai_H b) : ai_len (b + 2) = 5 := h.2.2.2.2.2.2.2.2.1.2
theorem hL3 (h : ai_H b) : ai_len (b + 3) = 5 := h.2.2.2.2.2.2.2.2.2.1.2
theorem hL4 (h : ai_H b) : ai_len (b + 4) = 4 := h.2.2.2.2.2.2.2.2.2.2.1.2
theorem hL5 (h : ai_H b) : ai_len (b + 5) = 4 := h.2.2.2.2.2.2.2.2.2.2.2.2
theorem tA1 (h : ai_T b) : ai_a0 (b + 1) = true := h.2.2.2.2.2.2.1.1
theorem tA2 (h : ai_T b) : ai_a0 (b + 2) = true := h.2.2.2.2.2.2.2.1.1
theorem tA3 (h : ai_T b) : ai_a0 (b + 3) = true := h.2.2.2.2.2.2.2.2.1.1
theorem tA4 (h : ai_T b) : ai_a0 (b + 4) = true := h.2.2.2.2.2.2.2.2.2.1.1
theorem tA5 (h : ai_T b) : ai_a0 (b + 5) = true := h.2.2.2.2.2.2.2.2.2.2.1
theorem tL1 (h : ai_T b) : ai_len (b + 1) = 4 := h.2.2.2.2.2.2.1.2
theorem tL2 (h : ai_T b) : ai_len (b + 2) = 4 := h.2.2.2.2.2.2.2.1.2
theorem tL3 (h : ai_T b) : ai_len (b + 3) = 4 := h.2.2.2.2.2.2.2.2.1.2
theorem tL4 (h : ai_T b) : ai_len (b + 4) = 5 := h.2.2.2.2.2.2.2.2.2.1.2
theorem tL5 (h : ai_T b) : ai_len (b + 5) = 5 := h.2.2.2.2.2.2.2.2.2.2.2
end SHAPE
theorem ai_H15 : ai_H 15 := by unfold ai_H; decide +kernel
theorem ai_H21 : ai_H 21 := by unfold ai_H; decide +kernel
theorem ai_H121 : ai_H 121 := by unfold ai_H; decide +kernel
theorem ai_H127 : ai_H 127 := by unfold ai_H; decide +kernel
theorem ai_Hact : ∀ i, i < 14 → ai_H (29 + 6 * i) := by unfold ai_H; decide +kernel
theorem ai_act : ∀ i, i < 14 → cz_rf 28 i = some (29 + 6 * i) := by decide +kernel
theorem ai_T3 : ai_T 3 := by unfold ai_T; decide +kernel
theorem ai_T9 : ai_T 9 := by unfold ai_T; decide +kernel
theorem ai_lens : ∀ i, i < 151 → (cz_k i).2 ≤ 1000 := by decide +kernel
theorem ai_lt_a0 {i : Nat} (h : ai_a0 i = true) : i < 151 ∧ (cz_k i).1 = 0 := by simpa [ai_a0] using h
theorem ai_lt_a1 {i : Nat} (h : ai_a1 i = true) : i < 151 ∧ (cz_k i).1 = 1 := by simpa [ai_a1] using h
theorem ai_lt_a2 {i : Nat} (h : ai_a2 i = true) : i < 151 ∧ (cz_k i).1 = 2 := by simpa [ai_a2] using h
section RF
variable {o : ai_S} {d : Nat} {z : ai_Mi} {pc : Nat} {L st : List Value} {r : Option Value × ai_W} {x y v : Int32} {i j k idx : Nat} {m : Nat → Nat → Int32} {lg : Nat → Nat → Int64}
theorem ai_ix {n j : Nat} (hj : j < n) (hn : n ≤ 1000) : ¬ (nI j < 0 ∨ n ≤ (nI j).toNatClampNeg) ∧ (nI j).toNatClampNeg = j := by
  have h2 := nI_clamp (n := j) (by omega)
  refine ⟨fun h => ?_, h2⟩
  rw [h2] at h
  exact h.elim (nI_pos (by omega)) (by omega)
theorem rf_ald0 (hd : decode z.2.1 pc = .ok (.iaload, 1)) (hk : ai_a0 i = true) (hj : j < ai_len i) : Rn o d z pc L (.int (nI j) :: .ref i :: st) (ai_w m lg) r = Rn o d z (pc + 1) L (.int (m i j) :: st) (ai_w m lg) r := rn_M hd (by
  obtain ⟨h1, h2⟩ := ai_lt_a0 hk
  obtain ⟨h3, h4⟩ := ai_ix hj (ai_lens i h1)
  unfold ai_len at h3
  rw [h4] at h3
  simp only [ai_M, ai_ald, ai_w, ai_keep, h1, h2, h3, h4, if_pos, not_false_eq_true, and_self])
theorem rf_ald1 (hd : decode z.2.1 pc = .ok (.baload, 1)) (hk : ai_a1 i = true) (hj : j < ai_len i) : Rn o d z pc L (.int (nI j) :: .ref i :: st) (ai_w m lg) r = Rn o d z (pc + 1) L (.int (m i j) :: st) (ai_w m lg) r := rn_M hd (by
  obtain ⟨h1, h2⟩ := ai_lt_a1 hk
  obtain ⟨h3, h4⟩ := ai_ix hj (ai_lens i h1)
  unfold ai_len at h3
  rw [h4] at h3
  simp only [ai_M, ai_ald, ai_w, ai_keep, h1, h2, h3, h4, if_pos, not_false_eq_true, and_self])
theorem rf_aldO (hd : decode z.2.1 pc = .ok (.iaload, 1)) (hk : k < 2) (hj : j < o.1 k) (hl : o.1 k ≤ 1000) : Rn o d z pc L (.int (nI j) :: .ref (ai_O + k) :: st) (ai_w m lg) r = Rn o d z (pc + 1) L (.int (o.2 k j) :: st) (ai_w m lg) r := rn_M hd (by
  obtain ⟨h3, h4⟩ := ai_ix hj hl
  rw [h4] at h3
  have e1 : ¬ (ai_O + k < 151) := by
    have : ai_O = 1000000000 := rfl
    omega
  have e2 : ai_O + k - ai_O = k := Nat.add_sub_cancel_left _ _
  have e3 : ai_O ≤ ai_O + k := Nat.le_add_right _ _
  have e4 : ai_O + k < ai_O + 2 := Nat.add_lt_add_left hk _
  simp only [ai_M, ai_ald, ai_w, ai_keep, e1, e2, e3, e4, h3, h4, if_pos, if_false, not_false_eq_true, and_self])
theorem rf_ast0 (hd : decode z.2.1 pc = .ok (.iastore, 1)) (hk : ai_a0 i = true) (hj : j < ai_len i) : Rn o d z pc L (.int x :: .int (nI j) :: .ref i :: st) (ai_w m lg) r = Rn o d z (pc + 1) L st (ai_w (ai_up m i j x) lg) r := rn_M hd (by
  obtain ⟨h1, h2⟩ := ai_lt_a0 hk
  obtain ⟨h3, h4⟩ := ai_ix hj (ai_lens i h1)
  unfold ai_len at h3
  rw [h4] at h3
  simp only [ai_M, ai_ast, ai_w, h1, h2, h3, h4, if_pos, not_false_eq_true, and_self])
theorem rf_ast1 (hd : decode z.2.1 pc = .ok (.bastore, 1)) (hk : ai_a1 i = true) (hj : j < ai_len i) : Rn o d z pc L (.int x :: .int (nI j) :: .ref i :: st) (ai_w m lg) r = Rn o d z (pc + 1) L st (ai_w (ai_up m i j (vp_nar .boolean x)) lg) r := rn_M hd (by
  obtain ⟨h1, h2⟩ := ai_lt_a1 hk
  obtain ⟨h3, h4⟩ := ai_ix hj (ai_lens i h1)
  unfold ai_len at h3
  rw [h4] at h3
  simp only [ai_M, ai_ast, ai_w, h1, h2, h3, h4, if_pos, not_false_eq_true, and_self])
theorem rf_aldR (hd : decode z.2.1 pc = .ok (.aaload, 1)) (hk : ai_a2 i = true) (hj : j < ai_len i) (hq : ai_rf i j = some k) : Rn o d z pc L (.int (nI j) :: .ref i :: st) (ai_w m lg) r = Rn o d z (pc + 1) L (.ref k :: st) (ai_w m lg) r := rn_M hd (by
  obtain ⟨h1, h2⟩ := ai_lt_a2 hk
  obtain ⟨h3, h4⟩ := ai_ix hj (ai_lens i h1)
  unfold ai_len at h3
  rw [h4] at h3
  simp only [ai_M, ai_aldR, ai_w, ai_keep, h1, h2, h3, h4, hq, if_pos, not_false_eq_true, and_self])
theorem rf_copy (hd : decode z.2.1 pc = .ok (.invokestatic idx, 3)) (hl : ai_mlk z.1.cls idx = some arraycopyName) (y1 : Cond.native arraycopyName ∈ ai_tb) (y2 : Cond.static arraycopyName ∈ ai_tb) (y3 : Cond.initialized "java/lang/System" ∈ ai_tb) (hi : ai_a0 i = true) (hj : ai_a0 j = true) (h1 : k ≤ ai_len i) (h2 : k ≤ ai_len j) : Rn o (d + 1) z pc L [.int (nI k), .int (nI 0), .ref j, .int (nI 0), .ref i] (ai_w m lg) r = Rn o (d + 1) z (pc + 3) L [] (ai_w (va_up m j (va_cpy (m i) (m j) 0 0 k)) lg) r := rn_M hd (by
  obtain ⟨a1, a2⟩ := ai_lt_a0 hi
  obtain ⟨b1, b2⟩ := ai_lt_a0 hj
  have l1 := ai_lens i a1
  have l2 := ai_lens j b1
  unfold ai_len at h1 h2
  have c1 := nI_clamp (n := k) (by omega)
  have c2 : (nI 0).toNatClampNeg = 0 := nI_clamp (by omega)
  have p1 : ¬ nI k < 0 := nI_pos (by omega)
  have p2 : ¬ nI 0 < 0 := nI_pos (by omega)
  simp only [ai_M, hl, y1, y2, y3, Nat.zero_lt_succ, and_self, if_pos, ai_cpy, ai_w, a1, b1, a2, b2, c1, c2, p1, p2, Nat.zero_add, h1, h2, not_false_eq_true, List.map_nil, List.sum_nil, Nat.zero_le])
end RF
end
section
theorem ai_isRX7 : 0 < 151 ∧ (cz_k 0).1 = 7 + 3 := by decide +kernel
theorem ai_isRX5 : 1 < 151 ∧ (cz_k 1).1 = 5 + 3 := by decide +kernel
theorem ai_isRX0 : 27 < 151 ∧ (cz_k 27).1 = 0 + 3 := by decide +kernel
theorem ai_isRX4 : 113 < 151 ∧ (cz_k 113).1 = 4 + 3 := by decide +kernel
theorem ai_isRX3 : 117 < 151 ∧ (cz_k 117).1 = 3 + 3 := by decide +kernel
theorem ai_isRX1 : 118 < 151 ∧ (cz_k 118).1 = 1 + 3 := by decide +kernel
theorem ai_isRX8 : 133 < 151 ∧ (cz_k 133).1 = 8 + 3 := by decide +kernel
theorem ai_rf_1_0 : cz_rf 1 0 = some 2 := by decide +kernel
theorem ai_rf_0_0 : cz_rf 0 0 = some 1 := by decide +kernel
theorem ai_rf_0_1 : cz_rf 0 1 = some 3 := by decide +kernel
theorem ai_rf_0_2 : cz_rf 0 2 = some 9 := by decide +kernel
theorem ai_rf_0_3 : cz_rf 0 3 = some 15 := by decide +kernel
theorem ai_rf_0_4 : cz_rf 0 4 = some 21 := by decide +kernel
theorem ai_rf_27_0 : cz_rf 27 0 = some 28 := by decide +kernel
theorem ai_rf_0_5 : cz_rf 0 5 = some 27 := by decide +kernel
theorem ai_rf_113_0 : cz_rf 113 0 = some 114 := by decide +kernel
theorem ai_rf_113_1 : cz_rf 113 1 = some 115 := by decide +kernel
theorem ai_rf_113_2 : cz_rf 113 2 = some 116 := by decide +kernel
theorem ai_rf_0_6 : cz_rf 0 6 = some 113 := by decide +kernel
theorem ai_rf_117_0 : cz_rf 117 0 = some 3 := by decide +kernel
theorem ai_rf_117_1 : cz_rf 117 1 = some 21 := by decide +kernel
theorem ai_rf_0_7 : cz_rf 0 7 = some 117 := by decide +kernel
theorem ai_rf_118_0 : cz_rf 118 0 = some 3 := by decide +kernel
theorem ai_rf_118_1 : cz_rf 118 1 = some 21 := by decide +kernel
theorem ai_rf_0_8 : cz_rf 0 8 = some 118 := by decide +kernel
theorem ai_rf_0_9 : cz_rf 0 9 = some 119 := by decide +kernel
theorem ai_rf_0_10 : cz_rf 0 10 = some 120 := by decide +kernel
theorem ai_rf_133_1 : cz_rf 133 1 = some 134 := by decide +kernel
theorem ai_rf_133_5 : cz_rf 133 5 = some 135 := by decide +kernel
theorem ai_rf_133_7 : cz_rf 133 7 = some 136 := by decide +kernel
theorem ai_rf_133_9 : cz_rf 133 9 = some 137 := by decide +kernel
theorem ai_rf_133_11 : cz_rf 133 11 = some 138 := by decide +kernel
theorem ai_rf_133_13 : cz_rf 133 13 = some 139 := by decide +kernel
theorem ai_rf_133_15 : cz_rf 133 15 = some 140 := by decide +kernel
theorem ai_rf_133_16 : cz_rf 133 16 = some 141 := by decide +kernel
theorem ai_rf_133_17 : cz_rf 133 17 = some 142 := by decide +kernel
theorem ai_rf_133_18 : cz_rf 133 18 = some 143 := by decide +kernel
theorem ai_rf_133_20 : cz_rf 133 20 = some 144 := by decide +kernel
theorem ai_rf_133_21 : cz_rf 133 21 = some 145 := by decide +kernel
theorem ai_rf_133_23 : cz_rf 133 23 = some 146 := by decide +kernel
theorem ai_rf_133_24 : cz_rf 133 24 = some 147 := by decide +kernel
theorem ai_rf_133_25 : cz_rf 133 25 = some 148 := by decide +kernel
theorem ai_rf_133_35 : cz_rf 133 35 = some 149 := by decide +kernel
theorem ai_rf_133_36 : cz_rf 133 36 = some 150 := by decide +kernel
end
section
section HDS
variable {o : ai_S} {d : Nat} {st : List Value} {w : ai_W} {r : Option Value × ai_W} {x y : Int32} {xl yl : Int64} {i j k n sl : Nat} {κ : Nat → Nat × Nat} {rf : Nat → Nat → Option Nat} {m : Nat → Nat → Int32} {lg : Nat → Nat → Int64} {a0 a1 a2 a3 a4 a5 a6 a7 a8 a9 a10 a11 a12 : Value}
def zJ6_bitCount_0f7a4 : ai_Mi := (yJ6_bitCount_0f7a4, cJ6_bitCount_0f7a4, 1, (some .int))
theorem ev_J6_bitCount_0f7a4 {s0 : Int32} {v : Option Value} {w' : ai_W} : Ev o d zJ6_bitCount_0f7a4 [.int s0] w v w' = Rn o d zJ6_bitCount_0f7a4 0 [.int s0] [] w (v, w') := rfl
def zX6_beginAnew : ai_Mi := (yX6_beginAnew, cX6_beginAnew, 1, none)
theorem ev_X6_beginAnew  {v : Option Value} {w' : ai_W} : Ev o d zX6_beginAnew [.ref i] w v w' = Rn o d zX6_beginAnew 0 [.ref i] [] w (v, w') := rfl
def zX6_mayEnd : ai_Mi := (yX6_mayEnd, cX6_mayEnd, 1, (some .boolean))
theorem ev_X6_mayEnd  {v : Option Value} {w' : ai_W} : Ev o d zX6_mayEnd [.ref i] w v w' = Rn o d zX6_mayEnd 0 [.ref i] [] w (v, w') := rfl
def zX6_hasBerth : ai_Mi := (yX6_hasBerth, cX6_hasBerth, 2, (some .boolean))
theorem ev_X6_hasBerth {s0 : Int32} {v : Option Value} {w' : ai_W} : Ev o d zX6_hasBerth [.ref i, .int s0] w v w' = Rn o d zX6_hasBerth 0 [.ref i, .int s0] [] w (v, w') := rfl
def zX6_hasDream : ai_Mi := (yX6_hasDream, cX6_hasDream, 2, (some .boolean))
theorem ev_X6_hasDream {s0 : Int32} {v : Option Value} {w' : ai_W} : Ev o d zX6_hasDream [.ref i, .int s0] w v w' = Rn o d zX6_hasDream 0 [.ref i, .int s0] [] w (v, w') := rfl
def zX6_tideOn : ai_Mi := (yX6_tideOn, cX6_tideOn, 2, (some .int))
theorem ev_X6_tideOn {s0 : Int32} {v : Option Value} {w' : ai_W} : Ev o d zX6_tideOn [.ref i, .int s0] w v w' = Rn o d zX6_tideOn 0 [.ref i, .int s0] [] w (v, w') := rfl
def zX6_hears : ai_Mi := (yX6_hears, cX6_hears, 2, (some .boolean))
theorem ev_X6_hears {s0 : Int32} {v : Option Value} {w' : ai_W} : Ev o d zX6_hears [.ref i, .int s0] w v w' = Rn o d zX6_hears 0 [.ref i, .int s0] [] w (v, w') := rfl
def zX6_hasRoomFor : ai_Mi := (yX6_hasRoomFor, cX6_hasRoomFor, 2, (some .boolean))
theorem ev_X6_hasRoomFor {s0 : Int32} {v : Option Value} {w' : ai_W} : Ev o d zX6_hasRoomFor [.ref i, .int s0] w v w' = Rn o d zX6_hasRoomFor 0 [.ref i, .int s0] [] w (v, w') := rfl
def zX6_hearsFirst : ai_Mi := (yX6_hearsFirst, cX6_hearsFirst, 2, (some .boolean))
theorem ev_X6_hearsFirst {s0 : Int32} {v : Option Value} {w' : ai_W} : Ev o d zX6_hearsFirst [.ref i, .int s0] w v w' = Rn o d zX6_hearsFirst 0 [.ref i, .int s0] [] w (v, w') := rfl
def zX6_hearsKind : ai_Mi := (yX6_hearsKind, cX6_hearsKind, 2, (some .boolean))
theorem ev_X6_hearsKind {s0 : Int32} {v : Option Value} {w' : ai_W} : Ev o d zX6_hearsKind [.ref i, .int s0] w v w' = Rn o d zX6_hearsKind 0 [.ref i, .int s0] [] w (v, w') := rfl
def zX2_begin : ai_Mi := (yX2_begin, cX2_begin, 2, none)
theorem ev_X2_begin  {v : Option Value} {w' : ai_W} : Ev o d zX2_begin [.ref i] w v w' = Rn o d zX2_begin 0 [.ref i, .null] [] w (v, w') := rfl
def zX2_becomes : ai_Mi := (yX2_becomes, cX2_becomes, 2, none)
theorem ev_X2_becomes {s0 : Nat} {v : Option Value} {w' : ai_W} : Ev o d zX2_becomes [.ref i, .ref s0] w v w' = Rn o d zX2_becomes 0 [.ref i, .ref s0] [] w (v, w') := rfl
def zX2_tide : ai_Mi := (yX2_tide, cX2_tide, 1, (some .int))
theorem ev_X2_tide  {v : Option Value} {w' : ai_W} : Ev o d zX2_tide [.ref i] w v w' = Rn o d zX2_tide 0 [.ref i] [] w (v, w') := rfl
def zX2_water : ai_Mi := (yX2_water, cX2_water, 2, (some .int))
theorem ev_X2_water {s0 : Int32} {v : Option Value} {w' : ai_W} : Ev o d zX2_water [.ref i, .int s0] w v w' = Rn o d zX2_water 0 [.ref i, .int s0] [] w (v, w') := rfl
def zX2_liesOff : ai_Mi := (yX2_liesOff, cX2_liesOff, 2, (some .boolean))
theorem ev_X2_liesOff {s0 : Int32} {v : Option Value} {w' : ai_W} : Ev o d zX2_liesOff [.ref i, .int s0] w v w' = Rn o d zX2_liesOff 0 [.ref i, .int s0] [] w (v, w') := rfl
def zX2_isBerthed : ai_Mi := (yX2_isBerthed, cX2_isBerthed, 2, (some .boolean))
theorem ev_X2_isBerthed {s0 : Int32} {v : Option Value} {w' : ai_W} : Ev o d zX2_isBerthed [.ref i, .int s0] w v w' = Rn o d zX2_isBerthed 0 [.ref i, .int s0] [] w (v, w') := rfl
def zX2_dreamsAt : ai_Mi := (yX2_dreamsAt, cX2_dreamsAt, 4, (some .int))
theorem ev_X2_dreamsAt {s0 : Int32} {v : Option Value} {w' : ai_W} : Ev o d zX2_dreamsAt [.ref i, .int s0] w v w' = Rn o d zX2_dreamsAt 0 [.ref i, .int s0, .null, .null] [] w (v, w') := rfl
def zX2_countAt : ai_Mi := (yX2_countAt, cX2_countAt, 2, (some .int))
theorem ev_X2_countAt {s0 : Int32} {v : Option Value} {w' : ai_W} : Ev o d zX2_countAt [.ref i, .int s0] w v w' = Rn o d zX2_countAt 0 [.ref i, .int s0] [] w (v, w') := rfl
def zX2_dreamsBerthed : ai_Mi := (yX2_dreamsBerthed, cX2_dreamsBerthed, 3, (some .int))
theorem ev_X2_dreamsBerthed  {v : Option Value} {w' : ai_W} : Ev o d zX2_dreamsBerthed [.ref i] w v w' = Rn o d zX2_dreamsBerthed 0 [.ref i, .null, .null] [] w (v, w') := rfl
def zX2_wokeInAll : ai_Mi := (yX2_wokeInAll, cX2_wokeInAll, 3, (some .int))
theorem ev_X2_wokeInAll  {v : Option Value} {w' : ai_W} : Ev o d zX2_wokeInAll [.ref i] w v w' = Rn o d zX2_wokeInAll 0 [.ref i, .null, .null] [] w (v, w') := rfl
def zX2_roomIn : ai_Mi := (yX2_roomIn, cX2_roomIn, 4, (some .int))
theorem ev_X2_roomIn {s0 : Int32} {v : Option Value} {w' : ai_W} : Ev o d zX2_roomIn [.ref i, .int s0] w v w' = Rn o d zX2_roomIn 0 [.ref i, .int s0, .null, .null] [] w (v, w') := rfl
def zX2_suits : ai_Mi := (yX2_suits, cX2_suits, 3, (some .boolean))
theorem ev_X2_suits {s0 : Int32} {s1 : Int32} {v : Option Value} {w' : ai_W} : Ev o d zX2_suits [.ref i, .int s0, .int s1] w v w' = Rn o d zX2_suits 0 [.ref i, .int s0, .int s1] [] w (v, w') := rfl
def zX2_canBe : ai_Mi := (yX2_canBe, cX2_canBe, 3, (some .boolean))
theorem ev_X2_canBe {s0 : Int32} {s1 : Int32} {v : Option Value} {w' : ai_W} : Ev o d zX2_canBe [.ref i, .int s0, .int s1] w v w' = Rn o d zX2_canBe 0 [.ref i, .int s0, .int s1] [] w (v, w') := rfl
def zX2_berthsOpenTo : ai_Mi := (yX2_berthsOpenTo, cX2_berthsOpenTo, 4, (some .int))
theorem ev_X2_berthsOpenTo {s0 : Int32} {v : Option Value} {w' : ai_W} : Ev o d zX2_berthsOpenTo [.ref i, .int s0] w v w' = Rn o d zX2_berthsOpenTo 0 [.ref i, .int s0, .null, .null] [] w (v, w') := rfl
def zX2_berthsFitFor : ai_Mi := (yX2_berthsFitFor, cX2_berthsFitFor, 4, (some .int))
theorem ev_X2_berthsFitFor {s0 : Int32} {v : Option Value} {w' : ai_W} : Ev o d zX2_berthsFitFor [.ref i, .int s0] w v w' = Rn o d zX2_berthsFitFor 0 [.ref i, .int s0, .null, .null] [] w (v, w') := rfl
def zX2_canMoor : ai_Mi := (yX2_canMoor, cX2_canMoor, 3, (some .boolean))
theorem ev_X2_canMoor {s0 : Int32} {s1 : Int32} {v : Option Value} {w' : ai_W} : Ev o d zX2_canMoor [.ref i, .int s0, .int s1] w v w' = Rn o d zX2_canMoor 0 [.ref i, .int s0, .int s1] [] w (v, w') := rfl
def zX2_canTow : ai_Mi := (yX2_canTow, cX2_canTow, 2, (some .boolean))
theorem ev_X2_canTow {s0 : Int32} {v : Option Value} {w' : ai_W} : Ev o d zX2_canTow [.ref i, .int s0] w v w' = Rn o d zX2_canTow 0 [.ref i, .int s0] [] w (v, w') := rfl
def zX2_towOut : ai_Mi := (yX2_towOut, cX2_towOut, 2, none)
theorem ev_X2_towOut {s0 : Int32} {v : Option Value} {w' : ai_W} : Ev o d zX2_towOut [.ref i, .int s0] w v w' = Rn o d zX2_towOut 0 [.ref i, .int s0] [] w (v, w') := rfl
def zX2_dreamtIn : ai_Mi := (yX2_dreamtIn, cX2_dreamtIn, 6, (some .int))
theorem ev_X2_dreamtIn {s0 : Int32} {s1 : Int32} {v : Option Value} {w' : ai_W} : Ev o d zX2_dreamtIn [.ref i, .int s0, .int s1] w v w' = Rn o d zX2_dreamtIn 0 [.ref i, .int s0, .int s1, .null, .null, .null] [] w (v, w') := rfl
def zX2_spoilt : ai_Mi := (yX2_spoilt, cX2_spoilt, 3, (some .int))
theorem ev_X2_spoilt {s0 : Int32} {s1 : Int32} {v : Option Value} {w' : ai_W} : Ev o d zX2_spoilt [.ref i, .int s0, .int s1] w v w' = Rn o d zX2_spoilt 0 [.ref i, .int s0, .int s1] [] w (v, w') := rfl
def zX2_dreamtIfFailed : ai_Mi := (yX2_dreamtIfFailed, cX2_dreamtIfFailed, 5, (some .int))
theorem ev_X2_dreamtIfFailed {s0 : Int32} {v : Option Value} {w' : ai_W} : Ev o d zX2_dreamtIfFailed [.ref i, .int s0] w v w' = Rn o d zX2_dreamtIfFailed 0 [.ref i, .int s0, .null, .null, .null] [] w (v, w') := rfl
def zX2_passNight : ai_Mi := (yX2_passNight, cX2_passNight, 5, (some .int))
theorem ev_X2_passNight  {v : Option Value} {w' : ai_W} : Ev o d zX2_passNight [.ref i] w v w' = Rn o d zX2_passNight 0 [.ref i, .null, .null, .null, .null] [] w (v, w') := rfl
def zX2_sleepIn : ai_Mi := (yX2_sleepIn, cX2_sleepIn, 4, none)
theorem ev_X2_sleepIn {s0 : Int32} {s1 : Int32} {v : Option Value} {w' : ai_W} : Ev o d zX2_sleepIn [.ref i, .int s0, .int s1] w v w' = Rn o d zX2_sleepIn 0 [.ref i, .int s0, .int s1, .null] [] w (v, w') := rfl
def zX2_lieOffLonger : ai_Mi := (yX2_lieOffLonger, cX2_lieOffLonger, 2, none)
theorem ev_X2_lieOffLonger  {v : Option Value} {w' : ai_W} : Ev o d zX2_lieOffLonger [.ref i] w v w' = Rn o d zX2_lieOffLonger 0 [.ref i, .null] [] w (v, w') := rfl
def zX2_bringNightmares : ai_Mi := (yX2_bringNightmares, cX2_bringNightmares, 2, none)
theorem ev_X2_bringNightmares  {v : Option Value} {w' : ai_W} : Ev o d zX2_bringNightmares [.ref i] w v w' = Rn o d zX2_bringNightmares 0 [.ref i, .null] [] w (v, w') := rfl
def zX2_moorInLeast : ai_Mi := (yX2_moorInLeast, cX2_moorInLeast, 3, none)
theorem ev_X2_moorInLeast {s0 : Int32} {v : Option Value} {w' : ai_W} : Ev o d zX2_moorInLeast [.ref i, .int s0] w v w' = Rn o d zX2_moorInLeast 0 [.ref i, .int s0, .null] [] w (v, w') := rfl
def zX2_dredge : ai_Mi := (yX2_dredge, cX2_dredge, 2, none)
theorem ev_X2_dredge  {v : Option Value} {w' : ai_W} : Ev o d zX2_dredge [.ref i] w v w' = Rn o d zX2_dredge 0 [.ref i, .null] [] w (v, w') := rfl
def zX2_does : ai_Mi := (yX2_does, cX2_does, 4, (some .boolean))
theorem ev_X2_does {s0 : Int32} {v : Option Value} {w' : ai_W} : Ev o d zX2_does [.ref i, .int s0] w v w' = Rn o d zX2_does 0 [.ref i, .int s0, .null, .null] [] w (v, w') := rfl
def zX2_drift : ai_Mi := (yX2_drift, cX2_drift, 2, none)
theorem ev_X2_drift {s0 : Int32} {v : Option Value} {w' : ai_W} : Ev o d zX2_drift [.ref i, .int s0] w v w' = Rn o d zX2_drift 0 [.ref i, .int s0] [] w (v, w') := rfl
def zX2_moors : ai_Mi := (yX2_moors, cX2_moors, 3, (some .boolean))
theorem ev_X2_moors {s0 : Int32} {s1 : Int32} {v : Option Value} {w' : ai_W} : Ev o d zX2_moors [.ref i, .int s0, .int s1] w v w' = Rn o d zX2_moors 0 [.ref i, .int s0, .int s1] [] w (v, w') := rfl
def zX2_tows : ai_Mi := (yX2_tows, cX2_tows, 2, (some .boolean))
theorem ev_X2_tows {s0 : Int32} {v : Option Value} {w' : ai_W} : Ev o d zX2_tows [.ref i, .int s0] w v w' = Rn o d zX2_tows 0 [.ref i, .int s0] [] w (v, w') := rfl
def zX0_remember : ai_Mi := (yX0_remember, cX0_remember, 2, none)
theorem ev_X0_remember {s0 : Nat} {v : Option Value} {w' : ai_W} : Ev o d zX0_remember [.ref i, .ref s0] w v w' = Rn o d zX0_remember 0 [.ref i, .ref s0] [] w (v, w') := rfl
def zX0_takeBack : ai_Mi := (yX0_takeBack, cX0_takeBack, 2, none)
theorem ev_X0_takeBack {s0 : Nat} {v : Option Value} {w' : ai_W} : Ev o d zX0_takeBack [.ref i, .ref s0] w v w' = Rn o d zX0_takeBack 0 [.ref i, .ref s0] [] w (v, w') := rfl
def zX0_forget : ai_Mi := (yX0_forget, cX0_forget, 1, none)
theorem ev_X0_forget  {v : Option Value} {w' : ai_W} : Ev o d zX0_forget [.ref i] w v w' = Rn o d zX0_forget 0 [.ref i] [] w (v, w') := rfl
def zX1_isContent : ai_Mi := (yX1_isContent, cX1_isContent, 7, (some .boolean))
theorem ev_X1_isContent {s0 : Int32} {s1 : Int32} {s2 : Int32} {s3 : Int32} {v : Option Value} {w' : ai_W} : Ev o d zX1_isContent [.ref i, .int s0, .int s1, .int s2, .int s3] w v w' = Rn o d zX1_isContent 0 [.ref i, .int s0, .int s1, .int s2, .int s3, .null, .null] [] w (v, w') := rfl
def zX1_gain : ai_Mi := (yX1_gain, cX1_gain, 8, (some .int))
theorem ev_X1_gain {s0 : Int32} {s1 : Int32} {s2 : Int32} {s3 : Int32} {v : Option Value} {w' : ai_W} : Ev o d zX1_gain [.ref i, .int s0, .int s1, .int s2, .int s3] w v w' = Rn o d zX1_gain 0 [.ref i, .int s0, .int s1, .int s2, .int s3, .null, .null, .null] [] w (v, w') := rfl
def zX1_berthChosen : ai_Mi := (yX1_berthChosen, cX1_berthChosen, 3, (some .int))
theorem ev_X1_berthChosen {s0 : Int32} {s1 : Int32} {v : Option Value} {w' : ai_W} : Ev o d zX1_berthChosen [.ref i, .int s0, .int s1] w v w' = Rn o d zX1_berthChosen 0 [.ref i, .int s0, .int s1] [] w (v, w') := rfl
def zX3_search : ai_Mi := (yX3_search, cX3_search, 3, (some .int))
theorem ev_X3_search {s0 : Nat} {s1 : Int32} {v : Option Value} {w' : ai_W} : Ev o d zX3_search [.ref i, .ref s0, .int s1] w v w' = Rn o d zX3_search 0 [.ref i, .ref s0, .int s1] [] w (v, w') := rfl
def zX3_choose : ai_Mi := (yX3_choose, cX3_choose, 5, none)
theorem ev_X3_choose {s0 : Int32} {s1 : Int32} {s2 : Int32} {v : Option Value} {w' : ai_W} : Ev o d zX3_choose [.ref i, .int s0, .int s1, .int s2] w v w' = Rn o d zX3_choose 0 [.ref i, .int s0, .int s1, .int s2, .null] [] w (v, w') := rfl
def zX3_isWorthwhile : ai_Mi := (yX3_isWorthwhile, cX3_isWorthwhile, 3, (some .boolean))
theorem ev_X3_isWorthwhile {s0 : Int32} {s1 : Int32} {v : Option Value} {w' : ai_W} : Ev o d zX3_isWorthwhile [.ref i, .int s0, .int s1] w v w' = Rn o d zX3_isWorthwhile 0 [.ref i, .int s0, .int s1] [] w (v, w') := rfl
def zX3_weigh : ai_Mi := (yX3_weigh, cX3_weigh, 4, none)
theorem ev_X3_weigh {s0 : Int32} {v : Option Value} {w' : ai_W} : Ev o d zX3_weigh [.ref i, .int s0] w v w' = Rn o d zX3_weigh 0 [.ref i, .int s0, .null, .null] [] w (v, w') := rfl
def zX4_add : ai_Mi := (yX4_add, cX4_add, 4, (some .int))
theorem ev_X4_add {s0 : Int32} {s1 : Int32} {s2 : Int32} {v : Option Value} {w' : ai_W} : Ev o d zX4_add [.ref i, .int s0, .int s1, .int s2] w v w' = Rn o d zX4_add 0 [.ref i, .int s0, .int s1, .int s2] [] w (v, w') := rfl
def zX4_empty : ai_Mi := (yX4_empty, cX4_empty, 2, (some .int))
theorem ev_X4_empty  {v : Option Value} {w' : ai_W} : Ev o d zX4_empty [.ref i] w v w' = Rn o d zX4_empty 0 [.ref i, .null] [] w (v, w') := rfl
def zX4_agrees : ai_Mi := (yX4_agrees, cX4_agrees, 7, (some .boolean))
theorem ev_X4_agrees {s0 : Int32} {s1 : Int32} {s2 : Nat} {v : Option Value} {w' : ai_W} : Ev o d zX4_agrees [.ref i, .int s0, .int s1, .ref s2] w v w' = Rn o d zX4_agrees 0 [.ref i, .int s0, .int s1, .ref s2, .null, .null, .null] [] w (v, w') := rfl
def zX5_add : ai_Mi := (yX5_add, cX5_add, 2, (some .int))
theorem ev_X5_add {s0 : Int32} {v : Option Value} {w' : ai_W} : Ev o d zX5_add [.ref i, .int s0] w v w' = Rn o d zX5_add 0 [.ref i, .int s0] [] w (v, w') := rfl
def zX5_empty : ai_Mi := (yX5_empty, cX5_empty, 2, (some .int))
theorem ev_X5_empty  {v : Option Value} {w' : ai_W} : Ev o d zX5_empty [.ref i] w v w' = Rn o d zX5_empty 0 [.ref i, .null] [] w (v, w') := rfl
def zX5_tell : ai_Mi := (yX5_tell, cX5_tell, 3, (some .int))
theorem ev_X5_tell {s0 : Nat} {v : Option Value} {w' : ai_W} : Ev o d zX5_tell [.ref i, .ref s0] w v w' = Rn o d zX5_tell 0 [.ref i, .ref s0, .null] [] w (v, w') := rfl
def zX7_write : ai_Mi := (yX7_write, cX7_write, 2, (some .int))
theorem ev_X7_write {s0 : Int32} {v : Option Value} {w' : ai_W} : Ev o d zX7_write [.ref i, .int s0] w v w' = Rn o d zX7_write 0 [.ref i, .int s0] [] w (v, w') := rfl
def zX7_wipe : ai_Mi := (yX7_wipe, cX7_wipe, 1, (some .int))
theorem ev_X7_wipe  {v : Option Value} {w' : ai_W} : Ev o d zX7_wipe [.ref i] w v w' = Rn o d zX7_wipe 0 [.ref i] [] w (v, w') := rfl
def zX7_fault : ai_Mi := (yX7_fault, cX7_fault, 1, (some .int))
theorem ev_X7_fault  {v : Option Value} {w' : ai_W} : Ev o d zX7_fault [.ref i] w v w' = Rn o d zX7_fault 0 [.ref i] [] w (v, w') := rfl
def zX7_port : ai_Mi := (yX7_port, cX7_port, 2, (some .int))
theorem ev_X7_port  {v : Option Value} {w' : ai_W} : Ev o d zX7_port [.ref i] w v w' = Rn o d zX7_port 0 [.ref i, .null] [] w (v, w') := rfl
def zX7_about : ai_Mi := (yX7_about, cX7_about, 2, (some .int))
theorem ev_X7_about {s0 : Int32} {v : Option Value} {w' : ai_W} : Ev o d zX7_about [.ref i, .int s0] w v w' = Rn o d zX7_about 0 [.ref i, .int s0] [] w (v, w') := rfl
def zX7_berth : ai_Mi := (yX7_berth, cX7_berth, 3, (some .int))
theorem ev_X7_berth {s0 : Int32} {s1 : Int32} {v : Option Value} {w' : ai_W} : Ev o d zX7_berth [.ref i, .int s0, .int s1] w v w' = Rn o d zX7_berth 0 [.ref i, .int s0, .int s1] [] w (v, w') := rfl
def zX7_dream : ai_Mi := (yX7_dream, cX7_dream, 3, (some .int))
theorem ev_X7_dream {s0 : Int32} {s1 : Int32} {v : Option Value} {w' : ai_W} : Ev o d zX7_dream [.ref i, .int s0, .int s1] w v w' = Rn o d zX7_dream 0 [.ref i, .int s0, .int s1] [] w (v, w') := rfl
def zX7_night : ai_Mi := (yX7_night, cX7_night, 1, (some .int))
theorem ev_X7_night  {v : Option Value} {w' : ai_W} : Ev o d zX7_night [.ref i] w v w' = Rn o d zX7_night 0 [.ref i] [] w (v, w') := rfl
def zX7_moor : ai_Mi := (yX7_moor, cX7_moor, 3, (some .int))
theorem ev_X7_moor {s0 : Int32} {s1 : Int32} {v : Option Value} {w' : ai_W} : Ev o d zX7_moor [.ref i, .int s0, .int s1] w v w' = Rn o d zX7_moor 0 [.ref i, .int s0, .int s1] [] w (v, w') := rfl
def zX7_tow : ai_Mi := (yX7_tow, cX7_tow, 3, (some .int))
theorem ev_X7_tow {s0 : Int32} {v : Option Value} {w' : ai_W} : Ev o d zX7_tow [.ref i, .int s0] w v w' = Rn o d zX7_tow 0 [.ref i, .int s0, .null] [] w (v, w') := rfl
def zX7_undo : ai_Mi := (yX7_undo, cX7_undo, 1, (some .int))
theorem ev_X7_undo  {v : Option Value} {w' : ai_W} : Ev o d zX7_undo [.ref i] w v w' = Rn o d zX7_undo 0 [.ref i] [] w (v, w') := rfl
def zX7_later : ai_Mi := (yX7_later, cX7_later, 3, (some .int))
theorem ev_X7_later {s0 : Int32} {s1 : Int32} {v : Option Value} {w' : ai_W} : Ev o d zX7_later [.ref i, .int s0, .int s1] w v w' = Rn o d zX7_later 0 [.ref i, .int s0, .int s1] [] w (v, w') := rfl
def zX7_wakes : ai_Mi := (yX7_wakes, cX7_wakes, 3, (some .int))
theorem ev_X7_wakes {s0 : Int32} {s1 : Int32} {v : Option Value} {w' : ai_W} : Ev o d zX7_wakes [.ref i, .int s0, .int s1] w v w' = Rn o d zX7_wakes 0 [.ref i, .int s0, .int s1] [] w (v, w') := rfl
def zX7_fits : ai_Mi := (yX7_fits, cX7_fits, 3, (some .int))
theorem ev_X7_fits {s0 : Int32} {s1 : Int32} {v : Option Value} {w' : ai_W} : Ev o d zX7_fits [.ref i, .int s0, .int s1] w v w' = Rn o d zX7_fits 0 [.ref i, .int s0, .int s1] [] w (v, w') := rfl
def zX7_soonest : ai_Mi := (yX7_soonest, cX7_soonest, 3, (some .int))
theorem ev_X7_soonest {s0 : Int32} {v : Option Value} {w' : ai_W} : Ev o d zX7_soonest [.ref i, .int s0] w v w' = Rn o d zX7_soonest 0 [.ref i, .int s0, .null] [] w (v, w') := rfl
def zX7_plan : ai_Mi := (yX7_plan, cX7_plan, 2, (some .int))
theorem ev_X7_plan {s0 : Int32} {v : Option Value} {w' : ai_W} : Ev o d zX7_plan [.ref i, .int s0] w v w' = Rn o d zX7_plan 0 [.ref i, .int s0] [] w (v, w') := rfl
def zX7_judge : ai_Mi := (yX7_judge, cX7_judge, 5, (some .int))
theorem ev_X7_judge {s0 : Int32} {s1 : Int64} {v : Option Value} {w' : ai_W} : Ev o d zX7_judge [.ref i, .int s0, .long s1] w v w' = Rn o d zX7_judge 0 [.ref i, .int s0, .long s1, .null, .null] [] w (v, w') := rfl
def zX7_share : ai_Mi := (yX7_share, cX7_share, 7, (some .int))
theorem ev_X7_share {s0 : Int32} {s1 : Int32} {v : Option Value} {w' : ai_W} : Ev o d zX7_share [.ref i, .int s0, .int s1] w v w' = Rn o d zX7_share 0 [.ref i, .int s0, .int s1, .null, .null, .null, .null] [] w (v, w') := rfl
def zX7_sound : ai_Mi := (yX7_sound, cX7_sound, 4, (some .int))
theorem ev_X7_sound {s0 : Int32} {s1 : Int32} {s2 : Int32} {v : Option Value} {w' : ai_W} : Ev o d zX7_sound [.ref i, .int s0, .int s1, .int s2] w v w' = Rn o d zX7_sound 0 [.ref i, .int s0, .int s1, .int s2] [] w (v, w') := rfl
def zX7_unsound : ai_Mi := (yX7_unsound, cX7_unsound, 1, (some .int))
theorem ev_X7_unsound  {v : Option Value} {w' : ai_W} : Ev o d zX7_unsound [.ref i] w v w' = Rn o d zX7_unsound 0 [.ref i] [] w (v, w') := rfl
def zX7_depths : ai_Mi := (yX7_depths, cX7_depths, 6, (some .int))
theorem ev_X7_depths {s0 : Int32} {v : Option Value} {w' : ai_W} : Ev o d zX7_depths [.ref i, .int s0] w v w' = Rn o d zX7_depths 0 [.ref i, .int s0, .null, .null, .null, .null] [] w (v, w') := rfl
def zX7_rests : ai_Mi := (yX7_rests, cX7_rests, 8, (some .int))
theorem ev_X7_rests {s0 : Int32} {s1 : Int32} {s2 : Int32} {v : Option Value} {w' : ai_W} : Ev o d zX7_rests [.ref i, .int s0, .int s1, .int s2] w v w' = Rn o d zX7_rests 0 [.ref i, .int s0, .int s1, .int s2, .null, .null, .null, .null] [] w (v, w') := rfl
def zX7_ebb : ai_Mi := (yX7_ebb, cX7_ebb, 7, (some .int))
theorem ev_X7_ebb {s0 : Int32} {s1 : Int32} {s2 : Int32} {v : Option Value} {w' : ai_W} : Ev o d zX7_ebb [.ref i, .int s0, .int s1, .int s2] w v w' = Rn o d zX7_ebb 0 [.ref i, .int s0, .int s1, .int s2, .null, .null, .null] [] w (v, w') := rfl
def zX7_seed : ai_Mi := (yX7_seed, cX7_seed, 5, (some .long))
theorem ev_X7_seed {s0 : Int64} {v : Option Value} {w' : ai_W} : Ev o d zX7_seed [.ref i, .long s0] w v w' = Rn o d zX7_seed 0 [.ref i, .long s0, .null, .null, .null] [] w (v, w') := rfl
def zX7_years : ai_Mi := (yX7_years, cX7_years, 4, (some .int))
theorem ev_X7_years {s0 : Int32} {v : Option Value} {w' : ai_W} : Ev o d zX7_years [.ref i, .int s0] w v w' = Rn o d zX7_years 0 [.ref i, .int s0, .null, .null] [] w (v, w') := rfl
def zX7_keep : ai_Mi := (yX7_keep, cX7_keep, 2, (some .int))
theorem ev_X7_keep {s0 : Int32} {v : Option Value} {w' : ai_W} : Ev o d zX7_keep [.ref i, .int s0] w v w' = Rn o d zX7_keep 0 [.ref i, .int s0] [] w (v, w') := rfl
def zX7_again : ai_Mi := (yX7_again, cX7_again, 2, (some .int))
theorem ev_X7_again {s0 : Int32} {v : Option Value} {w' : ai_W} : Ev o d zX7_again [.ref i, .int s0] w v w' = Rn o d zX7_again 0 [.ref i, .int s0] [] w (v, w') := rfl
def zX7_isNights : ai_Mi := (yX7_isNights, cX7_isNights, 1, (some .boolean))
theorem ev_X7_isNights {s0 : Int32} {v : Option Value} {w' : ai_W} : Ev o d zX7_isNights [.int s0] w v w' = Rn o d zX7_isNights 0 [.int s0] [] w (v, w') := rfl
def zX7_lookAhead : ai_Mi := (yX7_lookAhead, cX7_lookAhead, 3, none)
theorem ev_X7_lookAhead {s0 : Int32} {v : Option Value} {w' : ai_W} : Ev o d zX7_lookAhead [.ref i, .int s0] w v w' = Rn o d zX7_lookAhead 0 [.ref i, .int s0, .null] [] w (v, w') := rfl
def zX7_withoutLast : ai_Mi := (yX7_withoutLast, cX7_withoutLast, 6, (some .long))
theorem ev_X7_withoutLast {s0 : Int64} {s1 : Int32} {v : Option Value} {w' : ai_W} : Ev o d zX7_withoutLast [.long s0, .int s1] w v w' = Rn o d zX7_withoutLast 0 [.long s0, .null, .int s1, .null, .null, .null] [] w (v, w') := rfl
def zX7_allBerths : ai_Mi := (yX7_allBerths, cX7_allBerths, 1, (some .int))
theorem ev_X7_allBerths  {v : Option Value} {w' : ai_W} : Ev o d zX7_allBerths [.ref i] w v w' = Rn o d zX7_allBerths 0 [.ref i] [] w (v, w') := rfl
def zX7_weightOf : ai_Mi := (yX7_weightOf, cX7_weightOf, 5, (some .int))
theorem ev_X7_weightOf {s0 : Int32} {s1 : Int32} {v : Option Value} {w' : ai_W} : Ev o d zX7_weightOf [.ref i, .int s0, .int s1] w v w' = Rn o d zX7_weightOf 0 [.ref i, .int s0, .int s1, .null, .null] [] w (v, w') := rfl
def zX7_part : ai_Mi := (yX7_part, cX7_part, 4, (some .int))
theorem ev_X7_part {s0 : Int32} {s1 : Int32} {s2 : Int32} {v : Option Value} {w' : ai_W} : Ev o d zX7_part [.int s0, .int s1, .int s2] w v w' = Rn o d zX7_part 0 [.int s0, .int s1, .int s2, .null] [] w (v, w') := rfl
def zX7_commonDivisor : ai_Mi := (yX7_commonDivisor, cX7_commonDivisor, 6, (some .int))
theorem ev_X7_commonDivisor {s0 : Int32} {s1 : Int32} {v : Option Value} {w' : ai_W} : Ev o d zX7_commonDivisor [.int s0, .int s1] w v w' = Rn o d zX7_commonDivisor 0 [.int s0, .int s1, .null, .null, .null, .null] [] w (v, w') := rfl
def zX8_in : ai_Mi := (yX8_in, cX8_in, 6, (some .boolean))
theorem ev_X8_in {s0 : Int64} {s1 : Int64} {s2 : Int64} {v : Option Value} {w' : ai_W} : Ev o d zX8_in [.long s0, .long s1, .long s2] w v w' = Rn o d zX8_in 0 [.long s0, .null, .long s1, .null, .long s2, .null] [] w (v, w') := rfl
def zX8_has : ai_Mi := (yX8_has, cX8_has, 2, (some .boolean))
theorem ev_X8_has {s0 : Int32} {s1 : Int32} {v : Option Value} {w' : ai_W} : Ev o d zX8_has [.int s0, .int s1] w v w' = Rn o d zX8_has 0 [.int s0, .int s1] [] w (v, w') := rfl
def zX8_many : ai_Mi := (yX8_many, cX8_many, 3, (some .int))
theorem ev_X8_many {s0 : Int32} {v : Option Value} {w' : ai_W} : Ev o d zX8_many [.int s0] w v w' = Rn o d zX8_many 0 [.int s0, .null, .null] [] w (v, w') := rfl
def zX8_power : ai_Mi := (yX8_power, cX8_power, 4, (some .int))
theorem ev_X8_power {s0 : Int32} {s1 : Int32} {v : Option Value} {w' : ai_W} : Ev o d zX8_power [.int s0, .int s1] w v w' = Rn o d zX8_power 0 [.int s0, .int s1, .null, .null] [] w (v, w') := rfl
def zX8_noBerth : ai_Mi := (yX8_noBerth, cX8_noBerth, 2, (some .boolean))
theorem ev_X8_noBerth {s0 : Int32} {v : Option Value} {w' : ai_W} : Ev o d zX8_noBerth [.ref i, .int s0] w v w' = Rn o d zX8_noBerth 0 [.ref i, .int s0] [] w (v, w') := rfl
def zX8_noDream : ai_Mi := (yX8_noDream, cX8_noDream, 2, (some .boolean))
theorem ev_X8_noDream {s0 : Int32} {v : Option Value} {w' : ai_W} : Ev o d zX8_noDream [.ref i, .int s0] w v w' = Rn o d zX8_noDream 0 [.ref i, .int s0] [] w (v, w') := rfl
def zX8_write : ai_Mi := (yX8_write, cX8_write, 2, (some .int))
theorem ev_X8_write {s0 : Int32} {v : Option Value} {w' : ai_W} : Ev o d zX8_write [.ref i, .int s0] w v w' = Rn o d zX8_write 0 [.ref i, .int s0] [] w (v, w') := rfl
def zX8_wipe : ai_Mi := (yX8_wipe, cX8_wipe, 2, (some .int))
theorem ev_X8_wipe  {v : Option Value} {w' : ai_W} : Ev o d zX8_wipe [.ref i] w v w' = Rn o d zX8_wipe 0 [.ref i, .null] [] w (v, w') := rfl
def zX8_figure : ai_Mi := (yX8_figure, cX8_figure, 3, (some .int))
theorem ev_X8_figure {s0 : Int32} {s1 : Int32} {v : Option Value} {w' : ai_W} : Ev o d zX8_figure [.ref i, .int s0, .int s1] w v w' = Rn o d zX8_figure 0 [.ref i, .int s0, .int s1] [] w (v, w') := rfl
def zX8_readOneTide : ai_Mi := (yX8_readOneTide, cX8_readOneTide, 2, (some .boolean))
theorem ev_X8_readOneTide  {v : Option Value} {w' : ai_W} : Ev o d zX8_readOneTide [.ref i] w v w' = Rn o d zX8_readOneTide 0 [.ref i, .null] [] w (v, w') := rfl
def zX8_readOneBerth : ai_Mi := (yX8_readOneBerth, cX8_readOneBerth, 3, (some .boolean))
theorem ev_X8_readOneBerth  {v : Option Value} {w' : ai_W} : Ev o d zX8_readOneBerth [.ref i] w v w' = Rn o d zX8_readOneBerth 0 [.ref i, .null, .null] [] w (v, w') := rfl
def zX8_readOneDream : ai_Mi := (yX8_readOneDream, cX8_readOneDream, 3, (some .boolean))
theorem ev_X8_readOneDream  {v : Option Value} {w' : ai_W} : Ev o d zX8_readOneDream [.ref i] w v w' = Rn o d zX8_readOneDream 0 [.ref i, .null, .null] [] w (v, w') := rfl
def zX8_readThing : ai_Mi := (yX8_readThing, cX8_readThing, 2, (some .boolean))
theorem ev_X8_readThing  {v : Option Value} {w' : ai_W} : Ev o d zX8_readThing [.ref i] w v w' = Rn o d zX8_readThing 0 [.ref i, .null] [] w (v, w') := rfl
def zX8_readPort : ai_Mi := (yX8_readPort, cX8_readPort, 1, (some .int))
theorem ev_X8_readPort  {v : Option Value} {w' : ai_W} : Ev o d zX8_readPort [.ref i] w v w' = Rn o d zX8_readPort 0 [.ref i] [] w (v, w') := rfl
def zX8_fault : ai_Mi := (yX8_fault, cX8_fault, 1, (some .int))
theorem ev_X8_fault  {v : Option Value} {w' : ai_W} : Ev o d zX8_fault [.ref i] w v w' = Rn o d zX8_fault 0 [.ref i] [] w (v, w') := rfl
def zX8_port : ai_Mi := (yX8_port, cX8_port, 2, (some .int))
theorem ev_X8_port  {v : Option Value} {w' : ai_W} : Ev o d zX8_port [.ref i] w v w' = Rn o d zX8_port 0 [.ref i, .null] [] w (v, w') := rfl
def zX8_tideOf : ai_Mi := (yX8_tideOf, cX8_tideOf, 2, (some .int))
theorem ev_X8_tideOf {s0 : Int32} {v : Option Value} {w' : ai_W} : Ev o d zX8_tideOf [.ref i, .int s0] w v w' = Rn o d zX8_tideOf 0 [.ref i, .int s0] [] w (v, w') := rfl
def zX8_waterOf : ai_Mi := (yX8_waterOf, cX8_waterOf, 3, (some .int))
theorem ev_X8_waterOf {s0 : Nat} {s1 : Int32} {v : Option Value} {w' : ai_W} : Ev o d zX8_waterOf [.ref i, .ref s0, .int s1] w v w' = Rn o d zX8_waterOf 0 [.ref i, .ref s0, .int s1] [] w (v, w') := rfl
def zX8_dreamsAt : ai_Mi := (yX8_dreamsAt, cX8_dreamsAt, 5, (some .int))
theorem ev_X8_dreamsAt {s0 : Nat} {s1 : Int32} {v : Option Value} {w' : ai_W} : Ev o d zX8_dreamsAt [.ref i, .ref s0, .int s1] w v w' = Rn o d zX8_dreamsAt 0 [.ref i, .ref s0, .int s1, .null, .null] [] w (v, w') := rfl
def zX8_berthed : ai_Mi := (yX8_berthed, cX8_berthed, 4, (some .int))
theorem ev_X8_berthed {s0 : Nat} {v : Option Value} {w' : ai_W} : Ev o d zX8_berthed [.ref i, .ref s0] w v w' = Rn o d zX8_berthed 0 [.ref i, .ref s0, .null, .null] [] w (v, w') := rfl
def zX8_suits : ai_Mi := (yX8_suits, cX8_suits, 4, (some .boolean))
theorem ev_X8_suits {s0 : Nat} {s1 : Int32} {s2 : Int32} {v : Option Value} {w' : ai_W} : Ev o d zX8_suits [.ref i, .ref s0, .int s1, .int s2] w v w' = Rn o d zX8_suits 0 [.ref i, .ref s0, .int s1, .int s2] [] w (v, w') := rfl
def zX8_canBe : ai_Mi := (yX8_canBe, cX8_canBe, 4, (some .boolean))
theorem ev_X8_canBe {s0 : Nat} {s1 : Int32} {s2 : Int32} {v : Option Value} {w' : ai_W} : Ev o d zX8_canBe [.ref i, .ref s0, .int s1, .int s2] w v w' = Rn o d zX8_canBe 0 [.ref i, .ref s0, .int s1, .int s2] [] w (v, w') := rfl
def zX8_mayBe : ai_Mi := (yX8_mayBe, cX8_mayBe, 5, (some .int))
theorem ev_X8_mayBe {s0 : Nat} {s1 : Int32} {v : Option Value} {w' : ai_W} : Ev o d zX8_mayBe [.ref i, .ref s0, .int s1] w v w' = Rn o d zX8_mayBe 0 [.ref i, .ref s0, .int s1, .null, .null] [] w (v, w') := rfl
def zX8_goSleep : ai_Mi := (yX8_goSleep, cX8_goSleep, 6, (some .int))
theorem ev_X8_goSleep {s0 : Nat} {v : Option Value} {w' : ai_W} : Ev o d zX8_goSleep [.ref i, .ref s0] w v w' = Rn o d zX8_goSleep 0 [.ref i, .ref s0, .null, .null, .null, .null] [] w (v, w') := rfl
def zX8_goWait : ai_Mi := (yX8_goWait, cX8_goWait, 6, none)
theorem ev_X8_goWait {s0 : Nat} {v : Option Value} {w' : ai_W} : Ev o d zX8_goWait [.ref i, .ref s0] w v w' = Rn o d zX8_goWait 0 [.ref i, .ref s0, .null, .null, .null, .null] [] w (v, w') := rfl
def zX8_goNight : ai_Mi := (yX8_goNight, cX8_goNight, 4, (some .int))
theorem ev_X8_goNight {s0 : Nat} {v : Option Value} {w' : ai_W} : Ev o d zX8_goNight [.ref i, .ref s0] w v w' = Rn o d zX8_goNight 0 [.ref i, .ref s0, .null, .null] [] w (v, w') := rfl
def zX8_woke : ai_Mi := (yX8_woke, cX8_woke, 3, (some .int))
theorem ev_X8_woke  {v : Option Value} {w' : ai_W} : Ev o d zX8_woke [.ref i] w v w' = Rn o d zX8_woke 0 [.ref i, .null, .null] [] w (v, w') := rfl
def zX8_plainly : ai_Mi := (yX8_plainly, cX8_plainly, 1, none)
theorem ev_X8_plainly  {v : Option Value} {w' : ai_W} : Ev o d zX8_plainly [.ref i] w v w' = Rn o d zX8_plainly 0 [.ref i] [] w (v, w') := rfl
def zX8_about : ai_Mi := (yX8_about, cX8_about, 2, (some .int))
theorem ev_X8_about {s0 : Int32} {v : Option Value} {w' : ai_W} : Ev o d zX8_about [.ref i, .int s0] w v w' = Rn o d zX8_about 0 [.ref i, .int s0] [] w (v, w') := rfl
def zX8_berth : ai_Mi := (yX8_berth, cX8_berth, 3, (some .int))
theorem ev_X8_berth {s0 : Int32} {s1 : Int32} {v : Option Value} {w' : ai_W} : Ev o d zX8_berth [.ref i, .int s0, .int s1] w v w' = Rn o d zX8_berth 0 [.ref i, .int s0, .int s1] [] w (v, w') := rfl
def zX8_dream : ai_Mi := (yX8_dream, cX8_dream, 3, (some .int))
theorem ev_X8_dream {s0 : Int32} {s1 : Int32} {v : Option Value} {w' : ai_W} : Ev o d zX8_dream [.ref i, .int s0, .int s1] w v w' = Rn o d zX8_dream 0 [.ref i, .int s0, .int s1] [] w (v, w') := rfl
def zX8_note : ai_Mi := (yX8_note, cX8_note, 2, none)
theorem ev_X8_note  {v : Option Value} {w' : ai_W} : Ev o d zX8_note [.ref i] w v w' = Rn o d zX8_note 0 [.ref i, .null] [] w (v, w') := rfl
def zX8_night : ai_Mi := (yX8_night, cX8_night, 1, (some .int))
theorem ev_X8_night  {v : Option Value} {w' : ai_W} : Ev o d zX8_night [.ref i] w v w' = Rn o d zX8_night 0 [.ref i] [] w (v, w') := rfl
def zX8_moor : ai_Mi := (yX8_moor, cX8_moor, 3, (some .int))
theorem ev_X8_moor {s0 : Int32} {s1 : Int32} {v : Option Value} {w' : ai_W} : Ev o d zX8_moor [.ref i, .int s0, .int s1] w v w' = Rn o d zX8_moor 0 [.ref i, .int s0, .int s1] [] w (v, w') := rfl
def zX8_goTow : ai_Mi := (yX8_goTow, cX8_goTow, 2, none)
theorem ev_X8_goTow {s0 : Nat} {s1 : Int32} {v : Option Value} {w' : ai_W} : Ev o d zX8_goTow [.ref s0, .int s1] w v w' = Rn o d zX8_goTow 0 [.ref s0, .int s1] [] w (v, w') := rfl
def zX8_tow : ai_Mi := (yX8_tow, cX8_tow, 3, (some .int))
theorem ev_X8_tow {s0 : Int32} {v : Option Value} {w' : ai_W} : Ev o d zX8_tow [.ref i, .int s0] w v w' = Rn o d zX8_tow 0 [.ref i, .int s0, .null] [] w (v, w') := rfl
def zX8_undo : ai_Mi := (yX8_undo, cX8_undo, 2, (some .int))
theorem ev_X8_undo  {v : Option Value} {w' : ai_W} : Ev o d zX8_undo [.ref i] w v w' = Rn o d zX8_undo 0 [.ref i, .null] [] w (v, w') := rfl
def zX8_begin : ai_Mi := (yX8_begin, cX8_begin, 2, none)
theorem ev_X8_begin  {v : Option Value} {w' : ai_W} : Ev o d zX8_begin [.ref i] w v w' = Rn o d zX8_begin 0 [.ref i, .null] [] w (v, w') := rfl
def zX8_goNights : ai_Mi := (yX8_goNights, cX8_goNights, 3, none)
theorem ev_X8_goNights {s0 : Int32} {v : Option Value} {w' : ai_W} : Ev o d zX8_goNights [.ref i, .int s0] w v w' = Rn o d zX8_goNights 0 [.ref i, .int s0, .null] [] w (v, w') := rfl
def zX8_later : ai_Mi := (yX8_later, cX8_later, 3, (some .int))
theorem ev_X8_later {s0 : Int32} {s1 : Int32} {v : Option Value} {w' : ai_W} : Ev o d zX8_later [.ref i, .int s0, .int s1] w v w' = Rn o d zX8_later 0 [.ref i, .int s0, .int s1] [] w (v, w') := rfl
def zX8_wakes : ai_Mi := (yX8_wakes, cX8_wakes, 3, (some .int))
theorem ev_X8_wakes {s0 : Int32} {s1 : Int32} {v : Option Value} {w' : ai_W} : Ev o d zX8_wakes [.ref i, .int s0, .int s1] w v w' = Rn o d zX8_wakes 0 [.ref i, .int s0, .int s1] [] w (v, w') := rfl
def zX8_fitsThen : ai_Mi := (yX8_fitsThen, cX8_fitsThen, 4, (some .int))
theorem ev_X8_fitsThen {s0 : Int32} {v : Option Value} {w' : ai_W} : Ev o d zX8_fitsThen [.ref i, .int s0] w v w' = Rn o d zX8_fitsThen 0 [.ref i, .int s0, .null, .null] [] w (v, w') := rfl
def zX8_fits : ai_Mi := (yX8_fits, cX8_fits, 3, (some .int))
theorem ev_X8_fits {s0 : Int32} {s1 : Int32} {v : Option Value} {w' : ai_W} : Ev o d zX8_fits [.ref i, .int s0, .int s1] w v w' = Rn o d zX8_fits 0 [.ref i, .int s0, .int s1] [] w (v, w') := rfl
def zX8_soonest : ai_Mi := (yX8_soonest, cX8_soonest, 3, (some .int))
theorem ev_X8_soonest {s0 : Int32} {v : Option Value} {w' : ai_W} : Ev o d zX8_soonest [.ref i, .int s0] w v w' = Rn o d zX8_soonest 0 [.ref i, .int s0, .null] [] w (v, w') := rfl
def zX8_berthsBy : ai_Mi := (yX8_berthsBy, cX8_berthsBy, 6, (some .boolean))
theorem ev_X8_berthsBy {s0 : Int32} {s1 : Int32} {v : Option Value} {w' : ai_W} : Ev o d zX8_berthsBy [.ref i, .int s0, .int s1] w v w' = Rn o d zX8_berthsBy 0 [.ref i, .int s0, .int s1, .null, .null, .null] [] w (v, w') := rfl
def zX8_findPlan : ai_Mi := (yX8_findPlan, cX8_findPlan, 6, (some .int))
theorem ev_X8_findPlan  {v : Option Value} {w' : ai_W} : Ev o d zX8_findPlan [.ref i] w v w' = Rn o d zX8_findPlan 0 [.ref i, .null, .null, .null, .null, .null] [] w (v, w') := rfl
def zX8_plan : ai_Mi := (yX8_plan, cX8_plan, 2, (some .int))
theorem ev_X8_plan {s0 : Int32} {v : Option Value} {w' : ai_W} : Ev o d zX8_plan [.ref i, .int s0] w v w' = Rn o d zX8_plan 0 [.ref i, .int s0] [] w (v, w') := rfl
def zX8_longPower : ai_Mi := (yX8_longPower, cX8_longPower, 6, (some .long))
theorem ev_X8_longPower {s0 : Int64} {s1 : Int32} {v : Option Value} {w' : ai_W} : Ev o d zX8_longPower [.long s0, .int s1] w v w' = Rn o d zX8_longPower 0 [.long s0, .null, .int s1, .null, .null, .null] [] w (v, w') := rfl
def zX8_does : ai_Mi := (yX8_does, cX8_does, 6, (some .boolean))
theorem ev_X8_does {s0 : Int32} {v : Option Value} {w' : ai_W} : Ev o d zX8_does [.ref i, .int s0] w v w' = Rn o d zX8_does 0 [.ref i, .int s0, .null, .null, .null, .null] [] w (v, w') := rfl
def zX8_judge : ai_Mi := (yX8_judge, cX8_judge, 5, (some .int))
theorem ev_X8_judge {s0 : Int32} {s1 : Int64} {v : Option Value} {w' : ai_W} : Ev o d zX8_judge [.ref i, .int s0, .long s1] w v w' = Rn o d zX8_judge 0 [.ref i, .int s0, .long s1, .null, .null] [] w (v, w') := rfl
def zX8_ways : ai_Mi := (yX8_ways, cX8_ways, 3, (some .int))
theorem ev_X8_ways {s0 : Int32} {v : Option Value} {w' : ai_W} : Ev o d zX8_ways [.int s0] w v w' = Rn o d zX8_ways 0 [.int s0, .null, .null] [] w (v, w') := rfl
def zX8_divisor : ai_Mi := (yX8_divisor, cX8_divisor, 5, (some .int))
theorem ev_X8_divisor {s0 : Int32} {s1 : Int32} {v : Option Value} {w' : ai_W} : Ev o d zX8_divisor [.int s0, .int s1] w v w' = Rn o d zX8_divisor 0 [.int s0, .int s1, .null, .null, .null] [] w (v, w') := rfl
def zX8_fraction : ai_Mi := (yX8_fraction, cX8_fraction, 4, (some .int))
theorem ev_X8_fraction {s0 : Int32} {s1 : Int32} {s2 : Int32} {v : Option Value} {w' : ai_W} : Ev o d zX8_fraction [.int s0, .int s1, .int s2] w v w' = Rn o d zX8_fraction 0 [.int s0, .int s1, .int s2, .null] [] w (v, w') := rfl
def zX8_share : ai_Mi := (yX8_share, cX8_share, 6, (some .int))
theorem ev_X8_share {s0 : Int32} {s1 : Int32} {v : Option Value} {w' : ai_W} : Ev o d zX8_share [.ref i, .int s0, .int s1] w v w' = Rn o d zX8_share 0 [.ref i, .int s0, .int s1, .null, .null, .null] [] w (v, w') := rfl
def zX8_sound : ai_Mi := (yX8_sound, cX8_sound, 4, (some .int))
theorem ev_X8_sound {s0 : Int32} {s1 : Int32} {s2 : Int32} {v : Option Value} {w' : ai_W} : Ev o d zX8_sound [.ref i, .int s0, .int s1, .int s2] w v w' = Rn o d zX8_sound 0 [.ref i, .int s0, .int s1, .int s2] [] w (v, w') := rfl
def zX8_unsound : ai_Mi := (yX8_unsound, cX8_unsound, 2, (some .int))
theorem ev_X8_unsound  {v : Option Value} {w' : ai_W} : Ev o d zX8_unsound [.ref i] w v w' = Rn o d zX8_unsound 0 [.ref i, .null] [] w (v, w') := rfl
def zX8_explains : ai_Mi := (yX8_explains, cX8_explains, 6, (some .boolean))
theorem ev_X8_explains {s0 : Int32} {s1 : Int32} {v : Option Value} {w' : ai_W} : Ev o d zX8_explains [.ref i, .int s0, .int s1] w v w' = Rn o d zX8_explains 0 [.ref i, .int s0, .int s1, .null, .null, .null] [] w (v, w') := rfl
def zX8_depths : ai_Mi := (yX8_depths, cX8_depths, 4, (some .int))
theorem ev_X8_depths {s0 : Int32} {v : Option Value} {w' : ai_W} : Ev o d zX8_depths [.ref i, .int s0] w v w' = Rn o d zX8_depths 0 [.ref i, .int s0, .null, .null] [] w (v, w') := rfl
def zX8_chosen : ai_Mi := (yX8_chosen, cX8_chosen, 3, (some .int))
theorem ev_X8_chosen {s0 : Int32} {s1 : Int32} {v : Option Value} {w' : ai_W} : Ev o d zX8_chosen [.ref i, .int s0, .int s1] w v w' = Rn o d zX8_chosen 0 [.ref i, .int s0, .int s1] [] w (v, w') := rfl
def zX8_layGains : ai_Mi := (yX8_layGains, cX8_layGains, 9, none)
theorem ev_X8_layGains {s0 : Int32} {s1 : Int32} {s2 : Int32} {v : Option Value} {w' : ai_W} : Ev o d zX8_layGains [.ref i, .int s0, .int s1, .int s2] w v w' = Rn o d zX8_layGains 0 [.ref i, .int s0, .int s1, .int s2, .null, .null, .null, .null, .null] [] w (v, w') := rfl
def zX8_rests : ai_Mi := (yX8_rests, cX8_rests, 7, (some .int))
theorem ev_X8_rests {s0 : Int32} {s1 : Int32} {s2 : Int32} {v : Option Value} {w' : ai_W} : Ev o d zX8_rests [.ref i, .int s0, .int s1, .int s2] w v w' = Rn o d zX8_rests 0 [.ref i, .int s0, .int s1, .int s2, .null, .null, .null] [] w (v, w') := rfl
def zX8_ebb : ai_Mi := (yX8_ebb, cX8_ebb, 7, (some .int))
theorem ev_X8_ebb {s0 : Int32} {s1 : Int32} {s2 : Int32} {v : Option Value} {w' : ai_W} : Ev o d zX8_ebb [.ref i, .int s0, .int s1, .int s2] w v w' = Rn o d zX8_ebb 0 [.ref i, .int s0, .int s1, .int s2, .null, .null, .null] [] w (v, w') := rfl
def zX8_seed : ai_Mi := (yX8_seed, cX8_seed, 5, (some .long))
theorem ev_X8_seed {s0 : Int64} {v : Option Value} {w' : ai_W} : Ev o d zX8_seed [.ref i, .long s0] w v w' = Rn o d zX8_seed 0 [.ref i, .long s0, .null, .null, .null] [] w (v, w') := rfl
def zX8_years : ai_Mi := (yX8_years, cX8_years, 5, (some .int))
theorem ev_X8_years {s0 : Int32} {v : Option Value} {w' : ai_W} : Ev o d zX8_years [.ref i, .int s0] w v w' = Rn o d zX8_years 0 [.ref i, .int s0, .null, .null, .null] [] w (v, w') := rfl
def zX8_keep : ai_Mi := (yX8_keep, cX8_keep, 3, (some .int))
theorem ev_X8_keep {s0 : Int32} {v : Option Value} {w' : ai_W} : Ev o d zX8_keep [.ref i, .int s0] w v w' = Rn o d zX8_keep 0 [.ref i, .int s0, .null] [] w (v, w') := rfl
def zX8_again : ai_Mi := (yX8_again, cX8_again, 3, (some .int))
theorem ev_X8_again {s0 : Int32} {v : Option Value} {w' : ai_W} : Ev o d zX8_again [.ref i, .int s0] w v w' = Rn o d zX8_again 0 [.ref i, .int s0, .null] [] w (v, w') := rfl
def zL_law : ai_Mi := (yL_law, cL_law, 4, (some .boolean))
theorem ev_L_law {s0 : Nat} {v : Option Value} {w' : ai_W} : Ev o d zL_law [.ref s0] w v w' = Rn o d zL_law 0 [.ref s0, .null, .null, .null] [] w (v, w') := rfl
end HDS
end
