section
-- ===== PART A: goes FIRST, ahead of the names: the tables' words, and 'selects' of the private methods out of them =====
/-- a private method of a class that the tables say can be made, by its rows of tables_1 -/
def lw_okq (q : MethodName × Nat) : Prop := (q.1.cls ≠ "java/lang/invoke/MethodHandle" ∧ q.1.cls ≠ "java/lang/invoke/VarHandle") ∧ Cond.instantiable q.1.cls q.2 ∈ tables_1 ∧ Cond.privateMethod q.1 ∈ tables_1 ∧ Cond.instanceMethod q.1 ∈ tables_1
theorem lw_p0 : lw_okq (⟨"SleepHarbour$Told", "hasRoomFor", "(I)Z"⟩, 10) := ⟨⟨by decide +kernel, by decide +kernel⟩, List.mem_of_getElem? (i := 37) (by decide +kernel), List.mem_of_getElem? (i := 271) (by decide +kernel), List.mem_of_getElem? (i := 272) (by decide +kernel)⟩
theorem lw_p1 : lw_okq (⟨"SleepHarbour$Told", "hearsFirst", "(I)Z"⟩, 10) := ⟨⟨by decide +kernel, by decide +kernel⟩, List.mem_of_getElem? (i := 37) (by decide +kernel), List.mem_of_getElem? (i := 275) (by decide +kernel), List.mem_of_getElem? (i := 276) (by decide +kernel)⟩
theorem lw_p2 : lw_okq (⟨"SleepHarbour$Told", "hearsKind", "(I)Z"⟩, 10) := ⟨⟨by decide +kernel, by decide +kernel⟩, List.mem_of_getElem? (i := 37) (by decide +kernel), List.mem_of_getElem? (i := 279) (by decide +kernel), List.mem_of_getElem? (i := 280) (by decide +kernel)⟩
theorem lw_p3 : lw_okq (⟨"SleepHarbour$Harbour", "spoilt", "(II)I"⟩, 7) := ⟨⟨by decide +kernel, by decide +kernel⟩, List.mem_of_getElem? (i := 87) (by decide +kernel), List.mem_of_getElem? (i := 391) (by decide +kernel), List.mem_of_getElem? (i := 392) (by decide +kernel)⟩
theorem lw_p4 : lw_okq (⟨"SleepHarbour$Harbour", "sleepIn", "(II)V"⟩, 7) := ⟨⟨by decide +kernel, by decide +kernel⟩, List.mem_of_getElem? (i := 87) (by decide +kernel), List.mem_of_getElem? (i := 404) (by decide +kernel), List.mem_of_getElem? (i := 405) (by decide +kernel)⟩
theorem lw_p5 : lw_okq (⟨"SleepHarbour$Harbour", "lieOffLonger", "()V"⟩, 7) := ⟨⟨by decide +kernel, by decide +kernel⟩, List.mem_of_getElem? (i := 87) (by decide +kernel), List.mem_of_getElem? (i := 408) (by decide +kernel), List.mem_of_getElem? (i := 409) (by decide +kernel)⟩
theorem lw_p6 : lw_okq (⟨"SleepHarbour$Harbour", "bringNightmares", "()V"⟩, 7) := ⟨⟨by decide +kernel, by decide +kernel⟩, List.mem_of_getElem? (i := 87) (by decide +kernel), List.mem_of_getElem? (i := 414) (by decide +kernel), List.mem_of_getElem? (i := 415) (by decide +kernel)⟩
theorem lw_p7 : lw_okq (⟨"SleepHarbour$Harbour", "moorInLeast", "(I)V"⟩, 7) := ⟨⟨by decide +kernel, by decide +kernel⟩, List.mem_of_getElem? (i := 87) (by decide +kernel), List.mem_of_getElem? (i := 418) (by decide +kernel), List.mem_of_getElem? (i := 419) (by decide +kernel)⟩
theorem lw_p8 : lw_okq (⟨"SleepHarbour$Harbour", "dredge", "()V"⟩, 7) := ⟨⟨by decide +kernel, by decide +kernel⟩, List.mem_of_getElem? (i := 87) (by decide +kernel), List.mem_of_getElem? (i := 422) (by decide +kernel), List.mem_of_getElem? (i := 423) (by decide +kernel)⟩
theorem lw_p9 : lw_okq (⟨"SleepHarbour", "lookAhead", "(I)V"⟩, 12) := ⟨⟨by decide +kernel, by decide +kernel⟩, List.mem_of_getElem? (i := 14) (by decide +kernel), List.mem_of_getElem? (i := 471) (by decide +kernel), List.mem_of_getElem? (i := 472) (by decide +kernel)⟩
theorem lw_p10 : lw_okq (⟨"SleepHarbour", "allBerths", "()I"⟩, 12) := ⟨⟨by decide +kernel, by decide +kernel⟩, List.mem_of_getElem? (i := 14) (by decide +kernel), List.mem_of_getElem? (i := 497) (by decide +kernel), List.mem_of_getElem? (i := 498) (by decide +kernel)⟩
theorem lw_p11 : lw_okq (⟨"SleepHarbour$Planner", "choose", "(III)V"⟩, 5) := ⟨⟨by decide +kernel, by decide +kernel⟩, List.mem_of_getElem? (i := 165) (by decide +kernel), List.mem_of_getElem? (i := 507) (by decide +kernel), List.mem_of_getElem? (i := 508) (by decide +kernel)⟩
theorem lw_p12 : lw_okq (⟨"SleepHarbour$Planner", "weigh", "(I)V"⟩, 5) := ⟨⟨by decide +kernel, by decide +kernel⟩, List.mem_of_getElem? (i := 165) (by decide +kernel), List.mem_of_getElem? (i := 511) (by decide +kernel), List.mem_of_getElem? (i := 512) (by decide +kernel)⟩
theorem lw_p13 : lw_okq (⟨"SleepHarbour$Planner", "isWorthwhile", "(II)Z"⟩, 5) := ⟨⟨by decide +kernel, by decide +kernel⟩, List.mem_of_getElem? (i := 165) (by decide +kernel), List.mem_of_getElem? (i := 519) (by decide +kernel), List.mem_of_getElem? (i := 520) (by decide +kernel)⟩
theorem lw_p14 : lw_okq (⟨"SleepHarbour$Harbour", "moors", "(II)Z"⟩, 7) := ⟨⟨by decide +kernel, by decide +kernel⟩, List.mem_of_getElem? (i := 87) (by decide +kernel), List.mem_of_getElem? (i := 538) (by decide +kernel), List.mem_of_getElem? (i := 539) (by decide +kernel)⟩
theorem lw_p15 : lw_okq (⟨"SleepHarbour$Harbour", "tows", "(I)Z"⟩, 7) := ⟨⟨by decide +kernel, by decide +kernel⟩, List.mem_of_getElem? (i := 87) (by decide +kernel), List.mem_of_getElem? (i := 543) (by decide +kernel), List.mem_of_getElem? (i := 544) (by decide +kernel)⟩
def lw_privs_1 : List (MethodName × Nat) := [(⟨"SleepHarbour$Told", "hasRoomFor", "(I)Z"⟩, 10), (⟨"SleepHarbour$Told", "hearsFirst", "(I)Z"⟩, 10), (⟨"SleepHarbour$Told", "hearsKind", "(I)Z"⟩, 10), (⟨"SleepHarbour$Harbour", "spoilt", "(II)I"⟩, 7), (⟨"SleepHarbour$Harbour", "sleepIn", "(II)V"⟩, 7), (⟨"SleepHarbour$Harbour", "lieOffLonger", "()V"⟩, 7), (⟨"SleepHarbour$Harbour", "bringNightmares", "()V"⟩, 7), (⟨"SleepHarbour$Harbour", "moorInLeast", "(I)V"⟩, 7), (⟨"SleepHarbour$Harbour", "dredge", "()V"⟩, 7), (⟨"SleepHarbour", "lookAhead", "(I)V"⟩, 12), (⟨"SleepHarbour", "allBerths", "()I"⟩, 12), (⟨"SleepHarbour$Planner", "choose", "(III)V"⟩, 5), (⟨"SleepHarbour$Planner", "weigh", "(I)V"⟩, 5), (⟨"SleepHarbour$Planner", "isWorthwhile", "(II)Z"⟩, 5), (⟨"SleepHarbour$Harbour", "moors", "(II)Z"⟩, 7), (⟨"SleepHarbour$Harbour", "tows", "(I)Z"⟩, 7)]
theorem lw_r1 : ∀ q ∈ lw_privs_1, lw_okq q := List.forall_mem_cons.mpr ⟨lw_p0, List.forall_mem_cons.mpr ⟨lw_p1, List.forall_mem_cons.mpr ⟨lw_p2, List.forall_mem_cons.mpr ⟨lw_p3, List.forall_mem_cons.mpr ⟨lw_p4, List.forall_mem_cons.mpr ⟨lw_p5, List.forall_mem_cons.mpr ⟨lw_p6, List.forall_mem_cons.mpr ⟨lw_p7, List.forall_mem_cons.mpr ⟨lw_p8, List.forall_mem_cons.mpr ⟨lw_p9, List.forall_mem_cons.mpr ⟨lw_p10, List.forall_mem_cons.mpr ⟨lw_p11, List.forall_mem_cons.mpr ⟨lw_p12, List.forall_mem_cons.mpr ⟨lw_p13, List.forall_mem_cons.mpr ⟨lw_p14, List.forall_mem_cons.mpr ⟨lw_p15, fun _ h => absurd h List.not_mem_nil⟩⟩⟩⟩⟩⟩⟩⟩⟩⟩⟩⟩⟩⟩⟩⟩
theorem lw_p16 : lw_okq (⟨"SleepHarbour$Choosers", "gain", "(IIII)I"⟩, 2) := ⟨⟨by decide +kernel, by decide +kernel⟩, List.mem_of_getElem? (i := 189) (by decide +kernel), List.mem_of_getElem? (i := 599) (by decide +kernel), List.mem_of_getElem? (i := 600) (by decide +kernel)⟩
theorem lw_p17 : lw_okq (⟨"SleepHarbour$Choosers", "berthChosen", "(II)I"⟩, 2) := ⟨⟨by decide +kernel, by decide +kernel⟩, List.mem_of_getElem? (i := 189) (by decide +kernel), List.mem_of_getElem? (i := 603) (by decide +kernel), List.mem_of_getElem? (i := 604) (by decide +kernel)⟩
theorem lw_p18 : lw_okq (⟨"SleepHarbour", "weightOf", "(II)I"⟩, 12) := ⟨⟨by decide +kernel, by decide +kernel⟩, List.mem_of_getElem? (i := 14) (by decide +kernel), List.mem_of_getElem? (i := 620) (by decide +kernel), List.mem_of_getElem? (i := 621) (by decide +kernel)⟩
theorem lw_p19 : lw_okq (⟨"SleepHarbourModel", "readPort", "()I"⟩, 37) := ⟨⟨by decide +kernel, by decide +kernel⟩, List.mem_of_getElem? (i := 647) (by decide +kernel), List.mem_of_getElem? (i := 781) (by decide +kernel), List.mem_of_getElem? (i := 782) (by decide +kernel)⟩
theorem lw_p20 : lw_okq (⟨"SleepHarbourModel", "readThing", "()Z"⟩, 37) := ⟨⟨by decide +kernel, by decide +kernel⟩, List.mem_of_getElem? (i := 647) (by decide +kernel), List.mem_of_getElem? (i := 785) (by decide +kernel), List.mem_of_getElem? (i := 786) (by decide +kernel)⟩
theorem lw_p21 : lw_okq (⟨"SleepHarbourModel", "readOneTide", "()Z"⟩, 37) := ⟨⟨by decide +kernel, by decide +kernel⟩, List.mem_of_getElem? (i := 647) (by decide +kernel), List.mem_of_getElem? (i := 789) (by decide +kernel), List.mem_of_getElem? (i := 790) (by decide +kernel)⟩
theorem lw_p22 : lw_okq (⟨"SleepHarbourModel", "figure", "(II)I"⟩, 37) := ⟨⟨by decide +kernel, by decide +kernel⟩, List.mem_of_getElem? (i := 647) (by decide +kernel), List.mem_of_getElem? (i := 793) (by decide +kernel), List.mem_of_getElem? (i := 794) (by decide +kernel)⟩
theorem lw_p23 : lw_okq (⟨"SleepHarbourModel", "readOneBerth", "()Z"⟩, 37) := ⟨⟨by decide +kernel, by decide +kernel⟩, List.mem_of_getElem? (i := 647) (by decide +kernel), List.mem_of_getElem? (i := 797) (by decide +kernel), List.mem_of_getElem? (i := 798) (by decide +kernel)⟩
theorem lw_p24 : lw_okq (⟨"SleepHarbourModel", "readOneDream", "()Z"⟩, 37) := ⟨⟨by decide +kernel, by decide +kernel⟩, List.mem_of_getElem? (i := 647) (by decide +kernel), List.mem_of_getElem? (i := 801) (by decide +kernel), List.mem_of_getElem? (i := 802) (by decide +kernel)⟩
theorem lw_p25 : lw_okq (⟨"SleepHarbourModel", "tideOf", "(I)I"⟩, 37) := ⟨⟨by decide +kernel, by decide +kernel⟩, List.mem_of_getElem? (i := 647) (by decide +kernel), List.mem_of_getElem? (i := 813) (by decide +kernel), List.mem_of_getElem? (i := 814) (by decide +kernel)⟩
theorem lw_p26 : lw_okq (⟨"SleepHarbourModel", "dreamsAt", "([II)I"⟩, 37) := ⟨⟨by decide +kernel, by decide +kernel⟩, List.mem_of_getElem? (i := 647) (by decide +kernel), List.mem_of_getElem? (i := 817) (by decide +kernel), List.mem_of_getElem? (i := 818) (by decide +kernel)⟩
theorem lw_p27 : lw_okq (⟨"SleepHarbourModel", "berthed", "([I)I"⟩, 37) := ⟨⟨by decide +kernel, by decide +kernel⟩, List.mem_of_getElem? (i := 647) (by decide +kernel), List.mem_of_getElem? (i := 821) (by decide +kernel), List.mem_of_getElem? (i := 822) (by decide +kernel)⟩
theorem lw_p28 : lw_okq (⟨"SleepHarbourModel", "woke", "()I"⟩, 37) := ⟨⟨by decide +kernel, by decide +kernel⟩, List.mem_of_getElem? (i := 647) (by decide +kernel), List.mem_of_getElem? (i := 825) (by decide +kernel), List.mem_of_getElem? (i := 826) (by decide +kernel)⟩
theorem lw_p29 : lw_okq (⟨"SleepHarbourModel", "plainly", "()V"⟩, 37) := ⟨⟨by decide +kernel, by decide +kernel⟩, List.mem_of_getElem? (i := 647) (by decide +kernel), List.mem_of_getElem? (i := 833) (by decide +kernel), List.mem_of_getElem? (i := 834) (by decide +kernel)⟩
theorem lw_p30 : lw_okq (⟨"SleepHarbourModel", "noBerth", "(I)Z"⟩, 37) := ⟨⟨by decide +kernel, by decide +kernel⟩, List.mem_of_getElem? (i := 647) (by decide +kernel), List.mem_of_getElem? (i := 837) (by decide +kernel), List.mem_of_getElem? (i := 838) (by decide +kernel)⟩
theorem lw_p31 : lw_okq (⟨"SleepHarbourModel", "waterOf", "([II)I"⟩, 37) := ⟨⟨by decide +kernel, by decide +kernel⟩, List.mem_of_getElem? (i := 647) (by decide +kernel), List.mem_of_getElem? (i := 841) (by decide +kernel), List.mem_of_getElem? (i := 842) (by decide +kernel)⟩
def lw_privs_2 : List (MethodName × Nat) := [(⟨"SleepHarbour$Choosers", "gain", "(IIII)I"⟩, 2), (⟨"SleepHarbour$Choosers", "berthChosen", "(II)I"⟩, 2), (⟨"SleepHarbour", "weightOf", "(II)I"⟩, 12), (⟨"SleepHarbourModel", "readPort", "()I"⟩, 37), (⟨"SleepHarbourModel", "readThing", "()Z"⟩, 37), (⟨"SleepHarbourModel", "readOneTide", "()Z"⟩, 37), (⟨"SleepHarbourModel", "figure", "(II)I"⟩, 37), (⟨"SleepHarbourModel", "readOneBerth", "()Z"⟩, 37), (⟨"SleepHarbourModel", "readOneDream", "()Z"⟩, 37), (⟨"SleepHarbourModel", "tideOf", "(I)I"⟩, 37), (⟨"SleepHarbourModel", "dreamsAt", "([II)I"⟩, 37), (⟨"SleepHarbourModel", "berthed", "([I)I"⟩, 37), (⟨"SleepHarbourModel", "woke", "()I"⟩, 37), (⟨"SleepHarbourModel", "plainly", "()V"⟩, 37), (⟨"SleepHarbourModel", "noBerth", "(I)Z"⟩, 37), (⟨"SleepHarbourModel", "waterOf", "([II)I"⟩, 37)]
theorem lw_r2 : ∀ q ∈ lw_privs_2, lw_okq q := List.forall_mem_cons.mpr ⟨lw_p16, List.forall_mem_cons.mpr ⟨lw_p17, List.forall_mem_cons.mpr ⟨lw_p18, List.forall_mem_cons.mpr ⟨lw_p19, List.forall_mem_cons.mpr ⟨lw_p20, List.forall_mem_cons.mpr ⟨lw_p21, List.forall_mem_cons.mpr ⟨lw_p22, List.forall_mem_cons.mpr ⟨lw_p23, List.forall_mem_cons.mpr ⟨lw_p24, List.forall_mem_cons.mpr ⟨lw_p25, List.forall_mem_cons.mpr ⟨lw_p26, List.forall_mem_cons.mpr ⟨lw_p27, List.forall_mem_cons.mpr ⟨lw_p28, List.forall_mem_cons.mpr ⟨lw_p29, List.forall_mem_cons.mpr ⟨lw_p30, List.forall_mem_cons.mpr ⟨lw_p31, fun _ h => absurd h List.not_mem_nil⟩⟩⟩⟩⟩⟩⟩⟩⟩⟩⟩⟩⟩⟩⟩⟩
theorem lw_p32 : lw_okq (⟨"SleepHarbourModel", "noDream", "(I)Z"⟩, 37) := ⟨⟨by decide +kernel, by decide +kernel⟩, List.mem_of_getElem? (i := 647) (by decide +kernel), List.mem_of_getElem? (i := 852) (by decide +kernel), List.mem_of_getElem? (i := 853) (by decide +kernel)⟩
theorem lw_p33 : lw_okq (⟨"SleepHarbourModel", "mayBe", "([II)I"⟩, 37) := ⟨⟨by decide +kernel, by decide +kernel⟩, List.mem_of_getElem? (i := 647) (by decide +kernel), List.mem_of_getElem? (i := 856) (by decide +kernel), List.mem_of_getElem? (i := 857) (by decide +kernel)⟩
theorem lw_p34 : lw_okq (⟨"SleepHarbourModel", "canBe", "([III)Z"⟩, 37) := ⟨⟨by decide +kernel, by decide +kernel⟩, List.mem_of_getElem? (i := 647) (by decide +kernel), List.mem_of_getElem? (i := 860) (by decide +kernel), List.mem_of_getElem? (i := 861) (by decide +kernel)⟩
theorem lw_p35 : lw_okq (⟨"SleepHarbourModel", "suits", "([III)Z"⟩, 37) := ⟨⟨by decide +kernel, by decide +kernel⟩, List.mem_of_getElem? (i := 647) (by decide +kernel), List.mem_of_getElem? (i := 864) (by decide +kernel), List.mem_of_getElem? (i := 865) (by decide +kernel)⟩
theorem lw_p36 : lw_okq (⟨"SleepHarbourModel", "note", "()V"⟩, 37) := ⟨⟨by decide +kernel, by decide +kernel⟩, List.mem_of_getElem? (i := 647) (by decide +kernel), List.mem_of_getElem? (i := 875) (by decide +kernel), List.mem_of_getElem? (i := 876) (by decide +kernel)⟩
theorem lw_p37 : lw_okq (⟨"SleepHarbourModel", "goNight", "([I)I"⟩, 37) := ⟨⟨by decide +kernel, by decide +kernel⟩, List.mem_of_getElem? (i := 647) (by decide +kernel), List.mem_of_getElem? (i := 879) (by decide +kernel), List.mem_of_getElem? (i := 880) (by decide +kernel)⟩
theorem lw_p38 : lw_okq (⟨"SleepHarbourModel", "goSleep", "([I)I"⟩, 37) := ⟨⟨by decide +kernel, by decide +kernel⟩, List.mem_of_getElem? (i := 647) (by decide +kernel), List.mem_of_getElem? (i := 883) (by decide +kernel), List.mem_of_getElem? (i := 884) (by decide +kernel)⟩
theorem lw_p39 : lw_okq (⟨"SleepHarbourModel", "goWait", "([I)V"⟩, 37) := ⟨⟨by decide +kernel, by decide +kernel⟩, List.mem_of_getElem? (i := 647) (by decide +kernel), List.mem_of_getElem? (i := 887) (by decide +kernel), List.mem_of_getElem? (i := 888) (by decide +kernel)⟩
theorem lw_p40 : lw_okq (⟨"SleepHarbourModel", "goNights", "(I)V"⟩, 37) := ⟨⟨by decide +kernel, by decide +kernel⟩, List.mem_of_getElem? (i := 647) (by decide +kernel), List.mem_of_getElem? (i := 911) (by decide +kernel), List.mem_of_getElem? (i := 912) (by decide +kernel)⟩
theorem lw_p41 : lw_okq (⟨"SleepHarbourModel", "begin", "()V"⟩, 37) := ⟨⟨by decide +kernel, by decide +kernel⟩, List.mem_of_getElem? (i := 647) (by decide +kernel), List.mem_of_getElem? (i := 915) (by decide +kernel), List.mem_of_getElem? (i := 916) (by decide +kernel)⟩
theorem lw_p42 : lw_okq (⟨"SleepHarbourModel", "fitsThen", "(I)I"⟩, 37) := ⟨⟨by decide +kernel, by decide +kernel⟩, List.mem_of_getElem? (i := 647) (by decide +kernel), List.mem_of_getElem? (i := 927) (by decide +kernel), List.mem_of_getElem? (i := 928) (by decide +kernel)⟩
theorem lw_p43 : lw_okq (⟨"SleepHarbourModel", "findPlan", "()I"⟩, 37) := ⟨⟨by decide +kernel, by decide +kernel⟩, List.mem_of_getElem? (i := 647) (by decide +kernel), List.mem_of_getElem? (i := 939) (by decide +kernel), List.mem_of_getElem? (i := 940) (by decide +kernel)⟩
theorem lw_p44 : lw_okq (⟨"SleepHarbourModel", "berthsBy", "(II)Z"⟩, 37) := ⟨⟨by decide +kernel, by decide +kernel⟩, List.mem_of_getElem? (i := 647) (by decide +kernel), List.mem_of_getElem? (i := 946) (by decide +kernel), List.mem_of_getElem? (i := 947) (by decide +kernel)⟩
theorem lw_p45 : lw_okq (⟨"SleepHarbourModel", "does", "(I)Z"⟩, 37) := ⟨⟨by decide +kernel, by decide +kernel⟩, List.mem_of_getElem? (i := 647) (by decide +kernel), List.mem_of_getElem? (i := 959) (by decide +kernel), List.mem_of_getElem? (i := 960) (by decide +kernel)⟩
theorem lw_p46 : lw_okq (⟨"SleepHarbourModel", "explains", "(IZ)Z"⟩, 37) := ⟨⟨by decide +kernel, by decide +kernel⟩, List.mem_of_getElem? (i := 647) (by decide +kernel), List.mem_of_getElem? (i := 989) (by decide +kernel), List.mem_of_getElem? (i := 990) (by decide +kernel)⟩
theorem lw_p47 : lw_okq (⟨"SleepHarbourModel", "layGains", "(III)V"⟩, 37) := ⟨⟨by decide +kernel, by decide +kernel⟩, List.mem_of_getElem? (i := 647) (by decide +kernel), List.mem_of_getElem? (i := 997) (by decide +kernel), List.mem_of_getElem? (i := 998) (by decide +kernel)⟩
def lw_privs_3 : List (MethodName × Nat) := [(⟨"SleepHarbourModel", "noDream", "(I)Z"⟩, 37), (⟨"SleepHarbourModel", "mayBe", "([II)I"⟩, 37), (⟨"SleepHarbourModel", "canBe", "([III)Z"⟩, 37), (⟨"SleepHarbourModel", "suits", "([III)Z"⟩, 37), (⟨"SleepHarbourModel", "note", "()V"⟩, 37), (⟨"SleepHarbourModel", "goNight", "([I)I"⟩, 37), (⟨"SleepHarbourModel", "goSleep", "([I)I"⟩, 37), (⟨"SleepHarbourModel", "goWait", "([I)V"⟩, 37), (⟨"SleepHarbourModel", "goNights", "(I)V"⟩, 37), (⟨"SleepHarbourModel", "begin", "()V"⟩, 37), (⟨"SleepHarbourModel", "fitsThen", "(I)I"⟩, 37), (⟨"SleepHarbourModel", "findPlan", "()I"⟩, 37), (⟨"SleepHarbourModel", "berthsBy", "(II)Z"⟩, 37), (⟨"SleepHarbourModel", "does", "(I)Z"⟩, 37), (⟨"SleepHarbourModel", "explains", "(IZ)Z"⟩, 37), (⟨"SleepHarbourModel", "layGains", "(III)V"⟩, 37)]
theorem lw_r3 : ∀ q ∈ lw_privs_3, lw_okq q := List.forall_mem_cons.mpr ⟨lw_p32, List.forall_mem_cons.mpr ⟨lw_p33, List.forall_mem_cons.mpr ⟨lw_p34, List.forall_mem_cons.mpr ⟨lw_p35, List.forall_mem_cons.mpr ⟨lw_p36, List.forall_mem_cons.mpr ⟨lw_p37, List.forall_mem_cons.mpr ⟨lw_p38, List.forall_mem_cons.mpr ⟨lw_p39, List.forall_mem_cons.mpr ⟨lw_p40, List.forall_mem_cons.mpr ⟨lw_p41, List.forall_mem_cons.mpr ⟨lw_p42, List.forall_mem_cons.mpr ⟨lw_p43, List.forall_mem_cons.mpr ⟨lw_p44, List.forall_mem_cons.mpr ⟨lw_p45, List.forall_mem_cons.mpr ⟨lw_p46, List.forall_mem_cons.mpr ⟨lw_p47, fun _ h => absurd h List.not_mem_nil⟩⟩⟩⟩⟩⟩⟩⟩⟩⟩⟩⟩⟩⟩⟩⟩
theorem lw_p48 : lw_okq (⟨"SleepHarbourModel", "chosen", "(II)I"⟩, 37) := ⟨⟨by decide +kernel, by decide +kernel⟩, List.mem_of_getElem? (i := 647) (by decide +kernel), List.mem_of_getElem? (i := 1001) (by decide +kernel), List.mem_of_getElem? (i := 1002) (by decide +kernel)⟩
def lw_privs_4 : List (MethodName × Nat) := [(⟨"SleepHarbourModel", "chosen", "(II)I"⟩, 37)]
theorem lw_r4 : ∀ q ∈ lw_privs_4, lw_okq q := List.forall_mem_cons.mpr ⟨lw_p48, fun _ h => absurd h List.not_mem_nil⟩
def lw_privs : List (MethodName × Nat) := lw_privs_1 ++ (lw_privs_2 ++ (lw_privs_3 ++ (lw_privs_4)))
def lw_tbl : List Cond := k2_sels lw_privs ++ tables_1
theorem lw_privs_ok : ∀ q ∈ lw_privs, lw_okq q := by
  show ∀ q ∈ lw_privs_1 ++ (lw_privs_2 ++ (lw_privs_3 ++ (lw_privs_4))), lw_okq q
  exact List.forall_mem_append.mpr ⟨lw_r1, List.forall_mem_append.mpr ⟨lw_r2, List.forall_mem_append.mpr ⟨lw_r3, lw_r4⟩⟩⟩
end
section
def RX0 : String := "SleepHarbour$Acts"
def TX0 : u_T := fun k => match k with
  | 0 => ("SleepHarbour$Acts", "before", "[LSleepHarbour$Harbour;", true)
  | 1 => ("SleepHarbour$Acts", "next", "I", false)
  | _ => ("SleepHarbour$Acts", "count", "I", false)
def tyX0 : Nat → FieldType := fun k => match k with
  | 0 => .array (.object "SleepHarbour$Harbour")
  | 1 => .int
  | _ => .int
theorem nmX0 : ∀ a, a < 3 → ∀ b, b < 3 → a ≠ b → (TX0 a).2.1 ≠ (TX0 b).2.1 := by decide +kernel
theorem tyX0_ok : ∀ k, k < 3 → parseFieldDescriptor (TX0 k).2.2.1 = some (tyX0 k) := by decide +kernel
abbrev cX0_init : ByteArray := prog_2_method_1_code
def yX0_init : MethodName := ⟨RX0, "<init>", "(LSleepHarbour$Told;)V"⟩
abbrev cX0_remember : ByteArray := prog_2_method_2_code
def yX0_remember : MethodName := ⟨RX0, "remember", "(LSleepHarbour$Harbour;)V"⟩
abbrev cX0_takeBack : ByteArray := prog_2_method_3_code
def yX0_takeBack : MethodName := ⟨RX0, "takeBack", "(LSleepHarbour$Harbour;)V"⟩
abbrev cX0_forget : ByteArray := prog_2_method_4_code
def yX0_forget : MethodName := ⟨RX0, "forget", "()V"⟩
def RX1 : String := "SleepHarbour$Choosers"
def TX1 : u_T := fun k => match k with
  | 0 => ("SleepHarbour$Choosers", "told", "LSleepHarbour$Told;", true)
  | _ => ("SleepHarbour$Choosers", "trial", "LSleepHarbour$Harbour;", true)
def tyX1 : Nat → FieldType := fun k => match k with
  | 0 => .object "SleepHarbour$Told"
  | _ => .object "SleepHarbour$Harbour"
theorem nmX1 : ∀ a, a < 2 → ∀ b, b < 2 → a ≠ b → (TX1 a).2.1 ≠ (TX1 b).2.1 := by decide +kernel
theorem tyX1_ok : ∀ k, k < 2 → parseFieldDescriptor (TX1 k).2.2.1 = some (tyX1 k) := by decide +kernel
abbrev cX1_init : ByteArray := prog_3_method_1_code
def yX1_init : MethodName := ⟨RX1, "<init>", "(LSleepHarbour$Told;LSleepHarbour$Harbour;)V"⟩
abbrev cX1_isContent : ByteArray := prog_3_method_2_code
def yX1_isContent : MethodName := ⟨RX1, "isContent", "(IIII)Z"⟩
abbrev cX1_gain : ByteArray := prog_3_method_3_code
def yX1_gain : MethodName := ⟨RX1, "gain", "(IIII)I"⟩
abbrev cX1_berthChosen : ByteArray := prog_3_method_4_code
def yX1_berthChosen : MethodName := ⟨RX1, "berthChosen", "(II)I"⟩
def RX2 : String := "SleepHarbour$Harbour"
def TX2 : u_T := fun k => match k with
  | 0 => ("SleepHarbour$Harbour", "told", "LSleepHarbour$Told;", true)
  | 1 => ("SleepHarbour$Harbour", "place", "[I", true)
  | 2 => ("SleepHarbour$Harbour", "lain", "[I", true)
  | 3 => ("SleepHarbour$Harbour", "draught", "[I", true)
  | 4 => ("SleepHarbour$Harbour", "depth", "[I", true)
  | 5 => ("SleepHarbour$Harbour", "woke", "[I", true)
  | _ => ("SleepHarbour$Harbour", "nights", "I", false)
def tyX2 : Nat → FieldType := fun k => match k with
  | 0 => .object "SleepHarbour$Told"
  | 1 => .array .int
  | 2 => .array .int
  | 3 => .array .int
  | 4 => .array .int
  | 5 => .array .int
  | _ => .int
theorem nmX2 : ∀ a, a < 7 → ∀ b, b < 7 → a ≠ b → (TX2 a).2.1 ≠ (TX2 b).2.1 := by decide +kernel
theorem tyX2_ok : ∀ k, k < 7 → parseFieldDescriptor (TX2 k).2.2.1 = some (tyX2 k) := by decide +kernel
abbrev cX2_init : ByteArray := prog_4_method_1_code
def yX2_init : MethodName := ⟨RX2, "<init>", "(LSleepHarbour$Told;)V"⟩
abbrev cX2_begin : ByteArray := prog_4_method_2_code
def yX2_begin : MethodName := ⟨RX2, "begin", "()V"⟩
abbrev cX2_becomes : ByteArray := prog_4_method_3_code
def yX2_becomes : MethodName := ⟨RX2, "becomes", "(LSleepHarbour$Harbour;)V"⟩
abbrev cX2_tide : ByteArray := prog_4_method_4_code
def yX2_tide : MethodName := ⟨RX2, "tide", "()I"⟩
abbrev cX2_water : ByteArray := prog_4_method_5_code
def yX2_water : MethodName := ⟨RX2, "water", "(I)I"⟩
abbrev cX2_liesOff : ByteArray := prog_4_method_6_code
def yX2_liesOff : MethodName := ⟨RX2, "liesOff", "(I)Z"⟩
abbrev cX2_isBerthed : ByteArray := prog_4_method_7_code
def yX2_isBerthed : MethodName := ⟨RX2, "isBerthed", "(I)Z"⟩
abbrev cX2_dreamsAt : ByteArray := prog_4_method_8_code
def yX2_dreamsAt : MethodName := ⟨RX2, "dreamsAt", "(I)I"⟩
abbrev cX2_countAt : ByteArray := prog_4_method_9_code
def yX2_countAt : MethodName := ⟨RX2, "countAt", "(I)I"⟩
abbrev cX2_dreamsBerthed : ByteArray := prog_4_method_10_code
def yX2_dreamsBerthed : MethodName := ⟨RX2, "dreamsBerthed", "()I"⟩
abbrev cX2_wokeInAll : ByteArray := prog_4_method_11_code
def yX2_wokeInAll : MethodName := ⟨RX2, "wokeInAll", "()I"⟩
abbrev cX2_roomIn : ByteArray := prog_4_method_12_code
def yX2_roomIn : MethodName := ⟨RX2, "roomIn", "(I)I"⟩
abbrev cX2_suits : ByteArray := prog_4_method_13_code
def yX2_suits : MethodName := ⟨RX2, "suits", "(II)Z"⟩
abbrev cX2_canBe : ByteArray := prog_4_method_14_code
def yX2_canBe : MethodName := ⟨RX2, "canBe", "(II)Z"⟩
abbrev cX2_berthsOpenTo : ByteArray := prog_4_method_15_code
def yX2_berthsOpenTo : MethodName := ⟨RX2, "berthsOpenTo", "(I)I"⟩
abbrev cX2_berthsFitFor : ByteArray := prog_4_method_16_code
def yX2_berthsFitFor : MethodName := ⟨RX2, "berthsFitFor", "(I)I"⟩
abbrev cX2_canMoor : ByteArray := prog_4_method_17_code
def yX2_canMoor : MethodName := ⟨RX2, "canMoor", "(II)Z"⟩
abbrev cX2_canTow : ByteArray := prog_4_method_18_code
def yX2_canTow : MethodName := ⟨RX2, "canTow", "(I)Z"⟩
abbrev cX2_towOut : ByteArray := prog_4_method_19_code
def yX2_towOut : MethodName := ⟨RX2, "towOut", "(I)V"⟩
abbrev cX2_dreamtIn : ByteArray := prog_4_method_20_code
def yX2_dreamtIn : MethodName := ⟨RX2, "dreamtIn", "(II)I"⟩
abbrev cX2_spoilt : ByteArray := prog_4_method_21_code
def yX2_spoilt : MethodName := ⟨RX2, "spoilt", "(II)I"⟩
abbrev cX2_dreamtIfFailed : ByteArray := prog_4_method_22_code
def yX2_dreamtIfFailed : MethodName := ⟨RX2, "dreamtIfFailed", "(I)I"⟩
abbrev cX2_passNight : ByteArray := prog_4_method_23_code
def yX2_passNight : MethodName := ⟨RX2, "passNight", "()I"⟩
abbrev cX2_sleepIn : ByteArray := prog_4_method_24_code
def yX2_sleepIn : MethodName := ⟨RX2, "sleepIn", "(II)V"⟩
abbrev cX2_lieOffLonger : ByteArray := prog_4_method_25_code
def yX2_lieOffLonger : MethodName := ⟨RX2, "lieOffLonger", "()V"⟩
abbrev cX2_bringNightmares : ByteArray := prog_4_method_26_code
def yX2_bringNightmares : MethodName := ⟨RX2, "bringNightmares", "()V"⟩
abbrev cX2_moorInLeast : ByteArray := prog_4_method_27_code
def yX2_moorInLeast : MethodName := ⟨RX2, "moorInLeast", "(I)V"⟩
abbrev cX2_dredge : ByteArray := prog_4_method_28_code
def yX2_dredge : MethodName := ⟨RX2, "dredge", "()V"⟩
abbrev cX2_does : ByteArray := prog_4_method_29_code
def yX2_does : MethodName := ⟨RX2, "does", "(I)Z"⟩
abbrev cX2_drift : ByteArray := prog_4_method_30_code
def yX2_drift : MethodName := ⟨RX2, "drift", "(I)V"⟩
abbrev cX2_moors : ByteArray := prog_4_method_31_code
def yX2_moors : MethodName := ⟨RX2, "moors", "(II)Z"⟩
abbrev cX2_tows : ByteArray := prog_4_method_32_code
def yX2_tows : MethodName := ⟨RX2, "tows", "(I)Z"⟩
def RX3 : String := "SleepHarbour$Planner"
def TX3 : u_T := fun k => match k with
  | 0 => ("SleepHarbour$Planner", "told", "LSleepHarbour$Told;", true)
  | 1 => ("SleepHarbour$Planner", "trial", "LSleepHarbour$Harbour;", true)
  | 2 => ("SleepHarbour$Planner", "come", "I", false)
  | 3 => ("SleepHarbour$Planner", "most", "I", false)
  | _ => ("SleepHarbour$Planner", "way", "I", false)
def tyX3 : Nat → FieldType := fun k => match k with
  | 0 => .object "SleepHarbour$Told"
  | 1 => .object "SleepHarbour$Harbour"
  | 2 => .int
  | 3 => .int
  | _ => .int
theorem nmX3 : ∀ a, a < 5 → ∀ b, b < 5 → a ≠ b → (TX3 a).2.1 ≠ (TX3 b).2.1 := by decide +kernel
theorem tyX3_ok : ∀ k, k < 5 → parseFieldDescriptor (TX3 k).2.2.1 = some (tyX3 k) := by decide +kernel
abbrev cX3_init : ByteArray := prog_5_method_1_code
def yX3_init : MethodName := ⟨RX3, "<init>", "(LSleepHarbour$Told;LSleepHarbour$Harbour;)V"⟩
abbrev cX3_search : ByteArray := prog_5_method_2_code
def yX3_search : MethodName := ⟨RX3, "search", "(LSleepHarbour$Harbour;I)I"⟩
abbrev cX3_choose : ByteArray := prog_5_method_3_code
def yX3_choose : MethodName := ⟨RX3, "choose", "(III)V"⟩
abbrev cX3_isWorthwhile : ByteArray := prog_5_method_4_code
def yX3_isWorthwhile : MethodName := ⟨RX3, "isWorthwhile", "(II)Z"⟩
abbrev cX3_weigh : ByteArray := prog_5_method_5_code
def yX3_weigh : MethodName := ⟨RX3, "weigh", "(I)V"⟩
def RX4 : String := "SleepHarbour$Sounded"
def TX4 : u_T := fun k => match k with
  | 0 => ("SleepHarbour$Sounded", "draught", "[I", true)
  | 1 => ("SleepHarbour$Sounded", "night", "[I", true)
  | 2 => ("SleepHarbour$Sounded", "grounded", "[Z", true)
  | _ => ("SleepHarbour$Sounded", "count", "I", false)
def tyX4 : Nat → FieldType := fun k => match k with
  | 0 => .array .int
  | 1 => .array .int
  | 2 => .array .boolean
  | _ => .int
theorem nmX4 : ∀ a, a < 4 → ∀ b, b < 4 → a ≠ b → (TX4 a).2.1 ≠ (TX4 b).2.1 := by decide +kernel
theorem tyX4_ok : ∀ k, k < 4 → parseFieldDescriptor (TX4 k).2.2.1 = some (tyX4 k) := by decide +kernel
abbrev cX4_init : ByteArray := prog_6_method_1_code
def yX4_init : MethodName := ⟨RX4, "<init>", "()V"⟩
abbrev cX4_add : ByteArray := prog_6_method_2_code
def yX4_add : MethodName := ⟨RX4, "add", "(IIZ)I"⟩
abbrev cX4_empty : ByteArray := prog_6_method_3_code
def yX4_empty : MethodName := ⟨RX4, "empty", "()I"⟩
abbrev cX4_agrees : ByteArray := prog_6_method_4_code
def yX4_agrees : MethodName := ⟨RX4, "agrees", "(IILSleepHarbour$Told;)Z"⟩
def RX5 : String := "SleepHarbour$Text"
def TX5 : u_T := fun k => match k with
  | 0 => ("SleepHarbour$Text", "bytes", "[I", true)
  | _ => ("SleepHarbour$Text", "length", "I", false)
def tyX5 : Nat → FieldType := fun k => match k with
  | 0 => .array .int
  | _ => .int
theorem nmX5 : ∀ a, a < 2 → ∀ b, b < 2 → a ≠ b → (TX5 a).2.1 ≠ (TX5 b).2.1 := by decide +kernel
theorem tyX5_ok : ∀ k, k < 2 → parseFieldDescriptor (TX5 k).2.2.1 = some (tyX5 k) := by decide +kernel
abbrev cX5_init : ByteArray := prog_7_method_1_code
def yX5_init : MethodName := ⟨RX5, "<init>", "()V"⟩
abbrev cX5_add : ByteArray := prog_7_method_2_code
def yX5_add : MethodName := ⟨RX5, "add", "(I)I"⟩
abbrev cX5_empty : ByteArray := prog_7_method_3_code
def yX5_empty : MethodName := ⟨RX5, "empty", "()I"⟩
abbrev cX5_tell : ByteArray := prog_7_method_4_code
def yX5_tell : MethodName := ⟨RX5, "tell", "(LSleepHarbour$Told;)I"⟩
def RX6 : String := "SleepHarbour$Told"
def TX6 : u_T := fun k => match k with
  | 0 => ("SleepHarbour$Told", "tideOf", "[I", true)
  | 1 => ("SleepHarbour$Told", "depth", "[I", true)
  | 2 => ("SleepHarbour$Told", "berthKind", "[I", true)
  | 3 => ("SleepHarbour$Told", "draught", "[I", true)
  | 4 => ("SleepHarbour$Told", "dreamKind", "[I", true)
  | 5 => ("SleepHarbour$Told", "tides", "I", false)
  | 6 => ("SleepHarbour$Told", "berths", "I", false)
  | 7 => ("SleepHarbour$Told", "dreams", "I", false)
  | 8 => ("SleepHarbour$Told", "open", "I", false)
  | _ => ("SleepHarbour$Told", "figure", "I", false)
def tyX6 : Nat → FieldType := fun k => match k with
  | 0 => .array .int
  | 1 => .array .int
  | 2 => .array .int
  | 3 => .array .int
  | 4 => .array .int
  | 5 => .int
  | 6 => .int
  | 7 => .int
  | 8 => .int
  | _ => .int
theorem nmX6 : ∀ a, a < 10 → ∀ b, b < 10 → a ≠ b → (TX6 a).2.1 ≠ (TX6 b).2.1 := by decide +kernel
theorem tyX6_ok : ∀ k, k < 10 → parseFieldDescriptor (TX6 k).2.2.1 = some (tyX6 k) := by decide +kernel
abbrev cX6_init : ByteArray := prog_8_method_1_code
def yX6_init : MethodName := ⟨RX6, "<init>", "()V"⟩
abbrev cX6_beginAnew : ByteArray := prog_8_method_2_code
def yX6_beginAnew : MethodName := ⟨RX6, "beginAnew", "()V"⟩
abbrev cX6_mayEnd : ByteArray := prog_8_method_3_code
def yX6_mayEnd : MethodName := ⟨RX6, "mayEnd", "()Z"⟩
abbrev cX6_hasBerth : ByteArray := prog_8_method_4_code
def yX6_hasBerth : MethodName := ⟨RX6, "hasBerth", "(I)Z"⟩
abbrev cX6_hasDream : ByteArray := prog_8_method_5_code
def yX6_hasDream : MethodName := ⟨RX6, "hasDream", "(I)Z"⟩
abbrev cX6_tideOn : ByteArray := prog_8_method_6_code
def yX6_tideOn : MethodName := ⟨RX6, "tideOn", "(I)I"⟩
abbrev cX6_hears : ByteArray := prog_8_method_7_code
def yX6_hears : MethodName := ⟨RX6, "hears", "(I)Z"⟩
abbrev cX6_hasRoomFor : ByteArray := prog_8_method_8_code
def yX6_hasRoomFor : MethodName := ⟨RX6, "hasRoomFor", "(I)Z"⟩
abbrev cX6_hearsFirst : ByteArray := prog_8_method_9_code
def yX6_hearsFirst : MethodName := ⟨RX6, "hearsFirst", "(I)Z"⟩
abbrev cX6_hearsKind : ByteArray := prog_8_method_10_code
def yX6_hearsKind : MethodName := ⟨RX6, "hearsKind", "(I)Z"⟩
def RX7 : String := "SleepHarbour"
def TX7 : u_T := fun k => match k with
  | 0 => ("SleepHarbour", "text", "LSleepHarbour$Text;", true)
  | 1 => ("SleepHarbour", "told", "LSleepHarbour$Told;", true)
  | 2 => ("SleepHarbour", "draft", "LSleepHarbour$Told;", true)
  | 3 => ("SleepHarbour", "now", "LSleepHarbour$Harbour;", true)
  | 4 => ("SleepHarbour", "then", "LSleepHarbour$Harbour;", true)
  | 5 => ("SleepHarbour", "acts", "LSleepHarbour$Acts;", true)
  | 6 => ("SleepHarbour", "sounded", "LSleepHarbour$Sounded;", true)
  | 7 => ("SleepHarbour", "planner", "LSleepHarbour$Planner;", true)
  | 8 => ("SleepHarbour", "choosers", "LSleepHarbour$Choosers;", true)
  | 9 => ("SleepHarbour", "kept", "[LSleepHarbour$Harbour;", true)
  | 10 => ("SleepHarbour", "isKept", "[Z", true)
  | _ => ("SleepHarbour", "seedNow", "J", false)
def tyX7 : Nat → FieldType := fun k => match k with
  | 0 => .object "SleepHarbour$Text"
  | 1 => .object "SleepHarbour$Told"
  | 2 => .object "SleepHarbour$Told"
  | 3 => .object "SleepHarbour$Harbour"
  | 4 => .object "SleepHarbour$Harbour"
  | 5 => .object "SleepHarbour$Acts"
  | 6 => .object "SleepHarbour$Sounded"
  | 7 => .object "SleepHarbour$Planner"
  | 8 => .object "SleepHarbour$Choosers"
  | 9 => .array (.object "SleepHarbour$Harbour")
  | 10 => .array .boolean
  | _ => .long
theorem nmX7 : ∀ a, a < 12 → ∀ b, b < 12 → a ≠ b → (TX7 a).2.1 ≠ (TX7 b).2.1 := by decide +kernel
theorem tyX7_ok : ∀ k, k < 12 → parseFieldDescriptor (TX7 k).2.2.1 = some (tyX7 k) := by decide +kernel
abbrev cX7_init : ByteArray := prog_1_method_1_code
def yX7_init : MethodName := ⟨RX7, "<init>", "()V"⟩
abbrev cX7_write : ByteArray := prog_1_method_2_code
def yX7_write : MethodName := ⟨RX7, "write", "(I)I"⟩
abbrev cX7_wipe : ByteArray := prog_1_method_3_code
def yX7_wipe : MethodName := ⟨RX7, "wipe", "()I"⟩
abbrev cX7_fault : ByteArray := prog_1_method_4_code
def yX7_fault : MethodName := ⟨RX7, "fault", "()I"⟩
abbrev cX7_port : ByteArray := prog_1_method_5_code
def yX7_port : MethodName := ⟨RX7, "port", "()I"⟩
abbrev cX7_about : ByteArray := prog_1_method_6_code
def yX7_about : MethodName := ⟨RX7, "about", "(I)I"⟩
abbrev cX7_berth : ByteArray := prog_1_method_7_code
def yX7_berth : MethodName := ⟨RX7, "berth", "(II)I"⟩
abbrev cX7_dream : ByteArray := prog_1_method_8_code
def yX7_dream : MethodName := ⟨RX7, "dream", "(II)I"⟩
abbrev cX7_night : ByteArray := prog_1_method_9_code
def yX7_night : MethodName := ⟨RX7, "night", "()I"⟩
abbrev cX7_moor : ByteArray := prog_1_method_10_code
def yX7_moor : MethodName := ⟨RX7, "moor", "(II)I"⟩
abbrev cX7_tow : ByteArray := prog_1_method_11_code
def yX7_tow : MethodName := ⟨RX7, "tow", "(I)I"⟩
abbrev cX7_undo : ByteArray := prog_1_method_12_code
def yX7_undo : MethodName := ⟨RX7, "undo", "()I"⟩
abbrev cX7_later : ByteArray := prog_1_method_13_code
def yX7_later : MethodName := ⟨RX7, "later", "(II)I"⟩
abbrev cX7_wakes : ByteArray := prog_1_method_14_code
def yX7_wakes : MethodName := ⟨RX7, "wakes", "(II)I"⟩
abbrev cX7_fits : ByteArray := prog_1_method_15_code
def yX7_fits : MethodName := ⟨RX7, "fits", "(II)I"⟩
abbrev cX7_soonest : ByteArray := prog_1_method_16_code
def yX7_soonest : MethodName := ⟨RX7, "soonest", "(I)I"⟩
abbrev cX7_plan : ByteArray := prog_1_method_17_code
def yX7_plan : MethodName := ⟨RX7, "plan", "(Z)I"⟩
abbrev cX7_judge : ByteArray := prog_1_method_18_code
def yX7_judge : MethodName := ⟨RX7, "judge", "(IJ)I"⟩
abbrev cX7_share : ByteArray := prog_1_method_19_code
def yX7_share : MethodName := ⟨RX7, "share", "(IZ)I"⟩
abbrev cX7_sound : ByteArray := prog_1_method_20_code
def yX7_sound : MethodName := ⟨RX7, "sound", "(III)I"⟩
abbrev cX7_unsound : ByteArray := prog_1_method_21_code
def yX7_unsound : MethodName := ⟨RX7, "unsound", "()I"⟩
abbrev cX7_depths : ByteArray := prog_1_method_22_code
def yX7_depths : MethodName := ⟨RX7, "depths", "(I)I"⟩
abbrev cX7_rests : ByteArray := prog_1_method_23_code
def yX7_rests : MethodName := ⟨RX7, "rests", "(III)I"⟩
abbrev cX7_ebb : ByteArray := prog_1_method_24_code
def yX7_ebb : MethodName := ⟨RX7, "ebb", "(IIZ)I"⟩
abbrev cX7_seed : ByteArray := prog_1_method_25_code
def yX7_seed : MethodName := ⟨RX7, "seed", "(J)J"⟩
abbrev cX7_years : ByteArray := prog_1_method_26_code
def yX7_years : MethodName := ⟨RX7, "years", "(I)I"⟩
abbrev cX7_keep : ByteArray := prog_1_method_27_code
def yX7_keep : MethodName := ⟨RX7, "keep", "(I)I"⟩
abbrev cX7_again : ByteArray := prog_1_method_28_code
def yX7_again : MethodName := ⟨RX7, "again", "(I)I"⟩
abbrev cX7_isNights : ByteArray := prog_1_method_29_code
def yX7_isNights : MethodName := ⟨RX7, "isNights", "(I)Z"⟩
abbrev cX7_lookAhead : ByteArray := prog_1_method_30_code
def yX7_lookAhead : MethodName := ⟨RX7, "lookAhead", "(I)V"⟩
abbrev cX7_withoutLast : ByteArray := prog_1_method_31_code
def yX7_withoutLast : MethodName := ⟨RX7, "withoutLast", "(JI)J"⟩
abbrev cX7_allBerths : ByteArray := prog_1_method_32_code
def yX7_allBerths : MethodName := ⟨RX7, "allBerths", "()I"⟩
abbrev cX7_weightOf : ByteArray := prog_1_method_33_code
def yX7_weightOf : MethodName := ⟨RX7, "weightOf", "(II)I"⟩
abbrev cX7_part : ByteArray := prog_1_method_34_code
def yX7_part : MethodName := ⟨RX7, "part", "(IIZ)I"⟩
abbrev cX7_commonDivisor : ByteArray := prog_1_method_35_code
def yX7_commonDivisor : MethodName := ⟨RX7, "commonDivisor", "(II)I"⟩
def RX8 : String := "SleepHarbourModel"
def TX8 : u_T := fun k => match k with
  | 0 => ("SleepHarbourModel", "thrown", "I", false)
  | 1 => ("SleepHarbourModel", "text", "[I", true)
  | 2 => ("SleepHarbourModel", "textSize", "I", false)
  | 3 => ("SleepHarbourModel", "place", "I", false)
  | 4 => ("SleepHarbourModel", "tides", "I", false)
  | 5 => ("SleepHarbourModel", "tide", "[I", true)
  | 6 => ("SleepHarbourModel", "berths", "I", false)
  | 7 => ("SleepHarbourModel", "sort", "[I", true)
  | 8 => ("SleepHarbourModel", "dreams", "I", false)
  | 9 => ("SleepHarbourModel", "kind", "[I", true)
  | 10 => ("SleepHarbourModel", "readTides", "I", false)
  | 11 => ("SleepHarbourModel", "readTide", "[I", true)
  | 12 => ("SleepHarbourModel", "readBerths", "I", false)
  | 13 => ("SleepHarbourModel", "readBerth", "[I", true)
  | 14 => ("SleepHarbourModel", "readDreams", "I", false)
  | 15 => ("SleepHarbourModel", "readDream", "[I", true)
  | 16 => ("SleepHarbourModel", "page", "[I", true)
  | 17 => ("SleepHarbourModel", "trial", "[I", true)
  | 18 => ("SleepHarbourModel", "book", "[I", true)
  | 19 => ("SleepHarbourModel", "acts", "I", false)
  | 20 => ("SleepHarbourModel", "kept", "[I", true)
  | 21 => ("SleepHarbourModel", "isKept", "[Z", true)
  | 22 => ("SleepHarbourModel", "sounded", "I", false)
  | 23 => ("SleepHarbourModel", "soundDraught", "[I", true)
  | 24 => ("SleepHarbourModel", "soundNight", "[I", true)
  | 25 => ("SleepHarbourModel", "soundIs", "[I", true)
  | 26 => ("SleepHarbourModel", "seed", "J", false)
  | 27 => ("SleepHarbourModel", "ebbs", "I", false)
  | 28 => ("SleepHarbourModel", "some", "I", false)
  | 29 => ("SleepHarbourModel", "planMany", "I", false)
  | 30 => ("SleepHarbourModel", "planWay", "I", false)
  | 31 => ("SleepHarbourModel", "depthMany", "I", false)
  | 32 => ("SleepHarbourModel", "depthFirst", "I", false)
  | 33 => ("SleepHarbourModel", "restMany", "I", false)
  | 34 => ("SleepHarbourModel", "restFirst", "I", false)
  | 35 => ("SleepHarbourModel", "gains", "[I", true)
  | _ => ("SleepHarbourModel", "value", "[I", true)
def tyX8 : Nat → FieldType := fun k => match k with
  | 0 => .int
  | 1 => .array .int
  | 2 => .int
  | 3 => .int
  | 4 => .int
  | 5 => .array .int
  | 6 => .int
  | 7 => .array .int
  | 8 => .int
  | 9 => .array .int
  | 10 => .int
  | 11 => .array .int
  | 12 => .int
  | 13 => .array .int
  | 14 => .int
  | 15 => .array .int
  | 16 => .array .int
  | 17 => .array .int
  | 18 => .array .int
  | 19 => .int
  | 20 => .array .int
  | 21 => .array .boolean
  | 22 => .int
  | 23 => .array .int
  | 24 => .array .int
  | 25 => .array .int
  | 26 => .long
  | 27 => .int
  | 28 => .int
  | 29 => .int
  | 30 => .int
  | 31 => .int
  | 32 => .int
  | 33 => .int
  | 34 => .int
  | 35 => .array .int
  | _ => .array .int
theorem nmX8 : ∀ a, a < 37 → ∀ b, b < 37 → a ≠ b → (TX8 a).2.1 ≠ (TX8 b).2.1 := by decide +kernel
theorem tyX8_ok : ∀ k, k < 37 → parseFieldDescriptor (TX8 k).2.2.1 = some (tyX8 k) := by decide +kernel
abbrev cX8_init : ByteArray := prog_10_method_1_code
def yX8_init : MethodName := ⟨RX8, "<init>", "()V"⟩
abbrev cX8_in : ByteArray := prog_10_method_3_code
def yX8_in : MethodName := ⟨RX8, "in", "(JJJ)Z"⟩
abbrev cX8_has : ByteArray := prog_10_method_4_code
def yX8_has : MethodName := ⟨RX8, "has", "(II)Z"⟩
abbrev cX8_many : ByteArray := prog_10_method_5_code
def yX8_many : MethodName := ⟨RX8, "many", "(I)I"⟩
abbrev cX8_power : ByteArray := prog_10_method_6_code
def yX8_power : MethodName := ⟨RX8, "power", "(II)I"⟩
abbrev cX8_noBerth : ByteArray := prog_10_method_7_code
def yX8_noBerth : MethodName := ⟨RX8, "noBerth", "(I)Z"⟩
abbrev cX8_noDream : ByteArray := prog_10_method_8_code
def yX8_noDream : MethodName := ⟨RX8, "noDream", "(I)Z"⟩
abbrev cX8_write : ByteArray := prog_10_method_9_code
def yX8_write : MethodName := ⟨RX8, "write", "(I)I"⟩
abbrev cX8_wipe : ByteArray := prog_10_method_10_code
def yX8_wipe : MethodName := ⟨RX8, "wipe", "()I"⟩
abbrev cX8_figure : ByteArray := prog_10_method_11_code
def yX8_figure : MethodName := ⟨RX8, "figure", "(II)I"⟩
abbrev cX8_readOneTide : ByteArray := prog_10_method_12_code
def yX8_readOneTide : MethodName := ⟨RX8, "readOneTide", "()Z"⟩
abbrev cX8_readOneBerth : ByteArray := prog_10_method_13_code
def yX8_readOneBerth : MethodName := ⟨RX8, "readOneBerth", "()Z"⟩
abbrev cX8_readOneDream : ByteArray := prog_10_method_14_code
def yX8_readOneDream : MethodName := ⟨RX8, "readOneDream", "()Z"⟩
abbrev cX8_readThing : ByteArray := prog_10_method_15_code
def yX8_readThing : MethodName := ⟨RX8, "readThing", "()Z"⟩
abbrev cX8_readPort : ByteArray := prog_10_method_16_code
def yX8_readPort : MethodName := ⟨RX8, "readPort", "()I"⟩
abbrev cX8_fault : ByteArray := prog_10_method_17_code
def yX8_fault : MethodName := ⟨RX8, "fault", "()I"⟩
abbrev cX8_port : ByteArray := prog_10_method_18_code
def yX8_port : MethodName := ⟨RX8, "port", "()I"⟩
abbrev cX8_tideOf : ByteArray := prog_10_method_19_code
def yX8_tideOf : MethodName := ⟨RX8, "tideOf", "(I)I"⟩
abbrev cX8_waterOf : ByteArray := prog_10_method_20_code
def yX8_waterOf : MethodName := ⟨RX8, "waterOf", "([II)I"⟩
abbrev cX8_dreamsAt : ByteArray := prog_10_method_21_code
def yX8_dreamsAt : MethodName := ⟨RX8, "dreamsAt", "([II)I"⟩
abbrev cX8_berthed : ByteArray := prog_10_method_22_code
def yX8_berthed : MethodName := ⟨RX8, "berthed", "([I)I"⟩
abbrev cX8_suits : ByteArray := prog_10_method_23_code
def yX8_suits : MethodName := ⟨RX8, "suits", "([III)Z"⟩
abbrev cX8_canBe : ByteArray := prog_10_method_24_code
def yX8_canBe : MethodName := ⟨RX8, "canBe", "([III)Z"⟩
abbrev cX8_mayBe : ByteArray := prog_10_method_25_code
def yX8_mayBe : MethodName := ⟨RX8, "mayBe", "([II)I"⟩
abbrev cX8_goSleep : ByteArray := prog_10_method_26_code
def yX8_goSleep : MethodName := ⟨RX8, "goSleep", "([I)I"⟩
abbrev cX8_goWait : ByteArray := prog_10_method_27_code
def yX8_goWait : MethodName := ⟨RX8, "goWait", "([I)V"⟩
abbrev cX8_goNight : ByteArray := prog_10_method_28_code
def yX8_goNight : MethodName := ⟨RX8, "goNight", "([I)I"⟩
abbrev cX8_woke : ByteArray := prog_10_method_29_code
def yX8_woke : MethodName := ⟨RX8, "woke", "()I"⟩
abbrev cX8_plainly : ByteArray := prog_10_method_30_code
def yX8_plainly : MethodName := ⟨RX8, "plainly", "()V"⟩
abbrev cX8_about : ByteArray := prog_10_method_31_code
def yX8_about : MethodName := ⟨RX8, "about", "(I)I"⟩
abbrev cX8_berth : ByteArray := prog_10_method_32_code
def yX8_berth : MethodName := ⟨RX8, "berth", "(II)I"⟩
abbrev cX8_dream : ByteArray := prog_10_method_33_code
def yX8_dream : MethodName := ⟨RX8, "dream", "(II)I"⟩
abbrev cX8_note : ByteArray := prog_10_method_34_code
def yX8_note : MethodName := ⟨RX8, "note", "()V"⟩
abbrev cX8_night : ByteArray := prog_10_method_35_code
def yX8_night : MethodName := ⟨RX8, "night", "()I"⟩
abbrev cX8_moor : ByteArray := prog_10_method_36_code
def yX8_moor : MethodName := ⟨RX8, "moor", "(II)I"⟩
abbrev cX8_goTow : ByteArray := prog_10_method_37_code
def yX8_goTow : MethodName := ⟨RX8, "goTow", "([II)V"⟩
abbrev cX8_tow : ByteArray := prog_10_method_38_code
def yX8_tow : MethodName := ⟨RX8, "tow", "(I)I"⟩
abbrev cX8_undo : ByteArray := prog_10_method_39_code
def yX8_undo : MethodName := ⟨RX8, "undo", "()I"⟩
abbrev cX8_begin : ByteArray := prog_10_method_40_code
def yX8_begin : MethodName := ⟨RX8, "begin", "()V"⟩
abbrev cX8_goNights : ByteArray := prog_10_method_41_code
def yX8_goNights : MethodName := ⟨RX8, "goNights", "(I)V"⟩
abbrev cX8_later : ByteArray := prog_10_method_42_code
def yX8_later : MethodName := ⟨RX8, "later", "(II)I"⟩
abbrev cX8_wakes : ByteArray := prog_10_method_43_code
def yX8_wakes : MethodName := ⟨RX8, "wakes", "(II)I"⟩
abbrev cX8_fitsThen : ByteArray := prog_10_method_44_code
def yX8_fitsThen : MethodName := ⟨RX8, "fitsThen", "(I)I"⟩
abbrev cX8_fits : ByteArray := prog_10_method_45_code
def yX8_fits : MethodName := ⟨RX8, "fits", "(II)I"⟩
abbrev cX8_soonest : ByteArray := prog_10_method_46_code
def yX8_soonest : MethodName := ⟨RX8, "soonest", "(I)I"⟩
abbrev cX8_berthsBy : ByteArray := prog_10_method_47_code
def yX8_berthsBy : MethodName := ⟨RX8, "berthsBy", "(II)Z"⟩
abbrev cX8_findPlan : ByteArray := prog_10_method_48_code
def yX8_findPlan : MethodName := ⟨RX8, "findPlan", "()I"⟩
abbrev cX8_plan : ByteArray := prog_10_method_49_code
def yX8_plan : MethodName := ⟨RX8, "plan", "(Z)I"⟩
abbrev cX8_longPower : ByteArray := prog_10_method_50_code
def yX8_longPower : MethodName := ⟨RX8, "longPower", "(JI)J"⟩
abbrev cX8_does : ByteArray := prog_10_method_51_code
def yX8_does : MethodName := ⟨RX8, "does", "(I)Z"⟩
abbrev cX8_judge : ByteArray := prog_10_method_52_code
def yX8_judge : MethodName := ⟨RX8, "judge", "(IJ)I"⟩
abbrev cX8_ways : ByteArray := prog_10_method_53_code
def yX8_ways : MethodName := ⟨RX8, "ways", "(I)I"⟩
abbrev cX8_divisor : ByteArray := prog_10_method_54_code
def yX8_divisor : MethodName := ⟨RX8, "divisor", "(II)I"⟩
abbrev cX8_fraction : ByteArray := prog_10_method_55_code
def yX8_fraction : MethodName := ⟨RX8, "fraction", "(IIZ)I"⟩
abbrev cX8_share : ByteArray := prog_10_method_56_code
def yX8_share : MethodName := ⟨RX8, "share", "(IZ)I"⟩
abbrev cX8_sound : ByteArray := prog_10_method_57_code
def yX8_sound : MethodName := ⟨RX8, "sound", "(III)I"⟩
abbrev cX8_unsound : ByteArray := prog_10_method_58_code
def yX8_unsound : MethodName := ⟨RX8, "unsound", "()I"⟩
abbrev cX8_explains : ByteArray := prog_10_method_59_code
def yX8_explains : MethodName := ⟨RX8, "explains", "(IZ)Z"⟩
abbrev cX8_depths : ByteArray := prog_10_method_60_code
def yX8_depths : MethodName := ⟨RX8, "depths", "(I)I"⟩
abbrev cX8_chosen : ByteArray := prog_10_method_61_code
def yX8_chosen : MethodName := ⟨RX8, "chosen", "(II)I"⟩
abbrev cX8_layGains : ByteArray := prog_10_method_62_code
def yX8_layGains : MethodName := ⟨RX8, "layGains", "(III)V"⟩
abbrev cX8_rests : ByteArray := prog_10_method_63_code
def yX8_rests : MethodName := ⟨RX8, "rests", "(III)I"⟩
abbrev cX8_ebb : ByteArray := prog_10_method_64_code
def yX8_ebb : MethodName := ⟨RX8, "ebb", "(IIZ)I"⟩
abbrev cX8_seed : ByteArray := prog_10_method_65_code
def yX8_seed : MethodName := ⟨RX8, "seed", "(J)J"⟩
abbrev cX8_years : ByteArray := prog_10_method_66_code
def yX8_years : MethodName := ⟨RX8, "years", "(I)I"⟩
abbrev cX8_keep : ByteArray := prog_10_method_67_code
def yX8_keep : MethodName := ⟨RX8, "keep", "(I)I"⟩
abbrev cX8_again : ByteArray := prog_10_method_68_code
def yX8_again : MethodName := ⟨RX8, "again", "(I)I"⟩
def RJ6 : String := "java/lang/Integer"
def TJ6 : u_T := fun k => match k with
  | _ => ("", "", "", false)
def tyJ6 : Nat → FieldType := fun k => match k with
  | _ => .int
theorem nmJ6 : ∀ a, a < 0 → ∀ b, b < 0 → a ≠ b → (TJ6 a).2.1 ≠ (TJ6 b).2.1 := by decide +kernel
theorem tyJ6_ok : ∀ k, k < 0 → parseFieldDescriptor (TJ6 k).2.2.1 = some (tyJ6 k) := by decide +kernel
abbrev cJ6_bitCount_0f7a4 : ByteArray := prog_11_method_49_code
def yJ6_bitCount_0f7a4 : MethodName := ⟨RJ6, "bitCount", "(I)I"⟩
def RJ9 : String := "java/lang/Math"
def TJ9 : u_T := fun k => match k with
  | _ => ("", "", "", false)
def tyJ9 : Nat → FieldType := fun k => match k with
  | _ => .int
theorem nmJ9 : ∀ a, a < 0 → ∀ b, b < 0 → a ≠ b → (TJ9 a).2.1 ≠ (TJ9 b).2.1 := by decide +kernel
theorem tyJ9_ok : ∀ k, k < 0 → parseFieldDescriptor (TJ9 k).2.2.1 = some (tyJ9 k) := by decide +kernel
abbrev cJ9_abs_0f7a4 : ByteArray := prog_12_method_59_code
def yJ9_abs_0f7a4 : MethodName := ⟨RJ9, "abs", "(I)I"⟩
abbrev cJ9_max_7cf53 : ByteArray := prog_12_method_65_code
def yJ9_max_7cf53 : MethodName := ⟨RJ9, "max", "(II)I"⟩
abbrev cJ9_min_7cf53 : ByteArray := prog_12_method_69_code
def yJ9_min_7cf53 : MethodName := ⟨RJ9, "min", "(II)I"⟩
def RJ10 : String := "java/lang/System"
def TJ10 : u_T := fun k => match k with
  | _ => ("", "", "", false)
def tyJ10 : Nat → FieldType := fun k => match k with
  | _ => .int
theorem nmJ10 : ∀ a, a < 0 → ∀ b, b < 0 → a ≠ b → (TJ10 a).2.1 ≠ (TJ10 b).2.1 := by decide +kernel
theorem tyJ10_ok : ∀ k, k < 0 → parseFieldDescriptor (TJ10 k).2.2.1 = some (tyJ10 k) := by decide +kernel
def RL : String := "SleepHarbourLaw"
abbrev cL_law : ByteArray := code
def yL_law : MethodName := ⟨RL, "law", "([I)Z"⟩
end
section
/-! THE MACHINE IN SMALL: an interpreter of the bytecode over a small picture of the heap; what it answers, the machine does (part 05) -/
/-- the world: how many cells, how many slots they took, kind and length of each (0 ints, 1 booleans, 2 Harbours, c + 3: object of class c), references, ints, longs -/
abbrev ai_W : Type := Nat × Nat × (Nat → Nat × Nat) × (Nat → Nat → Option Nat) × (Nat → Nat → Int32) × (Nat → Nat → Int64)
abbrev ai_cl : List vw_C := [(RX0, TX0, 3), (RX1, TX1, 2), (RX2, TX2, 7), (RX3, TX3, 5), (RX4, TX4, 4), (RX5, TX5, 2), (RX6, TX6, 10), (RX7, TX7, 12), (RX8, TX8, 37)]
def ai_ty (c k : Nat) : FieldType := match c with
  | 0 => tyX0 k
  | 1 => tyX1 k
  | 2 => tyX2 k
  | 3 => tyX3 k
  | 4 => tyX4 k
  | 5 => tyX5 k
  | 6 => tyX6 k
  | 7 => tyX7 k
  | _ => tyX8 k
/-- the words that hold in every state that the law comes to -/
def ai_tb : List Cond := lw_tbl.filter goodWord
/-- where arrays that were there before are named from -/
abbrev ai_O : Nat := 1000000000
def ai_cv (ad : Nat → Nat) (v : Value) : Value := match v with
  | .ref i => .ref (ad i)
  | v => v
-- words
def ai_fl (own : String) (idx : Nat) : Option (String × String × String) := ai_tb.findSome? fun w => match w with
  | .fieldLink o i r n d => if i = idx ∧ o = own then some (r, n, d) else none
  | _ => none
def ai_slot (r n d : String) : Option (Nat × Nat) := (List.range 9).findSome? fun ci => match ai_cl[ci]? with
  | some q => if q.1 = r then (List.range q.2.2).findSome? (fun k => if (q.2.1 k).2.1 = n ∧ (q.2.1 k).2.2.1 = d ∧ (q.2.1 k).1 = r then some (ci, k) else none) else none
  | none => none
/-- the field that an entry names: number of its class, its slot -/
def ai_fld (own : String) (idx : Nat) : Option (Nat × Nat) := match ai_fl own idx with
  | some q => ai_slot q.1 q.2.1 q.2.2
  | none => none
def ai_cst (own : String) (idx : Nat) : Option Int32 := ai_tb.findSome? fun w => match w with
  | .constant o i v => if i = idx ∧ o = own then some v else none
  | _ => none
def ai_cstL (own : String) (idx : Nat) : Option Int64 := ai_tb.findSome? fun w => match w with
  | .constantLong o i v => if i = idx ∧ o = own then some v else none
  | _ => none
def ai_clk (own : String) (idx : Nat) : Option String := ai_tb.findSome? fun w => match w with
  | .classLink o i v => if i = idx ∧ o = own then some v else none
  | _ => none
def ai_mlk (own : String) (idx : Nat) : Option MethodName := ai_tb.findSome? fun w => match w with
  | .methodLink o i v => if i = idx ∧ o = own then some v else none
  | _ => none
def ai_nlk (own : String) (idx : Nat) : Option (MethodName × String) := lw_tbl.findSome? fun w => match w with
  | .methodLinkNest o i v h => if i = idx ∧ o = own then some (v, h) else none
  | _ => none
def ai_code (y : MethodName) : Option (ByteArray × Nat × Option FieldType) := ai_tb.findSome? fun w => match w with
  | .code x b n r => if x = y then some (b, n, r) else none
  | _ => none
/-- the class that an entry names, by its number, if it can be made -/
def ai_cls (own : String) (idx : Nat) : Option Nat := match ai_clk own idx with
  | some C => (List.range 9).findSome? fun ci => match ai_cl[ci]? with
    | some q => if q.1 = C ∧ Cond.instantiable C q.2.2 ∈ ai_tb ∧ Cond.initialized C ∈ ai_tb then some ci else none
    | none => none
  | none => none
-- steps that touch neither locals nor heap
def ai_push (len n : Nat) (v : Value) (st : List Value) : Option (List Value) := if len = n then some (v :: st) else none
def ai_pushO (len n : Nat) (v : Option Value) (st : List Value) : Option (List Value) := match v with
  | some x => ai_push len n x st
  | none => none
def ai_ldi (len n : Nat) (L : List Value) (i : Nat) (st : List Value) : Option (List Value) := match L[i]? with
  | some (.int x) => ai_push len n (.int x) st
  | _ => none
def ai_ldl (len n : Nat) (L : List Value) (i : Nat) (st : List Value) : Option (List Value) := match L[i]? with
  | some (.long x) => ai_push len n (.long x) st
  | _ => none
def ai_lda (len n : Nat) (L : List Value) (i : Nat) (st : List Value) : Option (List Value) := match L[i]? with
  | some (.ref x) => ai_push len n (.ref x) st
  | _ => none
def ai_un (len : Nat) (f : Int32 → Value) (st : List Value) : Option (List Value) := match st with
  | .int x :: r => ai_push len 1 (f x) r
  | _ => none
def ai_unL (len : Nat) (f : Int64 → Value) (st : List Value) : Option (List Value) := match st with
  | .long x :: r => ai_push len 1 (f x) r
  | _ => none
def ai_bin (len : Nat) (f : Int32 → Int32 → Int32) (st : List Value) : Option (List Value) := match st with
  | .int y :: .int x :: r => ai_push len 1 (.int (f x y)) r
  | _ => none
def ai_binZ (len : Nat) (f : Int32 → Int32 → Int32) (st : List Value) : Option (List Value) := match st with
  | .int y :: .int x :: r => if y = 0 then none else ai_push len 1 (.int (f x y)) r
  | _ => none
def ai_binL (len : Nat) (f : Int64 → Int64 → Value) (st : List Value) : Option (List Value) := match st with
  | .long y :: .long x :: r => ai_push len 1 (f x y) r
  | _ => none
def ai_binLZ (len : Nat) (f : Int64 → Int64 → Int64) (st : List Value) : Option (List Value) := match st with
  | .long y :: .long x :: r => if y = 0 then none else ai_push len 1 (.long (f x y)) r
  | _ => none
def ai_shL (len : Nat) (f : Int64 → Int32 → Int64) (st : List Value) : Option (List Value) := match st with
  | .int y :: .long x :: r => ai_push len 1 (.long (f x y)) r
  | _ => none
def ai_A (own : String) (ins : Instr) (len : Nat) (L st : List Value) : Option (List Value) := match ins with
  | .iconst n => ai_push len 1 (.int (Int32.ofInt n)) st
  | .bipush n => ai_push len 2 (.int (Int8.ofInt n).toInt32) st
  | .sipush n => ai_push len 3 (.int (Int16.ofInt n).toInt32) st
  | .lconst n => ai_push len 1 (.long (Int64.ofNat n.val)) st
  | .ldc_w i => ai_pushO len 3 ((ai_cst own i).map Value.int) st
  | .ldc2_w i => ai_pushO len 3 ((ai_cstL own i).map Value.long) st
  | .iload i => ai_ldi len 2 L i st
  | .iload_n i => ai_ldi len 1 L i.val st
  | .lload i => ai_ldl len 2 L i st
  | .lload_n i => ai_ldl len 1 L i.val st
  | .aload i => ai_lda len 2 L i st
  | .aload_n i => ai_lda len 1 L i.val st
  | .iadd => ai_bin len (fun x y => x + y) st
  | .isub => ai_bin len (fun x y => x - y) st
  | .imul => ai_bin len (fun x y => x * y) st
  | .iand => ai_bin len (fun x y => x &&& y) st
  | .ior => ai_bin len (fun x y => x ||| y) st
  | .ishl => ai_bin len (fun x y => x <<< (y &&& 31)) st
  | .ishr => ai_bin len (fun x y => x >>> (y &&& 31)) st
  | .iushr => ai_bin len (fun x y => (x.toUInt32 >>> (y.toUInt32 &&& Int32.toUInt32 31)).toInt32) st
  | .idiv => ai_binZ len (fun x y => x / y) st
  | .irem => ai_binZ len (fun x y => x - x / y * y) st
  | .ineg => ai_un len (fun x => .int (-x)) st
  | .i2l => ai_un len (fun x => .long x.toInt64) st
  | .l2i => ai_unL len (fun x => .int x.toInt32) st
  | .ladd => ai_binL len (fun x y => .long (x + y)) st
  | .lsub => ai_binL len (fun x y => .long (x - y)) st
  | .lmul => ai_binL len (fun x y => .long (x * y)) st
  | .land => ai_binL len (fun x y => .long (x &&& y)) st
  | .lor => ai_binL len (fun x y => .long (x ||| y)) st
  | .lcmp => ai_binL len (fun x y => .int (lg_cmp x y)) st
  | .ldiv => ai_binLZ len (fun x y => x / y) st
  | .lrem => ai_binLZ len (fun x y => x - x / y * y) st
  | .lshl => ai_shL len (fun x y => x <<< (y.toInt64 &&& 63)) st
  | .lushr => ai_shL len (fun x y => (x.toUInt64 >>> (y.toInt64.toUInt64 &&& Int64.toUInt64 63)).toInt64) st
  | .dup => match st with
    | a :: r => if a.category = 1 then ai_push len 1 a (a :: r) else none
    | _ => none
  | .dup2 => match st with
    | a :: b :: r => if a.category = 1 ∧ b.category = 1 then ai_push len 1 a (b :: a :: b :: r) else none
    | _ => none
  | .pop => match st with
    | a :: r => if a.category = 1 ∧ len = 1 then some r else none
    | _ => none
  | _ => none
-- steps that set a local
def ai_is2 (v : Option Value) : Bool := match v with
  | some (.long _) => true
  | some (.double _) => true
  | _ => false
def ai_sti (len n : Nat) (L : List Value) (i : Nat) (st : List Value) : Option (List Value × List Value) := match st with
  | .int x :: r => if len = n ∧ i < L.length ∧ (i = 0 ∨ ai_is2 L[i - 1]? = false) then some (L.set i (.int x), r) else none
  | _ => none
def ai_sta (len n : Nat) (L : List Value) (i : Nat) (st : List Value) : Option (List Value × List Value) := match st with
  | .ref x :: r => if len = n ∧ i < L.length ∧ (i = 0 ∨ ai_is2 L[i - 1]? = false) then some (L.set i (.ref x), r) else none
  | _ => none
def ai_stl (len n : Nat) (L : List Value) (i : Nat) (st : List Value) : Option (List Value × List Value) := match st with
  | .long x :: r => if len = n ∧ i + 1 < L.length ∧ (i = 0 ∨ ai_is2 L[i - 1]? = false) then some ((L.set i (.long x)).set (i + 1) .null, r) else none
  | _ => none
def ai_B (ins : Instr) (len : Nat) (L st : List Value) : Option (List Value × List Value) := match ins with
  | .istore i => ai_sti len 2 L i st
  | .istore_n i => ai_sti len 1 L i.val st
  | .lstore i => ai_stl len 2 L i st
  | .lstore_n i => ai_stl len 1 L i.val st
  | .astore i => ai_sta len 2 L i st
  | .astore_n i => ai_sta len 1 L i.val st
  | .iinc i n => match L[i]? with
    | some (.int x) => ai_sti len 3 L i (.int (x + Int32.ofInt n) :: st)
    | _ => none
  | _ => none
-- jumps
def ai_tg (pc : Nat) (off : Int) (st : List Value) : Option (Nat × List Value) := if 0 ≤ (pc : Int) + off then some (((pc : Int) + off).toNat, st) else none
def ai_br (b : Prop) (i : Decidable b) (len pc : Nat) (off : Int) (st : List Value) : Option (Nat × List Value) := if len = 3 ∧ 0 ≤ (pc : Int) + off then (if b then some (((pc : Int) + off).toNat, st) else some (pc + 3, st)) else none
def ai_cmp (c : ClassFile.Cond) (len pc : Nat) (off : Int) (x y : Int32) (st : List Value) : Option (Nat × List Value) := match c with
  | .eq => ai_br (x = y) inferInstance len pc off st
  | .ne => ai_br (¬ x = y) inferInstance len pc off st
  | .lt => ai_br (x < y) inferInstance len pc off st
  | .ge => ai_br (y ≤ x) inferInstance len pc off st
  | .gt => ai_br (y < x) inferInstance len pc off st
  | .le => ai_br (x ≤ y) inferInstance len pc off st
def ai_J (ins : Instr) (len pc : Nat) (st : List Value) : Option (Nat × List Value) := match ins with
  | .goto off => if len = 3 then ai_tg pc off st else none
  | .ifCond c off => match st with
    | .int x :: r => ai_cmp c len pc off x 0 r
    | _ => none
  | .if_icmp c off => match st with
    | .int y :: .int x :: r => ai_cmp c len pc off x y r
    | _ => none
  | .tableswitch d lo hi offs => match st with
    | .int x :: r => if x.toInt < lo ∨ hi < x.toInt then ai_tg pc d r else match offs[(x.toInt - lo).toNat]? with
      | some off => ai_tg pc off r
      | none => none
    | _ => none
  | .lookupswitch d ps => match st with
    | .int x :: r => if (ps.toList.zip (ps.toList.drop 1)).all (fun (a, next) => a.1 < next.1) = true then ai_tg pc (Op.lookupswitch.offset ps.toList d x.toInt) r else none
    | _ => none
  | _ => none
-- steps on the heap
def ai_up (f : Nat → Nat → Int32) (i j : Nat) (v : Int32) : Nat → Nat → Int32 := fun a => if a = i then upd (f a) j v else f a
def ai_upL (f : Nat → Nat → Int64) (i j : Nat) (v : Int64) : Nat → Nat → Int64 := fun a => if a = i then vp_updL (f a) j v else f a
def ai_upR (f : Nat → Nat → Option Nat) (i j : Nat) (v : Option Nat) : Nat → Nat → Option Nat := fun a => if a = i then va_up (f a) j v else f a
/-- a new cell of a kind, with its slots -/
def ai_mk (w : ai_W) (k sl : Nat) : ai_W := (w.1 + 1, w.2.1 + sl, va_up w.2.2.1 w.1 (k, sl), va_up w.2.2.2.1 w.1 (fun _ => none), va_up w.2.2.2.2.1 w.1 (fun _ => 0), va_up w.2.2.2.2.2 w.1 (fun _ => 0))
def ai_isRef (t : FieldType) : Bool := match t with
  | .object _ => true
  | .array _ => true
  | _ => false
def ai_get (own : String) (idx : Nat) (st : List Value) (w : ai_W) : Option (List Value) := match st with
  | .ref i :: r => match ai_fld own idx with
    | some q => if i < w.1 ∧ (w.2.2.1 i).1 = q.1 + 3 then
        (if ai_ty q.1 q.2 = .int then some (.int (w.2.2.2.2.1 i q.2) :: r)
        else if ai_ty q.1 q.2 = .long then some (.long (w.2.2.2.2.2 i q.2) :: r)
        else if ai_isRef (ai_ty q.1 q.2) = true then (match w.2.2.2.1 i q.2 with
          | some k => some (.ref k :: r)
          | none => none)
        else none) else none
    | none => none
  | _ => none
/-- may a field be written here: it isn't final, or this is its class's constructor -/
def ai_may (y : MethodName) (ci k : Nat) : Bool := match ai_cl[ci]? with
  | some q => decide ((q.2.1 k).2.2.2 = false ∨ (y.name = "<init>" ∧ (q.2.1 k).1 = y.cls))
  | none => false
def ai_put (y : MethodName) (idx : Nat) (st : List Value) (w : ai_W) : Option (List Value × ai_W) := match st with
  | .int x :: .ref i :: r => match ai_fld y.cls idx with
    | some q => if i < w.1 ∧ (w.2.2.1 i).1 = q.1 + 3 ∧ ai_may y q.1 q.2 = true ∧ ai_ty q.1 q.2 = .int then some (r, w.1, w.2.1, w.2.2.1, w.2.2.2.1, ai_up w.2.2.2.2.1 i q.2 x, w.2.2.2.2.2) else none
    | none => none
  | .long x :: .ref i :: r => match ai_fld y.cls idx with
    | some q => if i < w.1 ∧ (w.2.2.1 i).1 = q.1 + 3 ∧ ai_may y q.1 q.2 = true ∧ ai_ty q.1 q.2 = .long then some (r, w.1, w.2.1, w.2.2.1, w.2.2.2.1, w.2.2.2.2.1, ai_upL w.2.2.2.2.2 i q.2 x) else none
    | none => none
  | .ref x :: .ref i :: r => match ai_fld y.cls idx with
    | some q => if i < w.1 ∧ x < w.1 ∧ (w.2.2.1 i).1 = q.1 + 3 ∧ ai_may y q.1 q.2 = true ∧ ai_isRef (ai_ty q.1 q.2) = true then some (r, w.1, w.2.1, w.2.2.1, ai_upR w.2.2.2.1 i q.2 (some x), w.2.2.2.2.1, w.2.2.2.2.2) else none
    | none => none
  | _ => none
def ai_ald (k : Nat) (oL : Nat → Nat) (ox : Nat → Nat → Int32) (st : List Value) (w : ai_W) : Option (List Value) := match st with
  | .int x :: .ref i :: r => if i < w.1 then (if (w.2.2.1 i).1 = k ∧ ¬ (x < 0 ∨ (w.2.2.1 i).2 ≤ x.toNatClampNeg) then some (.int (w.2.2.2.2.1 i x.toNatClampNeg) :: r) else none)
      else if k = 0 ∧ ai_O ≤ i ∧ i < ai_O + 2 ∧ ¬ (x < 0 ∨ oL (i - ai_O) ≤ x.toNatClampNeg) then some (.int (ox (i - ai_O) x.toNatClampNeg) :: r) else none
  | _ => none
def ai_aldR (st : List Value) (w : ai_W) : Option (List Value) := match st with
  | .int x :: .ref i :: r => if i < w.1 ∧ (w.2.2.1 i).1 = 2 ∧ ¬ (x < 0 ∨ (w.2.2.1 i).2 ≤ x.toNatClampNeg) then (match w.2.2.2.1 i x.toNatClampNeg with
      | some k => some (.ref k :: r)
      | none => none) else none
  | _ => none
def ai_ast (k : Nat) (f : Int32 → Int32) (st : List Value) (w : ai_W) : Option (List Value × ai_W) := match st with
  | .int v :: .int x :: .ref i :: r => if i < w.1 ∧ (w.2.2.1 i).1 = k ∧ ¬ (x < 0 ∨ (w.2.2.1 i).2 ≤ x.toNatClampNeg) then some (r, w.1, w.2.1, w.2.2.1, w.2.2.2.1, ai_up w.2.2.2.2.1 i x.toNatClampNeg (f v), w.2.2.2.2.2) else none
  | _ => none
def ai_astR (st : List Value) (w : ai_W) : Option (List Value × ai_W) := match st with
  | .ref v :: .int x :: .ref i :: r => if i < w.1 ∧ v < w.1 ∧ (w.2.2.1 v).1 = 5 ∧ (w.2.2.1 i).1 = 2 ∧ ¬ (x < 0 ∨ (w.2.2.1 i).2 ≤ x.toNatClampNeg) then some (r, w.1, w.2.1, w.2.2.1, ai_upR w.2.2.2.1 i x.toNatClampNeg (some v), w.2.2.2.2.1, w.2.2.2.2.2) else none
  | _ => none
def ai_news (own : String) (idx : Nat) (st : List Value) (w : ai_W) : Option (List Value × ai_W) := match ai_cls own idx with
  | some ci => match ai_cl[ci]? with
    | some q => if w.1 < 1000000 then some (.ref w.1 :: st, ai_mk w (ci + 3) q.2.2) else none
    | none => none
  | none => none
def ai_newa (k : Nat) (ty : FieldType) (st : List Value) (w : ai_W) : Option (List Value × ai_W) := match st with
  | .int x :: r => if ¬ x < 0 ∧ x.toNatClampNeg ≤ 1000 ∧ Cond.arrayClass ty ∈ ai_tb ∧ w.1 < 1000000 then some (.ref w.1 :: r, ai_mk w k x.toNatClampNeg) else none
  | _ => none
def ai_newR (own : String) (idx : Nat) (st : List Value) (w : ai_W) : Option (List Value × ai_W) := match st with
  | .int x :: r => if ¬ x < 0 ∧ x.toNatClampNeg ≤ 1000 ∧ ai_clk own idx = some RX2 ∧ w.1 < 1000000 then some (.ref w.1 :: r, ai_mk w 2 x.toNatClampNeg) else none
  | _ => none
def ai_cpy (st : List Value) (w : ai_W) : Option (List Value × ai_W) := match st with
  | .int n :: .int dp :: .ref b :: .int sp :: .ref a :: r =>
    if a < w.1 ∧ b < w.1 ∧ (w.2.2.1 a).1 = 0 ∧ (w.2.2.1 b).1 = 0 ∧ ¬ sp < 0 ∧ ¬ dp < 0 ∧ ¬ n < 0 ∧ sp.toNatClampNeg + n.toNatClampNeg ≤ (w.2.2.1 a).2 ∧ dp.toNatClampNeg + n.toNatClampNeg ≤ (w.2.2.1 b).2 ∧ (r.map fun v => v.category).sum ≤ 8 then
      some (r, w.1, w.2.1, w.2.2.1, w.2.2.2.1, va_up w.2.2.2.2.1 b (va_cpy (w.2.2.2.2.1 a) (w.2.2.2.2.1 b) sp.toNatClampNeg dp.toNatClampNeg n.toNatClampNeg), w.2.2.2.2.2) else none
  | _ => none
def ai_keep (o : Option (List Value)) (w : ai_W) : Option (List Value × ai_W) := match o with
  | some st => some (st, w)
  | none => none
/-- d: frames that are left -/
def ai_M (oL : Nat → Nat) (ox : Nat → Nat → Int32) (y : MethodName) (ins : Instr) (len d : Nat) (st : List Value) (w : ai_W) : Option (List Value × ai_W) := match ins with
  | .getfield i => if len = 3 then ai_keep (ai_get y.cls i st w) w else none
  | .putfield i => if len = 3 then ai_put y i st w else none
  | .iaload => if len = 1 then ai_keep (ai_ald 0 oL ox st w) w else none
  | .baload => if len = 1 then ai_keep (ai_ald 1 oL ox st w) w else none
  | .aaload => if len = 1 then ai_keep (ai_aldR st w) w else none
  | .iastore => if len = 1 then ai_ast 0 (fun x => x) st w else none
  | .bastore => if len = 1 then ai_ast 1 (fun x => vp_nar .boolean x) st w else none
  | .aastore => if len = 1 then ai_astR st w else none
  | .new i => if len = 3 then ai_news y.cls i st w else none
  | .newarray t => if len = 2 then (match t with
    | .int => ai_newa 0 .int st w
    | .boolean => ai_newa 1 .boolean st w
    | _ => none) else none
  | .anewarray i => if len = 3 then ai_newR y.cls i st w else none
  | .arraylength => if len = 1 then (match st with
    | .ref i :: r => if i = ai_O then some (.int (Int32.ofNat (oL 0)) :: r, w) else none
    | _ => none) else none
  | .getstatic i => if len = 3 ∧ ai_fl y.cls i = some ("SleepHarbour", "FACTORIAL", "[I") then some (.ref (ai_O + 1) :: st, w) else none
  | .invokestatic i => if len = 3 ∧ 0 < d ∧ ai_mlk y.cls i = some arraycopyName ∧ Cond.native arraycopyName ∈ ai_tb ∧ Cond.static arraycopyName ∈ ai_tb ∧ Cond.initialized "java/lang/System" ∈ ai_tb then ai_cpy st w else none
  | .invokespecial i => if len = 3 ∧ 0 < d ∧ ai_mlk y.cls i = some Lib.objectInit ∧ Cond.instanceMethod Lib.objectInit ∈ ai_tb ∧ Cond.code Lib.objectInit ⟨#[0xb1]⟩ 1 none ∈ ai_tb then (match st with
    | .ref _ :: r => if (r.map fun v => v.category).sum ≤ 8 then some (r, w) else none
    | _ => none) else none
  | _ => none
-- returns
def ai_R (ret : Option FieldType) (ins : Instr) (len : Nat) (st : List Value) : Option (Option Value) := match ins with
  | .ireturn => match st with
    | [.int v] => if len = 1 ∧ ((ret = some .int) ∨ (ret = some .boolean ∧ narrow .boolean (.int v) = .int v)) then some (some (.int v)) else none
    | _ => none
  | .lreturn => match st with
    | [.long v] => if len = 1 ∧ ret = some .long then some (some (.long v)) else none
    | _ => none
  | .return_ => match st with
    | [] => if len = 1 ∧ ret = none then some none else none
    | _ => none
  | _ => none
-- calls: what stands of a method: its code, and what the machine asks of it
abbrev ai_Mi : Type := MethodName × ByteArray × Nat × Option FieldType
def ai_fine (z : MethodName) (n : Nat) (mi : ByteArray × Nat × Option FieldType) : Bool :=
  decide (z.cls ≠ "java/lang/invoke/MethodHandle" ∧ z.cls ≠ "java/lang/invoke/VarHandle" ∧ (parseMethodDescriptor z.desc).map (fun d => d.parameters.length) = some n ∧ Cond.initialized z.cls ∈ ai_tb ∧ plainName z.cls = true ∧ mi.2.1 ≤ 20)
def ai_np (z : MethodName) : Nat := match parseMethodDescriptor z.desc with
  | some d => d.parameters.length
  | none => 0
/-- a virtual call, by its entry: the method, how many arguments it takes -/
def ai_cV (own : String) (idx : Nat) : Option (MethodName × Nat × ByteArray × Nat × Option FieldType) := match ai_mlk own idx with
  | some z => match ai_code z with
    | some mi => if ai_fine z (ai_np z) mi = true ∧ Cond.instanceMethod z ∈ ai_tb ∧ Cond.selects z.cls z z ∈ ai_tb then some (z, ai_np z, mi) else none
    | none => none
  | none => none
def ai_cS (own : String) (idx : Nat) : Option (MethodName × Nat × ByteArray × Nat × Option FieldType) := match ai_mlk own idx with
  | some z => match ai_code z with
    | some mi => if ai_fine z (ai_np z) mi = true ∧ Cond.static z ∈ ai_tb then some (z, ai_np z, mi) else none
    | none => none
  | none => none
def ai_cI (own : String) (idx : Nat) : Option (MethodName × Nat × ByteArray × Nat × Option FieldType) := match ai_mlk own idx with
  | some z => match ai_code z with
    | some mi => if ai_fine z (ai_np z) mi = true ∧ z.name = "<init>" ∧ Cond.instanceMethod z ∈ ai_tb ∧ mi.2.2 = none then some (z, ai_np z, mi) else none
    | none => none
  | none => none
def ai_cN (own : String) (idx : Nat) : Option (MethodName × Nat × ByteArray × Nat × Option FieldType) := match ai_nlk own idx with
  | some q => match ai_code q.1 with
    | some mi => if ai_fine q.1 (ai_np q.1) mi = true ∧ q.1.name = "<init>" ∧ Cond.instanceMethod q.1 ∈ ai_tb ∧ mi.2.2 = none then some (q.1, ai_np q.1, mi) else none
    | none => none
  | none => none
/-- the arguments (first one first) and what is below them -/
def ai_pop (n : Nat) (st : List Value) : Option (List Value × List Value) := if n ≤ st.length ∧ ((st.drop n).map fun v => v.category).sum ≤ 8 then some ((st.take n).reverse, st.drop n) else none
def ai_popV (n : Nat) (st : List Value) : Option (Nat × List Value × List Value) := match ai_pop n st with
  | some (As, .ref b :: rest) => some (b, As, rest)
  | _ => none
/-- a call: the method, its code, all its arguments, what is below -/
def ai_C (y : MethodName) (ins : Instr) (len : Nat) (st : List Value) (w : ai_W) : Option ((MethodName × ByteArray × Nat × Option FieldType) × List Value × List Value) := match ins with
  | .invokevirtual i => if len = 3 then (match ai_cV y.cls i with
    | some (z, n, mi) => (match ai_popV n st with
      | some (b, As, rest) => if b < w.1 ∧ ai_cl[(w.2.2.1 b).1 - 3]?.map (fun q => q.1) = some z.cls ∧ 3 ≤ (w.2.2.1 b).1 ∧ (lg_sl (Value.ref b :: As)).length ≤ mi.2.1 then some ((z, mi), .ref b :: As, rest) else none
      | none => none)
    | none => none) else none
  | .invokestatic i => if len = 3 then (match ai_cS y.cls i with
    | some (z, n, mi) => (match ai_pop n st with
      | some (As, rest) => if (lg_sl As).length ≤ mi.2.1 then some ((z, mi), As, rest) else none
      | none => none)
    | none => none) else none
  | .invokespecial i => if len = 3 then (match ai_cI y.cls i with
    | some (z, n, mi) => (match ai_popV n st with
      | some (b, As, rest) => if (lg_sl (Value.ref b :: As)).length ≤ mi.2.1 then some ((z, mi), .ref b :: As, rest) else none
      | none => none)
    | none => match ai_cN y.cls i with
      | some (z, n, mi) => (match ai_popV n st with
        | some (b, As, rest) => if (lg_sl (Value.ref b :: As)).length ≤ mi.2.1 then some ((z, mi), .ref b :: As, rest) else none
        | none => none)
      | none => none) else none
  | _ => none
/-- a method's locals at its entry -/
def ai_ent (n : Nat) (As : List Value) : List Value := (As.flatMap fun v => if v.category = 2 then [v, Value.null] else [v]) ++ List.replicate (n - (lg_sl As).length) Value.null
def ai_run (oL : Nat → Nat) (ox : Nat → Nat → Int32) : Nat → Nat → MethodName × ByteArray × Nat × Option FieldType → Nat → List Value → List Value → ai_W → Option (Option Value × ai_W)
  | 0, _, _, _, _, _, _ => none
  | n + 1, d, y, pc, L, st, w => match decode y.2.1 pc with
    | .error _ => none
    | .ok (ins, len) => match ai_A y.1.cls ins len L st with
      | some st' => ai_run oL ox n d y (pc + len) L st' w
      | none => match ai_B ins len L st with
        | some (L', st') => ai_run oL ox n d y (pc + len) L' st' w
        | none => match ai_J ins len pc st with
          | some (pc', st') => ai_run oL ox n d y pc' L st' w
          | none => match ai_M oL ox y.1 ins len d st w with
            | some (st', w') => ai_run oL ox n d y (pc + len) L st' w'
            | none => match ai_R y.2.2.2 ins len st with
              | some r => some (r, w)
              | none => match ai_C y.1 ins len st w with
                | some (z, As, rest) => match d with
                  | 0 => none
                  | d' + 1 => match ai_run oL ox n d' z 0 (ai_ent z.2.2.1 As) [] w with
                    | some (v, w') => ai_run oL ox n (d' + 1) y (pc + 3) L (v.toList ++ rest) w'
                    | none => none
                | none => none
end
section
theorem ai_tb_ok : ∀ w ∈ ai_tb, w ∈ lw_tbl ∧ goodWord w = true := fun w h => List.mem_filter.mp h
theorem ai_tb_in {ws : List Cond} {big : List Cond} (hs : ∀ w ∈ ws, w ∈ ai_tb) (hb : ∀ w ∈ ai_tb, w ∈ big) : GoodIn big ws := fun w h => ⟨hb w (hs w h), good_of_word (ai_tb_ok w (hs w h)).2⟩
-- what the searches find
theorem ai_fl_mem {own : String} {idx : Nat} {r n d : String} (h : ai_fl own idx = some (r, n, d)) : Cond.fieldLink own idx r n d ∈ ai_tb := by
  obtain ⟨w, hw, h1⟩ := List.exists_of_findSome?_eq_some h
  clear h
  split at h1
  · split at h1
    · rename_i hc
      obtain ⟨rfl, rfl⟩ := hc
      cases h1
      exact hw
    · cases h1
  · cases h1
theorem ai_cst_mem {own : String} {idx : Nat} {v : Int32} (h : ai_cst own idx = some v) : Cond.constant own idx v ∈ ai_tb := by
  obtain ⟨w, hw, h1⟩ := List.exists_of_findSome?_eq_some h
  clear h
  split at h1
  · split at h1
    · rename_i hc
      obtain ⟨rfl, rfl⟩ := hc
      cases h1
      exact hw
    · cases h1
  · cases h1
theorem ai_cstL_mem {own : String} {idx : Nat} {v : Int64} (h : ai_cstL own idx = some v) : Cond.constantLong own idx v ∈ ai_tb := by
  obtain ⟨w, hw, h1⟩ := List.exists_of_findSome?_eq_some h
  clear h
  split at h1
  · split at h1
    · rename_i hc
      obtain ⟨rfl, rfl⟩ := hc
      cases h1
      exact hw
    · cases h1
  · cases h1
theorem ai_clk_mem {own : String} {idx : Nat} {v : String} (h : ai_clk own idx = some v) : Cond.classLink own idx v ∈ ai_tb := by
  obtain ⟨w, hw, h1⟩ := List.exists_of_findSome?_eq_some h
  clear h
  split at h1
  · split at h1
    · rename_i hc
      obtain ⟨rfl, rfl⟩ := hc
      cases h1
      exact hw
    · cases h1
  · cases h1
theorem ai_mlk_mem {own : String} {idx : Nat} {v : MethodName} (h : ai_mlk own idx = some v) : Cond.methodLink own idx v ∈ ai_tb := by
  obtain ⟨w, hw, h1⟩ := List.exists_of_findSome?_eq_some h
  clear h
  split at h1
  · split at h1
    · rename_i hc
      obtain ⟨rfl, rfl⟩ := hc
      cases h1
      exact hw
    · cases h1
  · cases h1
theorem ai_nlk_mem {own : String} {idx : Nat} {v : MethodName × String} (h : ai_nlk own idx = some v) : Cond.methodLinkNest own idx v.1 v.2 ∈ lw_tbl := by
  obtain ⟨w, hw, h1⟩ := List.exists_of_findSome?_eq_some h
  clear h
  split at h1
  · split at h1
    · rename_i hc
      obtain ⟨rfl, rfl⟩ := hc
      cases h1
      exact hw
    · cases h1
  · cases h1
theorem ai_code_mem {y : MethodName} {mi : ByteArray × Nat × Option FieldType} (h : ai_code y = some mi) : Cond.code y mi.1 mi.2.1 mi.2.2 ∈ ai_tb := by
  obtain ⟨w, hw, h1⟩ := List.exists_of_findSome?_eq_some h
  clear h
  split at h1
  · split at h1
    · rename_i hc
      subst hc
      cases h1
      exact hw
    · cases h1
  · cases h1
theorem ai_slot_ok {r n d : String} {q : Nat × Nat} (h : ai_slot r n d = some q) : ∃ c : vw_C, ai_cl[q.1]? = some c ∧ q.2 < c.2.2 ∧ c.1 = r ∧ (c.2.1 q.2).1 = r ∧ (c.2.1 q.2).2.1 = n ∧ (c.2.1 q.2).2.2.1 = d := by
  obtain ⟨ci, -, h⟩ := List.exists_of_findSome?_eq_some h
  split at h
  · rename_i c hc
    split at h
    · rename_i hr
      obtain ⟨k, hk, h⟩ := List.exists_of_findSome?_eq_some h
      split at h
      · rename_i he
        cases h
        exact ⟨c, hc, List.mem_range.mp hk, hr, he.2.2, he.1, he.2.1⟩
      · cases h
    · cases h
  · cases h
theorem ai_fld_ok {own : String} {idx : Nat} {q : Nat × Nat} (h : ai_fld own idx = some q) : ∃ c : vw_C, ai_cl[q.1]? = some c ∧ q.2 < c.2.2 ∧ c.1 = (c.2.1 q.2).1 ∧ Cond.fieldLink own idx (c.2.1 q.2).1 (c.2.1 q.2).2.1 (c.2.1 q.2).2.2.1 ∈ ai_tb := by
  unfold ai_fld at h
  split at h
  · rename_i q0 hq
    obtain ⟨r, n, d⟩ := q0
    obtain ⟨c, h1, h2, h3, h4, h5, h6⟩ := ai_slot_ok h
    refine ⟨c, h1, h2, by rw [h3, h4], ?_⟩
    rw [h4, h5, h6]
    exact ai_fl_mem hq
  · cases h
theorem ai_cls_ok {own : String} {idx ci : Nat} (h : ai_cls own idx = some ci) : ∃ c : vw_C, ai_cl[ci]? = some c ∧ Cond.classLink own idx c.1 ∈ ai_tb ∧ Cond.instantiable c.1 c.2.2 ∈ ai_tb ∧ Cond.initialized c.1 ∈ ai_tb := by
  unfold ai_cls at h
  split at h
  · rename_i C hC
    obtain ⟨ci', -, h⟩ := List.exists_of_findSome?_eq_some h
    split at h
    · rename_i c hc
      split at h
      · rename_i he
        cases h
        obtain ⟨e, h2, h3⟩ := he
        subst e
        exact ⟨c, hc, ai_clk_mem hC, h2, h3⟩
      · cases h
    · cases h
  · cases h
-- what holds of every class of the table: its words, its types, its names
def ai_Cl (q : vw_C) (c : Nat) : Prop := (∀ w ∈ u_ws q.1 q.2.1 q.2.2, w ∈ ai_tb) ∧ (∀ k, k < q.2.2 → parseFieldDescriptor (q.2.1 k).2.2.1 = some (ai_ty c k)) ∧ (∀ a, a < q.2.2 → ∀ b, b < q.2.2 → a ≠ b → (q.2.1 a).2.1 ≠ (q.2.1 b).2.1) ∧ ∀ k, k < q.2.2 → (ai_ty c k = .int ∨ ai_ty c k = .long ∨ ai_isRef (ai_ty c k) = true)
theorem ai_Cl0 : ai_Cl (RX0, TX0, 3) 0 := ⟨by decide +kernel, tyX0_ok, nmX0, by decide +kernel⟩
theorem ai_Cl1 : ai_Cl (RX1, TX1, 2) 1 := ⟨by decide +kernel, tyX1_ok, nmX1, by decide +kernel⟩
theorem ai_Cl2 : ai_Cl (RX2, TX2, 7) 2 := ⟨by decide +kernel, tyX2_ok, nmX2, by decide +kernel⟩
theorem ai_Cl3 : ai_Cl (RX3, TX3, 5) 3 := ⟨by decide +kernel, tyX3_ok, nmX3, by decide +kernel⟩
theorem ai_Cl4 : ai_Cl (RX4, TX4, 4) 4 := ⟨by decide +kernel, tyX4_ok, nmX4, by decide +kernel⟩
theorem ai_Cl5 : ai_Cl (RX5, TX5, 2) 5 := ⟨by decide +kernel, tyX5_ok, nmX5, by decide +kernel⟩
theorem ai_Cl6 : ai_Cl (RX6, TX6, 10) 6 := ⟨by decide +kernel, tyX6_ok, nmX6, by decide +kernel⟩
theorem ai_Cl7 : ai_Cl (RX7, TX7, 12) 7 := ⟨by decide +kernel, tyX7_ok, nmX7, by decide +kernel⟩
theorem ai_Cl8 : ai_Cl (RX8, TX8, 37) 8 := ⟨by decide +kernel, tyX8_ok, nmX8, by decide +kernel⟩
theorem ai_ClA {c : Nat} {q : vw_C} (h : ai_cl[c]? = some q) : ai_Cl q c := by
  match c, h with
  | 0, h => cases h; exact ai_Cl0
  | 1, h => cases h; exact ai_Cl1
  | 2, h => cases h; exact ai_Cl2
  | 3, h => cases h; exact ai_Cl3
  | 4, h => cases h; exact ai_Cl4
  | 5, h => cases h; exact ai_Cl5
  | 6, h => cases h; exact ai_Cl6
  | 7, h => cases h; exact ai_Cl7
  | 8, h => cases h; exact ai_Cl8
  | c + 9, h => simp [ai_cl] at h
theorem ai_t1 : ai_fld RX2 31 = some (2, 0) := by decide +kernel
theorem ai_t2 : ai_code yX2_dreamsAt = some (cX2_dreamsAt, 4, some .int) := by decide +kernel
theorem ai_t3 : ai_cV RX2 56 = some (yX2_dreamsAt, 1, cX2_dreamsAt, 4, some .int) := by decide +kernel
end
section
/-! what the small machine's steps are on the big one: constants, locals, arithmetic, jumps -/
theorem ai_push_ok {len n : Nat} {v : Value} {st st' : List Value} (h : ai_push len n v st = some st') : len = n ∧ st' = v :: st := by
  unfold ai_push at h
  split at h
  · cases h; exact ⟨by assumption, rfl⟩
  · cases h
theorem ai_pushO_ok {len n : Nat} {v : Option Value} {st st' : List Value} (h : ai_pushO len n v st = some st') : ∃ x, v = some x ∧ len = n ∧ st' = x :: st := by
  cases v with
  | none => cases h
  | some x => exact ⟨x, rfl, ai_push_ok h⟩
theorem ai_ldi_ok {len n i : Nat} {L st st' : List Value} (h : ai_ldi len n L i st = some st') : len = n ∧ ∃ x, L[i]? = some (.int x) ∧ st' = .int x :: st := by
  unfold ai_ldi at h
  split at h
  · rename_i x hx
    obtain ⟨h1, h2⟩ := ai_push_ok h
    exact ⟨h1, x, hx, h2⟩
  · cases h
theorem ai_ldl_ok {len n i : Nat} {L st st' : List Value} (h : ai_ldl len n L i st = some st') : len = n ∧ ∃ x, L[i]? = some (.long x) ∧ st' = .long x :: st := by
  unfold ai_ldl at h
  split at h
  · rename_i x hx
    obtain ⟨h1, h2⟩ := ai_push_ok h
    exact ⟨h1, x, hx, h2⟩
  · cases h
theorem ai_lda_ok {len n i : Nat} {L st st' : List Value} (h : ai_lda len n L i st = some st') : len = n ∧ ∃ x, L[i]? = some (.ref x) ∧ st' = .ref x :: st := by
  unfold ai_lda at h
  split at h
  · rename_i x hx
    obtain ⟨h1, h2⟩ := ai_push_ok h
    exact ⟨h1, x, hx, h2⟩
  · cases h
theorem ai_un_ok {len : Nat} {f : Int32 → Value} {st st' : List Value} (h : ai_un len f st = some st') : len = 1 ∧ ∃ x r, st = .int x :: r ∧ st' = f x :: r := by
  unfold ai_un at h
  split at h
  · obtain ⟨h1, h2⟩ := ai_push_ok h
    exact ⟨h1, _, _, rfl, h2⟩
  · cases h
theorem ai_unL_ok {len : Nat} {f : Int64 → Value} {st st' : List Value} (h : ai_unL len f st = some st') : len = 1 ∧ ∃ x r, st = .long x :: r ∧ st' = f x :: r := by
  unfold ai_unL at h
  split at h
  · obtain ⟨h1, h2⟩ := ai_push_ok h
    exact ⟨h1, _, _, rfl, h2⟩
  · cases h
theorem ai_bin_ok {len : Nat} {f : Int32 → Int32 → Int32} {st st' : List Value} (h : ai_bin len f st = some st') : len = 1 ∧ ∃ x y r, st = .int y :: .int x :: r ∧ st' = .int (f x y) :: r := by
  unfold ai_bin at h
  split at h
  · obtain ⟨h1, h2⟩ := ai_push_ok h
    exact ⟨h1, _, _, _, rfl, h2⟩
  · cases h
theorem ai_binZ_ok {len : Nat} {f : Int32 → Int32 → Int32} {st st' : List Value} (h : ai_binZ len f st = some st') : len = 1 ∧ ∃ x y r, ¬ y = 0 ∧ st = .int y :: .int x :: r ∧ st' = .int (f x y) :: r := by
  unfold ai_binZ at h
  split at h
  · split at h
    · cases h
    · obtain ⟨h1, h2⟩ := ai_push_ok h
      exact ⟨h1, _, _, _, by assumption, rfl, h2⟩
  · cases h
theorem ai_binL_ok {len : Nat} {f : Int64 → Int64 → Value} {st st' : List Value} (h : ai_binL len f st = some st') : len = 1 ∧ ∃ x y r, st = .long y :: .long x :: r ∧ st' = f x y :: r := by
  unfold ai_binL at h
  split at h
  · obtain ⟨h1, h2⟩ := ai_push_ok h
    exact ⟨h1, _, _, _, rfl, h2⟩
  · cases h
theorem ai_binLZ_ok {len : Nat} {f : Int64 → Int64 → Int64} {st st' : List Value} (h : ai_binLZ len f st = some st') : len = 1 ∧ ∃ x y r, ¬ y = 0 ∧ st = .long y :: .long x :: r ∧ st' = .long (f x y) :: r := by
  unfold ai_binLZ at h
  split at h
  · split at h
    · cases h
    · obtain ⟨h1, h2⟩ := ai_push_ok h
      exact ⟨h1, _, _, _, by assumption, rfl, h2⟩
  · cases h
theorem ai_shL_ok {len : Nat} {f : Int64 → Int32 → Int64} {st st' : List Value} (h : ai_shL len f st = some st') : len = 1 ∧ ∃ x y r, st = .int y :: .long x :: r ∧ st' = .long (f x y) :: r := by
  unfold ai_shL at h
  split at h
  · obtain ⟨h1, h2⟩ := ai_push_ok h
    exact ⟨h1, _, _, _, rfl, h2⟩
  · cases h
/-- a value names a cell of the world, or one of the two arrays that were there before, if it names one -/
def ai_okv (n : Nat) (v : Value) : Prop := ∀ i, v = .ref i → i < n ∨ i = ai_O ∨ i = ai_O + 1
def ai_oks (n : Nat) (st : List Value) : Prop := ∀ v ∈ st, ai_okv n v
theorem ai_okI {n : Nat} {x : Int32} : ai_okv n (.int x) := fun i h => by cases h
theorem ai_okL {n : Nat} {x : Int64} : ai_okv n (.long x) := fun i h => by cases h
theorem ai_okN {n : Nat} : ai_okv n .null := fun i h => by cases h
theorem ai_oks_c {n : Nat} {v : Value} {st : List Value} (h1 : ai_okv n v) (h2 : ai_oks n st) : ai_oks n (v :: st) := fun u hu => by
  rcases List.mem_cons.mp hu with rfl | h
  · exact h1
  · exact h2 u h
theorem ai_oks_t {n : Nat} {v : Value} {st : List Value} (h : ai_oks n (v :: st)) : ai_oks n st := fun u hu => h u (List.mem_cons_of_mem _ hu)
theorem ai_oks_h {n : Nat} {v : Value} {st : List Value} (h : ai_oks n (v :: st)) : ai_okv n v := h v List.mem_cons_self
theorem ai_oks_n {n : Nat} : ai_oks n [] := fun _ h => by cases h
theorem ai_oks_at {n i : Nat} {v : Value} {L : List Value} (h : ai_oks n L) (hi : L[i]? = some v) : ai_okv n v := h v (List.mem_of_getElem? hi)
theorem ai_oks_set {n i : Nat} {v : Value} {L : List Value} (h : ai_oks n L) (hv : ai_okv n v) : ai_oks n (L.set i v) := fun u hu => by
  rcases List.mem_or_eq_of_mem_set hu with h1 | rfl
  · exact h u h1
  · exact hv
theorem ai_A_ok {own : String} {ins : Instr} {len n : Nat} {L st st' : List Value} (h : ai_A own ins len L st = some st') (hL : ai_oks n L) (hs : ai_oks n st) : ai_oks n st' := by
  unfold ai_A at h
  split at h
  all_goals first
    | (obtain ⟨x, hx, -, rfl⟩ := ai_pushO_ok h; rw [Option.map_eq_some_iff] at hx; obtain ⟨z, -, rfl⟩ := hx; exact ai_oks_c (fun i h => by cases h) hs)
    | (obtain ⟨-, rfl⟩ := ai_push_ok h; exact ai_oks_c (fun i h => by cases h) hs)
    | (obtain ⟨-, x, hx, rfl⟩ := ai_ldi_ok h; exact ai_oks_c ai_okI hs)
    | (obtain ⟨-, x, hx, rfl⟩ := ai_ldl_ok h; exact ai_oks_c ai_okL hs)
    | (obtain ⟨-, x, hx, rfl⟩ := ai_lda_ok h; exact ai_oks_c (ai_oks_at hL hx) hs)
    | (obtain ⟨-, x, y, r, rfl, rfl⟩ := ai_bin_ok h; exact ai_oks_c ai_okI (ai_oks_t (ai_oks_t hs)))
    | (obtain ⟨-, x, y, r, -, rfl, rfl⟩ := ai_binZ_ok h; exact ai_oks_c ai_okI (ai_oks_t (ai_oks_t hs)))
    | (obtain ⟨-, x, y, r, rfl, rfl⟩ := ai_binL_ok h; first | exact ai_oks_c ai_okL (ai_oks_t (ai_oks_t hs)) | exact ai_oks_c ai_okI (ai_oks_t (ai_oks_t hs)))
    | (obtain ⟨-, x, y, r, -, rfl, rfl⟩ := ai_binLZ_ok h; exact ai_oks_c ai_okL (ai_oks_t (ai_oks_t hs)))
    | (obtain ⟨-, x, y, r, rfl, rfl⟩ := ai_shL_ok h; exact ai_oks_c ai_okL (ai_oks_t (ai_oks_t hs)))
    | (obtain ⟨-, x, r, rfl, rfl⟩ := ai_un_ok h; first | exact ai_oks_c ai_okI (ai_oks_t hs) | exact ai_oks_c ai_okL (ai_oks_t hs))
    | (obtain ⟨-, x, r, rfl, rfl⟩ := ai_unL_ok h; exact ai_oks_c ai_okI (ai_oks_t hs))
    | skip
  · split at h
    · split at h
      · obtain ⟨-, rfl⟩ := ai_push_ok h
        exact ai_oks_c (ai_oks_h hs) hs
      · cases h
    · cases h
  · split at h
    · split at h
      · obtain ⟨-, rfl⟩ := ai_push_ok h
        exact ai_oks_c (ai_oks_h hs) (ai_oks_c (ai_oks_h (ai_oks_t hs)) hs)
      · cases h
    · cases h
  · split at h
    · split at h
      · cases h
        exact ai_oks_t hs
      · cases h
    · cases h
  · cases h
/-- the locals: what is known of each (null: nothing is) -/
def ai_L (ad : Nat → Nat) (nL : Nat) (L : List Value) (ls : Array Slot) : Prop := L.length = nL ∧ ls.size = nL ∧ lv_wf ls ∧ ∀ (i : Nat) (v : Value), L[i]? = some v → v ≠ .null → ls[i]? = some (.val (ai_cv ad v))
theorem ai_cat (ad : Nat → Nat) (v : Value) : (ai_cv ad v).category = v.category := by cases v <;> rfl
section SIMA
variable {p : Program} {l : Launch} {e : Env} {R : Room} {s : State} {m : MethodId} {args : Array Value} {below : List Frame} {meth : Method} {c : Code} {H : Heap} {locs : List Loc} {cells slots : Nat} {Q : State → Prop}
set_option maxHeartbeats 4000000 in
theorem ai_A_W {own : String} {cc : ByteArray} {ins : Instr} {len pc nL : Nat} {L st st' : List Value} {ad : Nat → Nat} {ls : Array Slot} (hx : p.tables.exec = Jvm.exec) (hb : c.code = cc) (hown : s.vm.findClass own = some m.cls) (hts : ∀ w ∈ ai_tb, w.before args s = true) (hdg : decode cc pc = .ok (ins, len)) (h : ai_A own ins len L st = some st') (hl : ai_L ad nL L ls)
    (k : W p l e R s m args below meth c H locs cells slots Q (F0 m (pc + len) ls (st'.map (ai_cv ad)))) : W p l e R s m args below meth c H locs cells slots Q (F0 m pc ls (st.map (ai_cv ad))) := by
  have hat : ∀ {i : Nat} {v : Value}, L[i]? = some v → v ≠ .null → ls[i]? = some (.val (ai_cv ad v)) := fun h1 h2 => hl.2.2.2 _ _ h1 h2
  unfold ai_A at h
  split at h
  · obtain ⟨rfl, rfl⟩ := ai_push_ok h; exact lv_iconst hx hb hdg rfl k
  · obtain ⟨rfl, rfl⟩ := ai_push_ok h; exact lv_bipush hx hb hdg rfl k
  · obtain ⟨rfl, rfl⟩ := ai_push_ok h; exact lv_sipush hx hb hdg rfl k
  · obtain ⟨rfl, rfl⟩ := ai_push_ok h; exact lv_lconst hx hb hdg rfl k
  · obtain ⟨x, hv, rfl, rfl⟩ := ai_pushO_ok h
    rw [Option.map_eq_some_iff] at hv
    obtain ⟨z, hc, rfl⟩ := hv
    exact lv_ldcw hx hb hown (hts _ (ai_cst_mem hc)) hdg k
  · obtain ⟨x, hv, rfl, rfl⟩ := ai_pushO_ok h
    rw [Option.map_eq_some_iff] at hv
    obtain ⟨z, hc, rfl⟩ := hv
    exact lv_ldc2 hx hb hown (hts _ (ai_cstL_mem hc)) hdg k
  · obtain ⟨rfl, x, hx1, rfl⟩ := ai_ldi_ok h; exact lv_iload hx hb hdg (hat hx1 (by simp)) k
  · obtain ⟨rfl, x, hx1, rfl⟩ := ai_ldi_ok h; exact lv_iload_n hx hb hdg rfl (hat hx1 (by simp)) k
  · obtain ⟨rfl, x, hx1, rfl⟩ := ai_ldl_ok h; exact lv_lload hx hb hdg (hat hx1 (by simp)) k
  · obtain ⟨rfl, x, hx1, rfl⟩ := ai_ldl_ok h; exact lv_lload_n hx hb hdg rfl (hat hx1 (by simp)) k
  · obtain ⟨rfl, x, hx1, rfl⟩ := ai_lda_ok h; exact lv_aload hx hb hdg (hat hx1 (by simp)) k
  · obtain ⟨rfl, x, hx1, rfl⟩ := ai_lda_ok h; exact lv_aload_n hx hb hdg rfl (hat hx1 (by simp)) k
  · obtain ⟨rfl, x, y, r, rfl, rfl⟩ := ai_bin_ok h; exact lv_iadd hx hb hdg k
  · obtain ⟨rfl, x, y, r, rfl, rfl⟩ := ai_bin_ok h; exact lv_isub hx hb hdg k
  · obtain ⟨rfl, x, y, r, rfl, rfl⟩ := ai_bin_ok h; exact lv_imul hx hb hdg k
  · obtain ⟨rfl, x, y, r, rfl, rfl⟩ := ai_bin_ok h; exact lv_iand hx hb hdg k
  · obtain ⟨rfl, x, y, r, rfl, rfl⟩ := ai_bin_ok h; exact lv_ior hx hb hdg k
  · obtain ⟨rfl, x, y, r, rfl, rfl⟩ := ai_bin_ok h; exact lv_ishl hx hb hdg k
  · obtain ⟨rfl, x, y, r, rfl, rfl⟩ := ai_bin_ok h; exact lv_ishr hx hb hdg k
  · obtain ⟨rfl, x, y, r, rfl, rfl⟩ := ai_bin_ok h; exact lv_iushr hx hb hdg rfl k
  · obtain ⟨rfl, x, y, r, hy, rfl, rfl⟩ := ai_binZ_ok h; exact lv_idiv hx hb hdg hy k
  · obtain ⟨rfl, x, y, r, hy, rfl, rfl⟩ := ai_binZ_ok h; exact lv_irem hx hb hdg hy k
  · obtain ⟨rfl, x, r, rfl, rfl⟩ := ai_un_ok h; exact lv_ineg hx hb hdg k
  · obtain ⟨rfl, x, r, rfl, rfl⟩ := ai_un_ok h; exact lv_i2l hx hb hdg rfl k
  · obtain ⟨rfl, x, r, rfl, rfl⟩ := ai_unL_ok h; exact lv_l2i hx hb hdg rfl k
  · obtain ⟨rfl, x, y, r, rfl, rfl⟩ := ai_binL_ok h; exact lv_ladd hx hb hdg k
  · obtain ⟨rfl, x, y, r, rfl, rfl⟩ := ai_binL_ok h; exact lv_lsub hx hb hdg k
  · obtain ⟨rfl, x, y, r, rfl, rfl⟩ := ai_binL_ok h; exact lv_lmul hx hb hdg k
  · obtain ⟨rfl, x, y, r, rfl, rfl⟩ := ai_binL_ok h; exact lv_land hx hb hdg k
  · obtain ⟨rfl, x, y, r, rfl, rfl⟩ := ai_binL_ok h; exact lv_lor hx hb hdg k
  · obtain ⟨rfl, x, y, r, rfl, rfl⟩ := ai_binL_ok h; exact W.lcmp hx hb hdg k
  · obtain ⟨rfl, x, y, r, hy, rfl, rfl⟩ := ai_binLZ_ok h; exact lv_ldiv hx hb hdg hy k
  · obtain ⟨rfl, x, y, r, hy, rfl, rfl⟩ := ai_binLZ_ok h; exact lv_lrem hx hb hdg hy k
  · obtain ⟨rfl, x, y, r, rfl, rfl⟩ := ai_shL_ok h; exact lv_lshl hx hb hdg rfl k
  · obtain ⟨rfl, x, y, r, rfl, rfl⟩ := ai_shL_ok h; exact lv_lushr hx hb hdg rfl k
  · split at h
    · split at h
      · rename_i hc
        obtain ⟨rfl, rfl⟩ := ai_push_ok h
        exact lv_dup hx hb hdg (by rw [ai_cat]; exact hc) k
      · cases h
    · cases h
  · split at h
    · split at h
      · rename_i hc
        obtain ⟨rfl, rfl⟩ := ai_push_ok h
        exact lv_dup2_11 hx hb hdg (by rw [ai_cat]; exact hc.1) (by rw [ai_cat]; exact hc.2) k
      · cases h
    · cases h
  · split at h
    · split at h
      · rename_i hc
        obtain ⟨h1, rfl⟩ := hc
        cases h
        exact lv_pop hx hb hdg (by rw [ai_cat]; exact h1) k
      · cases h
    · cases h
  · cases h
-- locals are set
def ai_lv (ad : Nat → Nat) (L : List Value) : List (Nat × Value) := (List.range L.length).filterMap fun (j : Nat) => match L[j]? with
  | some Value.null => none
  | some v => some (j, ai_cv ad v)
  | none => none
theorem ai_lv_mem {ad : Nat → Nat} {L : List Value} {j : Nat} {v : Value} (h : L[j]? = some v) (hn : v ≠ .null) : (j, ai_cv ad v) ∈ ai_lv ad L := by
  refine List.mem_filterMap.mpr ⟨j, List.mem_range.mpr (List.getElem?_eq_some_iff.mp h).1, ?_⟩
  rw [h]
  cases v <;> first | rfl | exact absurd rfl hn
theorem ai_lv_has {ad : Nat → Nat} {nL : Nat} {L : List Value} {ls : Array Slot} (h : ai_L ad nL L ls) : lv_has ls nL (ai_lv ad L) := by
  refine ⟨h.2.1, h.2.2.1, fun q hq => ?_⟩
  obtain ⟨j, -, hj⟩ := List.mem_filterMap.mp hq
  split at hj
  · cases hj
  · rename_i v hv1 hv2
    cases hj
    exact h.2.2.2 j v hv2 (fun z => hv1 z)
  · cases hj
theorem ai_cat2 {v : Value} : (ai_is2 (some v) = false) → ¬ v.category = 2 := by cases v <;> simp [ai_is2, Value.category]
theorem ai_L_set1 {ad : Nat → Nat} {nL i : Nat} {L : List Value} {ls' : Array Slot} {v : Value} (hn : L.length = nL) (hi : i < L.length) (h2 : i = 0 ∨ ai_is2 L[i - 1]? = false) (h : lv_has ls' nL ((i, ai_cv ad v) :: (ai_lv ad L).filter (fun q => !(q.1 == i) && !(q.1 + 1 == i && q.2.category == 2)))) : ai_L ad nL (L.set i v) ls' := by
  refine ⟨by rw [List.length_set]; exact hn, h.1, h.2.1, fun j u hj hu => ?_⟩
  by_cases hij : j = i
  · subst hij
    rw [List.getElem?_set_self hi] at hj
    cases hj
    exact h.2.2 _ List.mem_cons_self
  · rw [List.getElem?_set_ne (Ne.symm hij)] at hj
    refine h.2.2 (j, ai_cv ad u) (List.mem_cons_of_mem _ (List.mem_filter.mpr ⟨ai_lv_mem hj hu, ?_⟩))
    have e1 : (j == i) = false := by simp [hij]
    simp only [e1, ai_cat]
    by_cases hj1 : j + 1 = i
    · subst hj1
      have := ai_cat2 (v := u) (by rw [← hj]; rcases h2 with h2 | h2
                                   · omega
                                   · simpa using h2)
      simp [this]
    · simp [hj1]
theorem ai_L_set2 {ad : Nat → Nat} {nL i : Nat} {L : List Value} {ls' : Array Slot} {v : Value} (hn : L.length = nL) (hi : i + 1 < L.length) (h2 : i = 0 ∨ ai_is2 L[i - 1]? = false) (h : lv_has ls' nL ((i, ai_cv ad v) :: (ai_lv ad L).filter (fun q => !(q.1 == i) && (!(q.1 == i + 1) && !(q.1 + 1 == i && q.2.category == 2))))) : ai_L ad nL ((L.set i v).set (i + 1) .null) ls' := by
  refine ⟨by rw [List.length_set, List.length_set]; exact hn, h.1, h.2.1, fun j u hj hu => ?_⟩
  by_cases hj2 : j = i + 1
  · subst hj2
    rw [List.getElem?_set_self (by rw [List.length_set]; exact hi)] at hj
    cases hj
    exact absurd rfl hu
  · rw [List.getElem?_set_ne (Ne.symm hj2)] at hj
    by_cases hij : j = i
    · subst hij
      rw [List.getElem?_set_self (by omega)] at hj
      cases hj
      exact h.2.2 _ List.mem_cons_self
    · rw [List.getElem?_set_ne (Ne.symm hij)] at hj
      refine h.2.2 (j, ai_cv ad u) (List.mem_cons_of_mem _ (List.mem_filter.mpr ⟨ai_lv_mem hj hu, ?_⟩))
      have e1 : (j == i) = false := by simp [hij]
      have e2 : (j == i + 1) = false := by simp [hj2]
      simp only [e1, e2, ai_cat]
      by_cases hj1 : j + 1 = i
      · subst hj1
        have := ai_cat2 (v := u) (by rw [← hj]; rcases h2 with h2 | h2
                                     · omega
                                     · simpa using h2)
        simp [this]
      · simp [hj1]
theorem ai_sti_ok {len n i : Nat} {L st : List Value} {q : List Value × List Value} (h : ai_sti len n L i st = some q) : len = n ∧ i < L.length ∧ (i = 0 ∨ ai_is2 L[i - 1]? = false) ∧ ∃ x, st = .int x :: q.2 ∧ q.1 = L.set i (.int x) := by
  unfold ai_sti at h
  split at h
  · split at h
    · rename_i hc
      cases h
      exact ⟨hc.1, hc.2.1, hc.2.2, _, rfl, rfl⟩
    · cases h
  · cases h
theorem ai_sta_ok {len n i : Nat} {L st : List Value} {q : List Value × List Value} (h : ai_sta len n L i st = some q) : len = n ∧ i < L.length ∧ (i = 0 ∨ ai_is2 L[i - 1]? = false) ∧ ∃ x, st = .ref x :: q.2 ∧ q.1 = L.set i (.ref x) := by
  unfold ai_sta at h
  split at h
  · split at h
    · rename_i hc
      cases h
      exact ⟨hc.1, hc.2.1, hc.2.2, _, rfl, rfl⟩
    · cases h
  · cases h
theorem ai_stl_ok {len n i : Nat} {L st : List Value} {q : List Value × List Value} (h : ai_stl len n L i st = some q) : len = n ∧ i + 1 < L.length ∧ (i = 0 ∨ ai_is2 L[i - 1]? = false) ∧ ∃ x, st = .long x :: q.2 ∧ q.1 = (L.set i (.long x)).set (i + 1) .null := by
  unfold ai_stl at h
  split at h
  · split at h
    · rename_i hc
      cases h
      exact ⟨hc.1, hc.2.1, hc.2.2, _, rfl, rfl⟩
    · cases h
  · cases h
theorem ai_B_ok {ins : Instr} {len n : Nat} {L st L' st' : List Value} (h : ai_B ins len L st = some (L', st')) (hL : ai_oks n L) (hs : ai_oks n st) : ai_oks n L' ∧ ai_oks n st' := by
  unfold ai_B at h
  split at h
  all_goals first
    | (obtain ⟨-, -, -, x, rfl, rfl⟩ := ai_sti_ok h; exact ⟨ai_oks_set hL ai_okI, ai_oks_t hs⟩)
    | (obtain ⟨-, -, -, x, rfl, rfl⟩ := ai_stl_ok h; exact ⟨ai_oks_set (ai_oks_set hL ai_okL) ai_okN, ai_oks_t hs⟩)
    | (obtain ⟨-, -, -, x, rfl, rfl⟩ := ai_sta_ok h; exact ⟨ai_oks_set hL (ai_oks_h hs), ai_oks_t hs⟩)
    | skip
  · split at h
    · obtain ⟨-, -, -, x, h1, rfl⟩ := ai_sti_ok h
      cases h1
      exact ⟨ai_oks_set hL ai_okI, hs⟩
    · cases h
  · cases h
theorem ai_B_W {cc : ByteArray} {ins : Instr} {len pc nL : Nat} {L st L' st' : List Value} {ad : Nat → Nat} {ls : Array Slot} (hx : p.tables.exec = Jvm.exec) (hb : c.code = cc) (hdg : decode cc pc = .ok (ins, len)) (h : ai_B ins len L st = some (L', st')) (hl : ai_L ad nL L ls)
    (k : ∀ ls' : Array Slot, ai_L ad nL L' ls' → W p l e R s m args below meth c H locs cells slots Q (F0 m (pc + len) ls' (st'.map (ai_cv ad)))) : W p l e R s m args below meth c H locs cells slots Q (F0 m pc ls (st.map (ai_cv ad))) := by
  have hh := ai_lv_has hl
  have hlen := hl.1
  unfold ai_B at h
  split at h
  · obtain ⟨rfl, h1, h2, x, rfl, rfl⟩ := ai_sti_ok h; exact lv_istore hx hb hdg hh (by omega) rfl (fun ls' hl' => k ls' (ai_L_set1 (v := .int x) hlen h1 h2 hl'))
  · obtain ⟨rfl, h1, h2, x, rfl, rfl⟩ := ai_sti_ok h; exact lv_istore_n hx hb hdg rfl hh (by omega) rfl (fun ls' hl' => k ls' (ai_L_set1 (v := .int x) hlen h1 h2 hl'))
  · obtain ⟨rfl, h1, h2, x, rfl, rfl⟩ := ai_stl_ok h; exact lv_lstore hx hb hdg hh (by omega) rfl (fun ls' hl' => k ls' (ai_L_set2 (v := .long x) hlen h1 h2 hl'))
  · obtain ⟨rfl, h1, h2, x, rfl, rfl⟩ := ai_stl_ok h; exact lv_lstore_n hx hb hdg rfl hh (by omega) rfl (fun ls' hl' => k ls' (ai_L_set2 (v := .long x) hlen h1 h2 hl'))
  · obtain ⟨rfl, h1, h2, x, rfl, rfl⟩ := ai_sta_ok h; exact lv_astore hx hb hdg hh (by omega) rfl (fun ls' hl' => k ls' (ai_L_set1 (v := .ref x) hlen h1 h2 hl'))
  · obtain ⟨rfl, h1, h2, x, rfl, rfl⟩ := ai_sta_ok h; exact lv_astore_n hx hb hdg rfl hh (by omega) rfl (fun ls' hl' => k ls' (ai_L_set1 (v := .ref x) hlen h1 h2 hl'))
  · split at h
    · rename_i i n x hxi
      obtain ⟨rfl, h1, h2, y, h3, rfl⟩ := ai_sti_ok h
      cases h3
      obtain ⟨kk, hkk⟩ := List.getElem?_of_mem (ai_lv_mem (ad := ad) hxi (by simp))
      exact lv_iinc hx hb hdg hh hkk rfl (by omega) rfl (fun ls' hl' => k ls' (ai_L_set1 (v := .int _) hlen h1 h2 hl'))
    · cases h
  · cases h
-- jumps
theorem ai_tg_ok {pc pc' : Nat} {off : Int} {st st' : List Value} (h : ai_tg pc off st = some (pc', st')) : (pc : Int) + off = (pc' : Int) ∧ st' = st := by
  unfold ai_tg at h
  split at h
  · cases h
    exact ⟨by omega, rfl⟩
  · cases h
theorem ai_br_ok {b : Prop} {i : Decidable b} {len pc pc' : Nat} {off : Int} {st st' : List Value} (h : ai_br b i len pc off st = some (pc', st')) : len = 3 ∧ st' = st ∧ ∃ t : Nat, (pc : Int) + off = (t : Int) ∧ (b → pc' = t) ∧ (¬ b → pc' = pc + 3) := by
  unfold ai_br at h
  split at h
  · rename_i h0
    refine ⟨h0.1, ?_⟩
    split at h
    · rename_i hb
      cases h
      exact ⟨rfl, _, by omega, fun _ => rfl, fun z => absurd hb z⟩
    · rename_i hb
      cases h
      exact ⟨rfl, ((pc : Int) + off).toNat, by omega, fun z => absurd z hb, fun _ => rfl⟩
  · cases h
theorem ai_J_ok {ins : Instr} {len n pc pc' : Nat} {st st' : List Value} (h : ai_J ins len pc st = some (pc', st')) (hs : ai_oks n st) : ai_oks n st' := by
  unfold ai_J at h
  split at h
  · split at h
    · obtain ⟨-, rfl⟩ := ai_tg_ok h; exact hs
    · cases h
  · split at h
    · unfold ai_cmp at h
      split at h <;> (obtain ⟨-, rfl, -⟩ := ai_br_ok h; exact ai_oks_t hs)
    · cases h
  · split at h
    · unfold ai_cmp at h
      split at h <;> (obtain ⟨-, rfl, -⟩ := ai_br_ok h; exact ai_oks_t (ai_oks_t hs))
    · cases h
  · split at h
    · split at h
      · obtain ⟨-, rfl⟩ := ai_tg_ok h; exact ai_oks_t hs
      · split at h
        · obtain ⟨-, rfl⟩ := ai_tg_ok h; exact ai_oks_t hs
        · cases h
    · cases h
  · split at h
    · split at h
      · obtain ⟨-, rfl⟩ := ai_tg_ok h; exact ai_oks_t hs
      · cases h
    · cases h
  · cases h
theorem ai_J_W {cc : ByteArray} {ins : Instr} {len pc pc' : Nat} {st st' : List Value} {ad : Nat → Nat} {ls : Array Slot} (hx : p.tables.exec = Jvm.exec) (hb : c.code = cc) (hdg : decode cc pc = .ok (ins, len)) (h : ai_J ins len pc st = some (pc', st'))
    (k : W p l e R s m args below meth c H locs cells slots Q (F0 m pc' ls (st'.map (ai_cv ad)))) : W p l e R s m args below meth c H locs cells slots Q (F0 m pc ls (st.map (ai_cv ad))) := by
  unfold ai_J at h
  split at h
  · split at h
    · rename_i h0
      subst h0
      obtain ⟨h1, rfl⟩ := ai_tg_ok h
      exact lv_goto hx hb hdg h1 k
    · cases h
  · split at h
    · unfold ai_cmp at h
      split at h
      all_goals (obtain ⟨rfl, rfl, t, ht, h1, h2⟩ := ai_br_ok h)
      · exact lv_if_eq hx hb hdg ht (fun z => by rw [← h1 z]; exact k) (fun z => by rw [← h2 z]; exact k)
      · exact lv_if_ne hx hb hdg ht (fun z => by rw [← h1 z]; exact k) (fun z => by rw [← h2 (fun y => y z)]; exact k)
      · exact lv_if_lt hx hb hdg ht (fun z => by rw [← h1 z]; exact k) (fun z => by rw [← h2 z]; exact k)
      · exact lv_if_ge hx hb hdg ht (fun z => by rw [← h1 z]; exact k) (fun z => by rw [← h2 z]; exact k)
      · exact lv_if_gt hx hb hdg ht (fun z => by rw [← h1 z]; exact k) (fun z => by rw [← h2 z]; exact k)
      · exact lv_if_le hx hb hdg ht (fun z => by rw [← h1 z]; exact k) (fun z => by rw [← h2 z]; exact k)
    · cases h
  · split at h
    · unfold ai_cmp at h
      split at h
      all_goals (obtain ⟨rfl, rfl, t, ht, h1, h2⟩ := ai_br_ok h)
      · exact lv_icmp_eq hx hb hdg ht (fun z => by rw [← h1 z]; exact k) (fun z => by rw [← h2 z]; exact k)
      · exact lv_icmp_ne hx hb hdg ht (fun z => by rw [← h1 z]; exact k) (fun z => by rw [← h2 (fun y => y z)]; exact k)
      · exact lv_icmp_lt hx hb hdg ht (fun z => by rw [← h1 z]; exact k) (fun z => by rw [← h2 z]; exact k)
      · exact lv_icmp_ge hx hb hdg ht (fun z => by rw [← h1 z]; exact k) (fun z => by rw [← h2 z]; exact k)
      · exact lv_icmp_gt hx hb hdg ht (fun z => by rw [← h1 z]; exact k) (fun z => by rw [← h2 z]; exact k)
      · exact lv_icmp_le hx hb hdg ht (fun z => by rw [← h1 z]; exact k) (fun z => by rw [← h2 z]; exact k)
    · cases h
  · split at h
    · split at h
      · rename_i h0
        obtain ⟨h1, rfl⟩ := ai_tg_ok h
        exact lv_tableOut hx hb hdg h0 h1 k
      · rename_i h0
        split at h
        · rename_i off ho
          obtain ⟨h1, rfl⟩ := ai_tg_ok h
          exact lv_tableIn hx hb hdg (fun z => h0 (Or.inl z)) (fun z => h0 (Or.inr z)) ho h1 k
        · cases h
    · cases h
  · split at h
    · split at h
      · rename_i h0
        obtain ⟨h1, rfl⟩ := ai_tg_ok h
        exact lv_lookup hx hb hdg h0 rfl h1 k
      · cases h
    · cases h
  · cases h
end SIMA
end
section
/-! the world of the small machine, as cells of the big one's heap -/
def ai_N (c : Nat) : Nat := match ai_cl[c]? with
  | some q => q.2.2
  | none => 0
def ai_fv (ad : Nat → Nat) (w : ai_W) (c i j : Nat) : Value := if ai_ty c j = .int then .int (w.2.2.2.2.1 i j) else if ai_ty c j = .long then .long (w.2.2.2.2.2 i j) else va_rf ((w.2.2.2.1 i j).map ad)
def ai_en (ad : Nat → Nat) (tc : Nat → ClassId) (w : ai_W) (i : Nat) : va_E := match (w.2.2.1 i).1 with
  | 0 => .inl (tc i, (w.2.2.1 i).2, .inl (w.2.2.2.2.1 i))
  | 1 => .inl (tc i, (w.2.2.1 i).2, .inl (w.2.2.2.2.1 i))
  | 2 => .inl (tc i, (w.2.2.1 i).2, .inr (.inr (.inr (.inr (fun j => (w.2.2.2.1 i j).map ad)))))
  | c + 3 => .inr (c, (List.range (ai_N c)).map (ai_fv ad w c i))
def ai_cells (ad : Nat → Nat) (tc : Nat → ClassId) (w : ai_W) : va_W := (List.range w.1).map fun i => (ad i, ai_en ad tc w i)
theorem ai_range_at {α : Type} {N k : Nat} {f : Nat → α} (h : k < N) : ((List.range N).map f)[k]? = some (f k) := by
  rw [List.getElem?_map, List.getElem?_range h]
  rfl
theorem ai_range_set {α : Type} {N k : Nat} {f g : Nat → α} {x : α} (hx : x = g k) (h : ∀ j, j < N → j ≠ k → f j = g j) : ((List.range N).map f).set k x = (List.range N).map g := by
  subst hx
  apply List.ext_getElem?
  intro j
  rw [List.getElem?_set]
  by_cases hj : j < N
  · by_cases hk : k = j
    · subst hk
      rw [if_pos rfl, if_pos (by simpa using hj), ai_range_at hj]
    · rw [if_neg hk, ai_range_at hj, ai_range_at hj, h j hj (Ne.symm hk)]
  · have e1 : ((List.range N).map f)[j]? = none := by simp; omega
    have e2 : ((List.range N).map g)[j]? = none := by simp; omega
    rw [e1, e2]
    split
    · split
      · rename_i h1 h2
        simp at h2
        omega
      · rfl
    · rfl
theorem ai_cells_at {ad : Nat → Nat} {tc : Nat → ClassId} {w : ai_W} {i : Nat} (h : i < w.1) : (ai_cells ad tc w)[i]? = some (ad i, ai_en ad tc w i) := ai_range_at h
theorem ai_en_i {ad : Nat → Nat} {tc : Nat → ClassId} {w : ai_W} {i k : Nat} (hk : k < 2) (h : (w.2.2.1 i).1 = k) : ai_en ad tc w i = .inl (tc i, (w.2.2.1 i).2, .inl (w.2.2.2.2.1 i)) := by
  unfold ai_en
  rw [h]
  match k, hk with
  | 0, _ => rfl
  | 1, _ => rfl
theorem ai_en_r {ad : Nat → Nat} {tc : Nat → ClassId} {w : ai_W} {i : Nat} (h : (w.2.2.1 i).1 = 2) : ai_en ad tc w i = .inl (tc i, (w.2.2.1 i).2, .inr (.inr (.inr (.inr (fun j => (w.2.2.2.1 i j).map ad))))) := by
  unfold ai_en
  rw [h]
theorem ai_en_o {ad : Nat → Nat} {tc : Nat → ClassId} {w : ai_W} {i c : Nat} (h : (w.2.2.1 i).1 = c + 3) : ai_en ad tc w i = .inr (c, (List.range (ai_N c)).map (ai_fv ad w c i)) := by
  unfold ai_en
  rw [h]
/-- two worlds, two maps, alike at a cell -/
theorem ai_en_eq {ad ad' : Nat → Nat} {tc tc' : Nat → ClassId} {w w' : ai_W} {i : Nat} (hk : w'.2.2.1 i = w.2.2.1 i) (ht : tc' i = tc i) (hm : w'.2.2.2.2.1 i = w.2.2.2.2.1 i) (hl : w'.2.2.2.2.2 i = w.2.2.2.2.2 i) (hr : w'.2.2.2.1 i = w.2.2.2.1 i) (ha : ∀ j k, w.2.2.2.1 i j = some k → ad' k = ad k) : ai_en ad' tc' w' i = ai_en ad tc w i := by
  have hra : ∀ j, (w.2.2.2.1 i j).map ad' = (w.2.2.2.1 i j).map ad := by
    intro j
    cases hj : w.2.2.2.1 i j with
    | none => rfl
    | some k => simp [ha j k hj]
  have hf : ∀ c, ai_fv ad' w' c i = ai_fv ad w c i := by
    intro c
    funext j
    unfold ai_fv
    rw [hm, hl, hr, hra]
  unfold ai_en
  rw [hk]
  simp only [ht, hm, hr, hra, hf]
theorem ai_cells_set {ad : Nat → Nat} {tc : Nat → ClassId} {w w' : ai_W} {i : Nat} {E : va_E} (hn : w'.1 = w.1) (hE : E = ai_en ad tc w' i) (hk : w'.2.2.1 = w.2.2.1) (ho : ∀ a, a ≠ i → w'.2.2.2.2.1 a = w.2.2.2.2.1 a ∧ w'.2.2.2.2.2 a = w.2.2.2.2.2 a ∧ w'.2.2.2.1 a = w.2.2.2.1 a) : (ai_cells ad tc w).set i (ad i, E) = ai_cells ad tc w' := by
  subst hE
  unfold ai_cells
  rw [hn]
  refine ai_range_set rfl (fun j _ hj => ?_)
  rw [ai_en_eq (w' := w') (w := w) (ad' := ad) (ad := ad) (tc' := tc) (tc := tc) (by rw [hk]) rfl (ho j hj).1 (ho j hj).2.1 (ho j hj).2.2 (fun _ _ _ => rfl)]
def ai_wf (w : ai_W) : Prop := w.1 ≤ 1000000 ∧ ∀ i j k, i < w.1 → w.2.2.2.1 i j = some k → k < w.1
theorem ai_cells_new {ad : Nat → Nat} {tc tc' : Nat → ClassId} {w : ai_W} {q k sl : Nat} {E : va_E} (hw : ai_wf w) (ht : ∀ i, i < w.1 → tc' i = tc i) (hE : E = ai_en (va_up ad w.1 q) tc' (ai_mk w k sl) w.1) : ai_cells ad tc w ++ [(q, E)] = ai_cells (va_up ad w.1 q) tc' (ai_mk w k sl) := by
  subst hE
  unfold ai_cells
  rw [show (ai_mk w k sl).1 = w.1 + 1 from rfl, List.range_succ, List.map_append]
  congr 1
  · refine List.map_congr_left (fun i hi => ?_)
    have hi := List.mem_range.mp hi
    have hne : i ≠ w.1 := by omega
    rw [ai_en_eq (w' := ai_mk w k sl) (w := w) (ad' := va_up ad w.1 q) (ad := ad) (tc' := tc') (tc := tc) (by simp [ai_mk, va_up, hne]) (ht i hi) (by simp [ai_mk, va_up, hne]) (by simp [ai_mk, va_up, hne]) (by simp [ai_mk, va_up, hne]) (fun j k hj => by
      have := hw.2 i j k hi hj
      simp [va_up, Nat.ne_of_lt this])]
    simp [va_up, hne]
  · simp [va_up]
def ai_kt (k : Nat) : FieldType := match k with
  | 0 => .int
  | 1 => .boolean
  | _ => .object RX2
def ai_V (D : va_G) (tc : Nat → ClassId) (w : ai_W) (U : State) : Prop := va_K D ai_cl [] U ∧ ∀ i, i < w.1 → (w.2.2.1 i).1 < 3 → ArrOfT U (tc i) (ai_kt (w.2.2.1 i).1) ∧ va_RA U (tc i) (ai_kt (w.2.2.1 i).1)
def ai_Old (A : Nat → Prop) (oL : Nat → Nat) (ox : Nat → Nat → Int32) (ob : Nat → Nat) (U : State) (H : Heap) : Prop := (∀ k, k < 2 → va_X (ob k) (oL k) (ox k) U H ∧ ob k < H.size ∧ ¬ A (ob k)) ∧ va_Z "SleepHarbour" "FACTORIAL" "[I" (.ref (ob 1)) A U H
def ai_Nw (U : State) : Prop := va_AO RX2 U ∧ ∀ (own : String) (idx : Nat) (z : MethodName) (host : String), Cond.methodLinkNest own idx z host ∈ lw_tbl → va_Nw (.methodLinkNest own idx z host) U
/-- the heap H holds the world, in the body of a method that was entered at s -/
def ai_I (sz : Nat) (oL : Nat → Nat) (ox : Nat → Nat → Int32) (ob : Nat → Nat) (D : va_G) (ad : Nat → Nat) (tc : Nat → ClassId) (w : ai_W) (s : State) (H : Heap) : Prop :=
  sz ≤ s.heap.size ∧ ai_V D tc w s ∧ va_P D ai_cl (ai_cells ad tc w) H ∧ va_D (fun q => sz ≤ q) (ai_cells ad tc w) ∧ ai_Old (fun q => sz ≤ q) oL ox ob s s.heap ∧ ai_Nw s ∧ ai_wf w ∧ ∀ k, k < 2 → ad (ai_O + k) = ob k
theorem ai_V.moved {D : va_G} {tc : Nat → ClassId} {w : ai_W} {u U : State} (hvm : u.vm.Alike U.vm) (h : ai_V D tc w u) : ai_V D tc w U := ⟨va_K.moved hvm h.1, fun i hi hk => ⟨arrOfT_moved hvm (h.2 i hi hk).1, (h.2 i hi hk).2.moved hvm⟩⟩
theorem ai_V.K {D : va_G} {tc : Nat → ClassId} {w : ai_W} {s : State} {i k : Nat} (h : ai_V D tc w s) (hi : i < w.1) (hk : (w.2.2.1 i).1 = k) (hk3 : k < 3) : va_K D ai_cl [(tc i, ai_kt k)] s := by
  refine ⟨h.1.1, fun j q hj => ?_⟩
  match j, hj with
  | 0, hj =>
    cases hj
    subst hk
    exact h.2 i hi hk3
/-- the world is the same, but for a new heap, of the same shape -/
theorem ai_V.same {D : va_G} {tc : Nat → ClassId} {w w' : ai_W} {s : State} (h : ai_V D tc w s) (hn : w'.1 = w.1) (hk : w'.2.2.1 = w.2.2.1) : ai_V D tc w' s := ⟨h.1, fun i hi h3 => by rw [hk] at h3 ⊢; exact h.2 i (by omega) h3⟩
theorem ai_cvs {ad ad' : Nat → Nat} {n : Nat} {v : Value} (h : ai_okv n v) (ha : ∀ i, i < n → ad' i = ad i) (ho : ∀ k, k < 2 → ad' (ai_O + k) = ad (ai_O + k)) : ai_cv ad' v = ai_cv ad v := by
  cases v with
  | ref i =>
    rcases h i rfl with h | h | h
    · simp [ai_cv, ha i h]
    · subst h; simp only [ai_cv]; rw [show ad' ai_O = ad ai_O from ho 0 (by decide)]
    · subst h; simp only [ai_cv]; rw [show ad' (ai_O + 1) = ad (ai_O + 1) from ho 1 (by decide)]
  | _ => rfl
theorem ai_cvm {ad ad' : Nat → Nat} {n : Nat} {st : List Value} (h : ai_oks n st) (ha : ∀ i, i < n → ad' i = ad i) (ho : ∀ k, k < 2 → ad' (ai_O + k) = ad (ai_O + k)) : st.map (ai_cv ad') = st.map (ai_cv ad) := List.map_congr_left (fun v hv => ai_cvs (h v hv) ha ho)
theorem ai_L.to {ad ad' : Nat → Nat} {n nL : Nat} {L : List Value} {ls : Array Slot} (hl : ai_L ad nL L ls) (h : ai_oks n L) (ha : ∀ i, i < n → ad' i = ad i) (ho : ∀ k, k < 2 → ad' (ai_O + k) = ad (ai_O + k)) : ai_L ad' nL L ls := ⟨hl.1, hl.2.1, hl.2.2.1, fun i v hi hv => by rw [ai_cvs (h v (List.mem_of_getElem? hi)) ha ho]; exact hl.2.2.2 i v hi hv⟩
theorem ai_okv.mono {n n' : Nat} {v : Value} (h : ai_okv n v) (hn : n ≤ n') : ai_okv n' v := fun i hi => (h i hi).imp (fun z => Nat.lt_of_lt_of_le z hn) id
theorem ai_oks.mono {n n' : Nat} {st : List Value} (h : ai_oks n st) (hn : n ≤ n') : ai_oks n' st := fun v hv => (h v hv).mono hn
/-- the entry of a method that is called, in the heap as it is -/
theorem ai_I.call {sz : Nat} {oL : Nat → Nat} {ox : Nat → Nat → Int32} {ob : Nat → Nat} {D : va_G} {ad : Nat → Nat} {tc : Nat → ClassId} {w : ai_W} {s U : State} {H : Heap} {locs : List Loc} (h : ai_I sz oL ox ob D ad tc w s H) (hS : va_S (fun q => sz ≤ q) s.heap H locs) (hU : U.heap = H) (hW : s.WarmedH U.vm) : ai_I sz oL ox ob D ad tc w U U.heap := by
  obtain ⟨h1, h2, h3, h4, h5, h6, h7, h8⟩ := h
  refine ⟨by rw [hU]; exact Nat.le_trans h1 hS.1, h2.moved hW.alike, by rw [hU]; exact h3, h4, ⟨fun k hk => ?_, ?_⟩, ⟨h6.1.moved hW.alike, fun own idx z host hm => (h6.2 own idx z host hm).warmM hW⟩, h7, h8⟩
  · obtain ⟨a1, a2, a3⟩ := h5.1 k hk
    rw [hU]
    exact ⟨(a1.moved hW.alike).kept (hS.2.1 _ a2 a3), Nat.lt_of_lt_of_le a2 hS.1, a3⟩
  · rw [hU]
    exact (h5.2.moved hW.alike).kept (fun a ha hn => hS.2.1 a ha hn)
theorem ai_I.blind {sz : Nat} {oL : Nat → Nat} {ox : Nat → Nat → Int32} {ob : Nat → Nat} {D : va_G} {ad : Nat → Nat} {tc : Nat → ClassId} {w : ai_W} {U : State} {g : JFrame} {mk : MethodId} {a : Array Value} (h : ai_I sz oL ox ob D ad tc w U U.heap) : ai_I sz oL ox ob D ad tc w (U.calling g mk a) (U.calling g mk a).heap := by
  obtain ⟨h1, h2, h3, h4, h5, h6, h7, h8⟩ := h
  have hv : U.vm.Alike (U.calling g mk a).vm := Vm.Alike.refl U.vm
  refine ⟨h1, h2.moved hv, h3, h4, ⟨fun k hk => ⟨(h5.1 k hk).1.moved hv, (h5.1 k hk).2⟩, h5.2.moved hv⟩, ⟨h6.1.moved hv, fun own idx z host hm => (h6.2 own idx z host hm).same rfl rfl⟩, h7, h8⟩
/-- behind a call: what the method left, seen from the caller -/
theorem ai_I.back {sz : Nat} {oL : Nat → Nat} {ox : Nat → Nat → Int32} {ob : Nat → Nat} {D : va_G} {ad ad' : Nat → Nat} {tc tc' : Nat → ClassId} {w w' : ai_W} {s t : State} {H : Heap} (h : ai_I sz oL ox ob D ad tc w s H) (ht : ai_I sz oL ox ob D ad' tc' w' t t.heap) (hvm : s.vm.Alike t.vm) : ai_I sz oL ox ob D ad' tc' w' s t.heap :=
  ⟨h.1, ht.2.1.moved hvm.symm, ht.2.2.1, ht.2.2.2.1, h.2.2.2.2.1, h.2.2.2.2.2.1, ht.2.2.2.2.2.2.1, ht.2.2.2.2.2.2.2⟩
end
section
/-! the small machine's steps on the heap, on the big one -/
theorem ai_keep_ok {o : Option (List Value)} {w : ai_W} {q : List Value × ai_W} (h : ai_keep o w = some q) : o = some q.1 ∧ q.2 = w := by
  cases o with
  | none => cases h
  | some st => cases h; exact ⟨rfl, rfl⟩
theorem ai_get_ok {own : String} {idx : Nat} {st st' : List Value} {w : ai_W} (h : ai_get own idx st w = some st') : ∃ (i : Nat) (r : List Value) (q : Nat × Nat) (v : Value), st = .ref i :: r ∧ ai_fld own idx = some q ∧ i < w.1 ∧ (w.2.2.1 i).1 = q.1 + 3 ∧ st' = v :: r ∧ (∀ ad, ai_fv ad w q.1 i q.2 = ai_cv ad v) ∧ (ai_wf w → ai_okv w.1 v) := by
  unfold ai_get at h
  split at h
  · rename_i i r
    split at h
    · rename_i q hq
      split at h
      · rename_i hc
        split at h
        · rename_i ht
          cases h
          exact ⟨i, r, q, _, rfl, hq, hc.1, hc.2, rfl, fun ad => by simp [ai_fv, ht, ai_cv], fun _ => ai_okI⟩
        · rename_i ht
          split at h
          · rename_i ht2
            cases h
            exact ⟨i, r, q, _, rfl, hq, hc.1, hc.2, rfl, fun ad => by simp [ai_fv, ht2, ai_cv], fun _ => ai_okL⟩
          · rename_i ht2
            split at h
            · split at h
              · rename_i k hk
                cases h
                exact ⟨i, r, q, _, rfl, hq, hc.1, hc.2, rfl, fun ad => by simp [ai_fv, ht, ht2, hk, ai_cv, va_rf], fun hw j hj => by cases hj; exact Or.inl (hw.2 _ _ _ hc.1 hk)⟩
              · cases h
            · cases h
      · cases h
    · cases h
  · cases h
theorem ai_may_ok {y : MethodName} {ci k : Nat} {q : vw_C} (hq : ai_cl[ci]? = some q) (h : ai_may y ci k = true) : (q.2.1 k).2.2.2 = false ∨ (y.name = "<init>" ∧ (q.2.1 k).1 = y.cls) := by
  unfold ai_may at h
  rw [hq] at h
  exact of_decide_eq_true h
theorem ai_put_ok {y : MethodName} {idx : Nat} {st st' : List Value} {w w' : ai_W} (h : ai_put y idx st w = some (st', w')) : ∃ (i : Nat) (q : Nat × Nat) (v : Value), st = v :: .ref i :: st' ∧ ai_fld y.cls idx = some q ∧ i < w.1 ∧ (w.2.2.1 i).1 = q.1 + 3 ∧ ai_may y q.1 q.2 = true ∧ w'.1 = w.1 ∧ w'.2.1 = w.2.1 ∧ w'.2.2.1 = w.2.2.1 ∧ (∀ a, a ≠ i → w'.2.2.2.2.1 a = w.2.2.2.2.1 a ∧ w'.2.2.2.2.2 a = w.2.2.2.2.2 a ∧ w'.2.2.2.1 a = w.2.2.2.1 a) ∧ (∀ ad, ai_cv ad v = ai_fv ad w' q.1 i q.2) ∧ (∀ ad j, j ≠ q.2 → ai_fv ad w q.1 i j = ai_fv ad w' q.1 i j) ∧ narrow (ai_ty q.1 q.2) v = v ∧ (∀ ad, narrow (ai_ty q.1 q.2) (ai_cv ad v) = ai_cv ad v ∧ fits (ai_ty q.1 q.2) (ai_cv ad v) = true) ∧ (ai_wf w → ai_wf w') := by
  unfold ai_put at h
  split at h
  · rename_i x i r
    split at h
    · rename_i q hq
      split at h
      · rename_i hc
        obtain ⟨c1, c2, c3, c4⟩ := hc
        cases h
        refine ⟨i, q, .int x, rfl, hq, c1, c2, c3, rfl, rfl, rfl, fun a ha => ⟨by simp [ai_up, ha], rfl, rfl⟩, fun ad => by simp [ai_fv, c4, ai_cv, ai_up, upd], fun ad j hj => by simp [ai_fv, ai_up, upd, hj], by rw [c4]; rfl, fun ad => by rw [c4]; exact ⟨rfl, rfl⟩, fun hw => hw⟩
      · cases h
    · cases h
  · rename_i x i r
    split at h
    · rename_i q hq
      split at h
      · rename_i hc
        obtain ⟨c1, c2, c3, c4⟩ := hc
        cases h
        refine ⟨i, q, .long x, rfl, hq, c1, c2, c3, rfl, rfl, rfl, fun a ha => ⟨rfl, by simp [ai_upL, ha], rfl⟩, fun ad => by simp [ai_fv, c4, ai_cv, ai_upL, vp_updL], fun ad j hj => by simp [ai_fv, ai_upL, vp_updL, hj], by rw [c4]; rfl, fun ad => by rw [c4]; exact ⟨rfl, rfl⟩, fun hw => hw⟩
      · cases h
    · cases h
  · rename_i x i r
    split at h
    · rename_i q hq
      split at h
      · rename_i hc
        obtain ⟨c1, c0, c2, c3, c4⟩ := hc
        cases h
        have n1 : ai_ty q.1 q.2 ≠ .int := fun z => by rw [z] at c4; cases c4
        have n2 : ai_ty q.1 q.2 ≠ .long := fun z => by rw [z] at c4; cases c4
        have n3 : ∀ a, narrow (ai_ty q.1 q.2) (.ref a) = .ref a ∧ fits (ai_ty q.1 q.2) (.ref a) = true := fun a => by
          cases hty : ai_ty q.1 q.2 with
          | object C => exact ⟨rfl, rfl⟩
          | array C => exact ⟨rfl, rfl⟩
          | _ => rw [hty] at c4; cases c4
        refine ⟨i, q, .ref x, rfl, hq, c1, c2, c3, rfl, rfl, rfl, fun a ha => ⟨rfl, rfl, by simp [ai_upR, ha]⟩, fun ad => by simp [ai_fv, n1, n2, ai_cv, ai_upR, va_up, va_rf], fun ad j hj => by simp [ai_fv, ai_upR, va_up, hj], (n3 x).1, fun ad => n3 (ad x), fun hw => ⟨hw.1, fun a j k ha hk => ?_⟩⟩
        by_cases hai : a = i
        · subst hai
          by_cases hj : j = q.2
          · subst hj
            simp [ai_upR, va_up] at hk
            subst hk
            exact c0
          · simp [ai_upR, va_up, hj] at hk
            exact hw.2 _ _ _ ha hk
        · simp [ai_upR, hai] at hk
          exact hw.2 _ _ _ ha hk
      · cases h
    · cases h
  · cases h
section SIMM
variable {p : Program} {l : Launch} {e : Env} {R : Room} {s : State} {m : MethodId} {args : Array Value} {below : List Frame} {meth : Method} {c : Code} {H : Heap} {locs : List Loc} {cells slots : Nat} {Q : State → Prop}
variable {sz : Nat} {oL : Nat → Nat} {ox : Nat → Nat → Int32} {ob : Nat → Nat} {D : va_G} {ad : Nat → Nat} {tc : Nat → ClassId} {w w' : ai_W} {cc : ByteArray} {pc idx : Nat} {ls : Array Slot} {st st' : List Value} {y : MethodName}
theorem ai_get_W (hx : p.tables.exec = Jvm.exec) (hb : c.code = cc) (hown : s.vm.findClass y.cls = some m.cls) (hts : ∀ w ∈ ai_tb, w.before args s = true) (hI : ai_I sz oL ox ob D ad tc w s H) (hdg : decode cc pc = .ok (.getfield idx, 3)) (h : ai_get y.cls idx st w = some st')
    (k : W p l e R s m args below meth c H locs cells slots Q (F0 m (pc + 3) ls (st'.map (ai_cv ad)))) : W p l e R s m args below meth c H locs cells slots Q (F0 m pc ls (st.map (ai_cv ad))) := by
  obtain ⟨i, r, q, v, rfl, hq, hi, hk, rfl, hv, -⟩ := ai_get_ok h
  obtain ⟨cl, g1, g2, g3, g4⟩ := ai_fld_ok hq
  obtain ⟨C, T, N⟩ := cl
  obtain ⟨h1, h2, h3, h4, h5, h6, h7, h8⟩ := hI
  have hN : ai_N q.1 = N := by unfold ai_N; rw [g1]
  refine va_get (D := D) (ci := q.1) (v := ai_cv ad v) (fs := (List.range (ai_N q.1)).map (ai_fv ad w q.1 i)) (C := C) (T := T) (N := N) hx hb hts (ai_ClA g1).1 hown h2.1 h3 i ?_ g1 q.2 g2 (hts _ g4) (fun _ z => z) ?_ hdg k
  · rw [ai_cells_at hi, ai_en_o hk]
  · rw [hN, ai_range_at g2, hv ad]
theorem ai_put_W (hx : p.tables.exec = Jvm.exec) (hb : c.code = cc) (hown : s.vm.findClass y.cls = some m.cls) (hnm : meth.name = y.name) (hts : ∀ w ∈ ai_tb, w.before args s = true) (hI : ai_I sz oL ox ob D ad tc w s H) (hS : va_S (fun q => sz ≤ q) s.heap H locs) (hdg : decode cc pc = .ok (.putfield idx, 3)) (h : ai_put y idx st w = some (st', w'))
    (k : ∀ (H' : Heap) (locs' : List Loc), ai_I sz oL ox ob D ad tc w' s H' → va_S (fun q => sz ≤ q) s.heap H' locs' → W p l e R s m args below meth c H' locs' cells slots Q (F0 m (pc + 3) ls (st'.map (ai_cv ad)))) : W p l e R s m args below meth c H locs cells slots Q (F0 m pc ls (st.map (ai_cv ad))) := by
  obtain ⟨i, q, v, rfl, hq, hi, hk, hmay, e1, e2, e3, e4, e5, e6, -, e7, e8⟩ := ai_put_ok h
  obtain ⟨cl, g1, g2, g3, g4⟩ := ai_fld_ok hq
  have hmay := ai_may_ok g1 hmay
  obtain ⟨C, T, N⟩ := cl
  obtain ⟨h1, h2, h3, h4, h5, h6, h7, h8⟩ := hI
  have hN : ai_N q.1 = N := by unfold ai_N; rw [g1]
  obtain ⟨k1, k2, k3, k4⟩ := ai_ClA g1
  have he : (ai_cells ad tc w)[i]? = some (ad i, .inr (q.1, (List.range (ai_N q.1)).map (ai_fv ad w q.1 i))) := by rw [ai_cells_at hi, ai_en_o hk]
  have hset : (ai_cells ad tc w).set i (ad i, .inr (q.1, ((List.range (ai_N q.1)).map (ai_fv ad w q.1 i)).set q.2 (ai_cv ad v))) = ai_cells ad tc w' := by
    refine ai_cells_set e1 ?_ e3 e4
    rw [ai_en_o (by rw [e3]; exact hk)]
    rw [ai_range_set (e5 ad) (fun j _ hj => e6 ad j hj)]
  have kk : ∀ (H1 : Heap) (locs1 : List Loc), va_P D ai_cl ((ai_cells ad tc w).set i (ad i, .inr (q.1, ((List.range (ai_N q.1)).map (ai_fv ad w q.1 i)).set q.2 (ai_cv ad v)))) H1 → va_D (fun q => sz ≤ q) ((ai_cells ad tc w).set i (ad i, .inr (q.1, ((List.range (ai_N q.1)).map (ai_fv ad w q.1 i)).set q.2 (ai_cv ad v)))) → va_S (fun q => sz ≤ q) s.heap H1 locs1 → W p l e R s m args below meth c H1 locs1 cells slots Q (F0 m (pc + 3) ls (st'.map (ai_cv ad))) := by
    intro H1 locs1 p1 p2 p3
    rw [hset] at p1 p2
    exact k H1 locs1 ⟨h1, h2.same e1 e3, p1, p2, h5, h6, e8 h7, h8⟩ p3
  cases hf : (T q.2).2.2.2 with
  | false => exact va_put (D := D) (ci := q.1) (v := ai_cv ad v) (ty := ai_ty q.1 q.2) (C := C) (T := T) (N := N) hx hb hts k1 (ai_ty q.1) k2 k3 hown h2.1 h3 h4 hS i he g1 q.2 g2 (hts _ g4) (fun _ z => z) hf (k2 _ g2) (e7 ad).1 (e7 ad).2 (by rw [List.length_map, List.length_range, hN]; exact g2) hdg kk
  | true =>
    have hm : y.name = "<init>" ∧ (T q.2).1 = y.cls := by
      rcases hmay with hm | hm
      · exact absurd (hf.symm.trans hm) (by decide)
      · exact hm
    exact va_putF (D := D) (ci := q.1) (v := ai_cv ad v) (ty := ai_ty q.1 q.2) (C := C) (T := T) (N := N) hx hb hts k1 (ai_ty q.1) k2 k3 hown h2.1 h3 h4 hS i he g1 q.2 g2 (hts _ g4) (fun _ z => z) hf (by rw [hnm]; exact hm.1) hm.2 (k2 _ g2) (e7 ad).1 (e7 ad).2 (by rw [List.length_map, List.length_range, hN]; exact g2) hdg kk
-- arrays
theorem ai_ald_ok {k : Nat} (h : ai_ald k oL ox st w = some st') : ∃ (x : Int32) (i : Nat) (r : List Value) (v : Int32), st = .int x :: .ref i :: r ∧ st' = .int v :: r ∧ ((i < w.1 ∧ (w.2.2.1 i).1 = k ∧ vp_in x (w.2.2.1 i).2 ∧ v = w.2.2.2.2.1 i x.toNatClampNeg) ∨ (k = 0 ∧ ∃ j, j < 2 ∧ i = ai_O + j ∧ vp_in x (oL j) ∧ v = ox j x.toNatClampNeg)) := by
  unfold ai_ald at h
  split at h
  · rename_i x i r
    split at h
    · rename_i hi
      split at h
      · rename_i hc
        cases h
        exact ⟨x, i, r, _, rfl, rfl, Or.inl ⟨hi, hc.1, hc.2, rfl⟩⟩
      · cases h
    · split at h
      · rename_i hc
        cases h
        obtain ⟨c1, c2, c3, c4⟩ := hc
        exact ⟨x, i, r, _, rfl, rfl, Or.inr ⟨c1, i - ai_O, Nat.sub_lt_left_of_lt_add c2 c3, (Nat.add_sub_cancel' c2).symm, c4, rfl⟩⟩
      · cases h
  · cases h
theorem ai_iald_W (hx : p.tables.exec = Jvm.exec) (hb : c.code = cc) (hI : ai_I sz oL ox ob D ad tc w s H) (hS : va_S (fun q => sz ≤ q) s.heap H locs) (hdg : decode cc pc = .ok (.iaload, 1)) (h : ai_ald 0 oL ox st w = some st')
    (k : W p l e R s m args below meth c H locs cells slots Q (F0 m (pc + 1) ls (st'.map (ai_cv ad)))) : W p l e R s m args below meth c H locs cells slots Q (F0 m pc ls (st.map (ai_cv ad))) := by
  have hh := ai_ald_ok h
  clear h
  obtain ⟨x, i, r, v, rfl, rfl, h⟩ := hh
  obtain ⟨h1, h2, h3, h4, h5, h6, h7, h8⟩ := hI
  rcases h with ⟨hi, hk, hin, rfl⟩ | ⟨-, j, hj, rfl, hin, rfl⟩
  · refine va_iald hx hb (h2.K hi hk (by decide)) h3 i 0 (cA := tc i) (n := (w.2.2.1 i).2) (f := w.2.2.2.2.1 i) ?_ rfl hin hdg k
    rw [ai_cells_at hi, ai_en_i (by decide) hk]
  · obtain ⟨a1, a2, a3⟩ := h5.1 j hj
    have e : ai_cv ad (.ref (ai_O + j)) = .ref (ob j) := by simp only [ai_cv]; rw [h8 j hj]
    rw [List.map_cons, List.map_cons, e]
    exact va_sld hx hb a1 a2 a3 hS hin hdg k
theorem ai_zald_W (hx : p.tables.exec = Jvm.exec) (hb : c.code = cc) (hI : ai_I sz oL ox ob D ad tc w s H) (hdg : decode cc pc = .ok (.baload, 1)) (h : ai_ald 1 oL ox st w = some st')
    (k : W p l e R s m args below meth c H locs cells slots Q (F0 m (pc + 1) ls (st'.map (ai_cv ad)))) : W p l e R s m args below meth c H locs cells slots Q (F0 m pc ls (st.map (ai_cv ad))) := by
  have hh := ai_ald_ok h
  clear h
  obtain ⟨x, i, r, v, rfl, rfl, h⟩ := hh
  obtain ⟨h1, h2, h3, h4, h5, h6, h7, h8⟩ := hI
  rcases h with ⟨hi, hk, hin, rfl⟩ | ⟨h0, -⟩
  · refine va_zald hx hb (h2.K hi hk (by decide)) h3 i 0 (cA := tc i) (n := (w.2.2.1 i).2) (f := w.2.2.2.2.1 i) ?_ rfl hin hdg k
    rw [ai_cells_at hi, ai_en_i (by decide) hk]
  · cases h0
theorem ai_aldR_ok (h : ai_aldR st w = some st') : ∃ (x : Int32) (i : Nat) (r : List Value) (q : Nat), st = .int x :: .ref i :: r ∧ st' = .ref q :: r ∧ i < w.1 ∧ (w.2.2.1 i).1 = 2 ∧ vp_in x (w.2.2.1 i).2 ∧ w.2.2.2.1 i x.toNatClampNeg = some q := by
  unfold ai_aldR at h
  split at h
  · rename_i x i r
    split at h
    · rename_i hc
      split at h
      · rename_i q hq
        cases h
        exact ⟨x, i, r, q, rfl, rfl, hc.1, hc.2.1, hc.2.2, hq⟩
      · cases h
    · cases h
  · cases h
theorem ai_rald_W (hx : p.tables.exec = Jvm.exec) (hb : c.code = cc) (hI : ai_I sz oL ox ob D ad tc w s H) (hdg : decode cc pc = .ok (.aaload, 1)) (h : ai_aldR st w = some st')
    (k : W p l e R s m args below meth c H locs cells slots Q (F0 m (pc + 1) ls (st'.map (ai_cv ad)))) : W p l e R s m args below meth c H locs cells slots Q (F0 m pc ls (st.map (ai_cv ad))) := by
  obtain ⟨x, i, r, q, rfl, rfl, hi, hk, hin, hq⟩ := ai_aldR_ok h
  obtain ⟨h1, h2, h3, h4, h5, h6, h7, h8⟩ := hI
  refine va_aldq hx hb (h2.K hi hk (by decide)) h3 i 0 (cA := tc i) (C := RX2) (n := (w.2.2.1 i).2) (f := fun j => (w.2.2.2.1 i j).map ad) ?_ rfl hin hdg ?_
  · rw [ai_cells_at hi, ai_en_r hk]
  · rw [hq]
    exact k
theorem ai_ast_ok {k : Nat} {f : Int32 → Int32} (h : ai_ast k f st w = some (st', w')) : ∃ (v x : Int32) (i : Nat), st = .int v :: .int x :: .ref i :: st' ∧ i < w.1 ∧ (w.2.2.1 i).1 = k ∧ vp_in x (w.2.2.1 i).2 ∧ w' = (w.1, w.2.1, w.2.2.1, w.2.2.2.1, ai_up w.2.2.2.2.1 i x.toNatClampNeg (f v), w.2.2.2.2.2) := by
  unfold ai_ast at h
  split at h
  · rename_i v x i r
    split at h
    · rename_i hc
      cases h
      exact ⟨v, x, i, rfl, hc.1, hc.2.1, hc.2.2, rfl⟩
    · cases h
  · cases h
theorem ai_iast_W (hx : p.tables.exec = Jvm.exec) (hb : c.code = cc) (hI : ai_I sz oL ox ob D ad tc w s H) (hS : va_S (fun q => sz ≤ q) s.heap H locs) (hdg : decode cc pc = .ok (.iastore, 1)) (h : ai_ast 0 (fun x => x) st w = some (st', w'))
    (k : ∀ (H' : Heap) (locs' : List Loc), ai_I sz oL ox ob D ad tc w' s H' → va_S (fun q => sz ≤ q) s.heap H' locs' → W p l e R s m args below meth c H' locs' cells slots Q (F0 m (pc + 1) ls (st'.map (ai_cv ad)))) : W p l e R s m args below meth c H locs cells slots Q (F0 m pc ls (st.map (ai_cv ad))) := by
  obtain ⟨v, x, i, rfl, hi, hk, hin, rfl⟩ := ai_ast_ok h
  obtain ⟨h1, h2, h3, h4, h5, h6, h7, h8⟩ := hI
  refine va_iast hx hb (h2.K hi hk (by decide)) h3 h4 hS i 0 (cA := tc i) (n := (w.2.2.1 i).2) (f := w.2.2.2.2.1 i) ?_ rfl hin hdg (fun H1 locs1 p1 p2 p3 => ?_)
  · rw [ai_cells_at hi, ai_en_i (by decide) hk]
  · have hset : (ai_cells ad tc w).set i (ad i, .inl (tc i, (w.2.2.1 i).2, .inl (upd (w.2.2.2.2.1 i) x.toNatClampNeg v))) = ai_cells ad tc (w.1, w.2.1, w.2.2.1, w.2.2.2.1, ai_up w.2.2.2.2.1 i x.toNatClampNeg v, w.2.2.2.2.2) := ai_cells_set (w := w) rfl (by rw [ai_en_i (w := (w.1, w.2.1, w.2.2.1, w.2.2.2.1, ai_up w.2.2.2.2.1 i x.toNatClampNeg v, w.2.2.2.2.2)) (k := 0) (by decide) hk]; simp [ai_up]) rfl (fun a ha => ⟨by simp [ai_up, ha], rfl, rfl⟩)
    rw [hset] at p1 p2
    exact k H1 locs1 ⟨h1, h2.same rfl rfl, p1, p2, h5, h6, h7, h8⟩ p3
theorem ai_zast_W (hx : p.tables.exec = Jvm.exec) (hb : c.code = cc) (hI : ai_I sz oL ox ob D ad tc w s H) (hS : va_S (fun q => sz ≤ q) s.heap H locs) (hdg : decode cc pc = .ok (.bastore, 1)) (h : ai_ast 1 (fun x => vp_nar .boolean x) st w = some (st', w'))
    (k : ∀ (H' : Heap) (locs' : List Loc), ai_I sz oL ox ob D ad tc w' s H' → va_S (fun q => sz ≤ q) s.heap H' locs' → W p l e R s m args below meth c H' locs' cells slots Q (F0 m (pc + 1) ls (st'.map (ai_cv ad)))) : W p l e R s m args below meth c H locs cells slots Q (F0 m pc ls (st.map (ai_cv ad))) := by
  obtain ⟨v, x, i, rfl, hi, hk, hin, rfl⟩ := ai_ast_ok h
  obtain ⟨h1, h2, h3, h4, h5, h6, h7, h8⟩ := hI
  refine va_zast hx hb (h2.K hi hk (by decide)) h3 h4 hS i 0 (cA := tc i) (n := (w.2.2.1 i).2) (f := w.2.2.2.2.1 i) ?_ rfl hin hdg (fun H1 locs1 p1 p2 p3 => ?_)
  · rw [ai_cells_at hi, ai_en_i (by decide) hk]
  · have hset : (ai_cells ad tc w).set i (ad i, .inl (tc i, (w.2.2.1 i).2, .inl (upd (w.2.2.2.2.1 i) x.toNatClampNeg (vp_nar .boolean v)))) = ai_cells ad tc (w.1, w.2.1, w.2.2.1, w.2.2.2.1, ai_up w.2.2.2.2.1 i x.toNatClampNeg (vp_nar .boolean v), w.2.2.2.2.2) := ai_cells_set (w := w) rfl (by rw [ai_en_i (w := (w.1, w.2.1, w.2.2.1, w.2.2.2.1, ai_up w.2.2.2.2.1 i x.toNatClampNeg (vp_nar .boolean v), w.2.2.2.2.2)) (k := 1) (by decide) hk]; simp [ai_up]) rfl (fun a ha => ⟨by simp [ai_up, ha], rfl, rfl⟩)
    rw [hset] at p1 p2
    exact k H1 locs1 ⟨h1, h2.same rfl rfl, p1, p2, h5, h6, h7, h8⟩ p3
theorem ai_astR_ok (h : ai_astR st w = some (st', w')) : ∃ (v : Nat) (x : Int32) (i : Nat), st = .ref v :: .int x :: .ref i :: st' ∧ i < w.1 ∧ v < w.1 ∧ (w.2.2.1 v).1 = 5 ∧ (w.2.2.1 i).1 = 2 ∧ vp_in x (w.2.2.1 i).2 ∧ w' = (w.1, w.2.1, w.2.2.1, ai_upR w.2.2.2.1 i x.toNatClampNeg (some v), w.2.2.2.2.1, w.2.2.2.2.2) := by
  unfold ai_astR at h
  split at h
  · rename_i v x i r
    split at h
    · rename_i hc
      cases h
      exact ⟨v, x, i, rfl, hc.1, hc.2.1, hc.2.2.1, hc.2.2.2.1, hc.2.2.2.2, rfl⟩
    · cases h
  · cases h
theorem ai_wf_upR {i j v : Nat} (hw : ai_wf w) (hv : v < w.1) : ai_wf (w.1, w.2.1, w.2.2.1, ai_upR w.2.2.2.1 i j (some v), w.2.2.2.2.1, w.2.2.2.2.2) := by
  refine ⟨hw.1, fun a b k ha hk => ?_⟩
  by_cases hai : a = i
  · subst hai
    by_cases hj : b = j
    · subst hj
      simp [ai_upR, va_up] at hk
      subst hk
      exact hv
    · simp [ai_upR, va_up, hj] at hk
      exact hw.2 _ _ _ ha hk
  · simp [ai_upR, hai] at hk
    exact hw.2 _ _ _ ha hk
theorem ai_rast_W (hx : p.tables.exec = Jvm.exec) (hb : c.code = cc) (hI : ai_I sz oL ox ob D ad tc w s H) (hS : va_S (fun q => sz ≤ q) s.heap H locs) (hdg : decode cc pc = .ok (.aastore, 1)) (h : ai_astR st w = some (st', w'))
    (k : ∀ (H' : Heap) (locs' : List Loc), ai_I sz oL ox ob D ad tc w' s H' → va_S (fun q => sz ≤ q) s.heap H' locs' → W p l e R s m args below meth c H' locs' cells slots Q (F0 m (pc + 1) ls (st'.map (ai_cv ad)))) : W p l e R s m args below meth c H locs cells slots Q (F0 m pc ls (st.map (ai_cv ad))) := by
  obtain ⟨v, x, i, rfl, hi, hvn, hkv, hk, hin, rfl⟩ := ai_astR_ok h
  obtain ⟨h1, h2, h3, h4, h5, h6, h7, h8⟩ := hI
  refine va_astq hx hb (h2.K hi hk (by decide)) h3 h4 hS i 0 v 2 (cA := tc i) (r := (RX2, TX2, 7)) (vs := (List.range (ai_N 2)).map (ai_fv ad w 2 v)) (n := (w.2.2.1 i).2) (f := fun j => (w.2.2.2.1 i j).map ad) ?_ rfl ?_ rfl hin hdg (fun H1 locs1 p1 p2 p3 => ?_)
  · rw [ai_cells_at hi, ai_en_r hk]
  · rw [ai_cells_at hvn, ai_en_o hkv]
  · have hset : (ai_cells ad tc w).set i (ad i, .inl (tc i, (w.2.2.1 i).2, .inr (.inr (.inr (.inr (va_up (fun j => (w.2.2.2.1 i j).map ad) x.toNatClampNeg (some (ad v)))))))) = ai_cells ad tc (w.1, w.2.1, w.2.2.1, ai_upR w.2.2.2.1 i x.toNatClampNeg (some v), w.2.2.2.2.1, w.2.2.2.2.2) := ai_cells_set (w := w) rfl (by
      rw [ai_en_r (w := (w.1, w.2.1, w.2.2.1, ai_upR w.2.2.2.1 i x.toNatClampNeg (some v), w.2.2.2.2.1, w.2.2.2.2.2)) hk]
      have : (va_up (fun j => (w.2.2.2.1 i j).map ad) x.toNatClampNeg (some (ad v))) = fun j => (ai_upR w.2.2.2.1 i x.toNatClampNeg (some v) i j).map ad := by
        funext j
        by_cases hj : j = x.toNatClampNeg
        · simp [ai_upR, va_up, hj]
        · simp [ai_upR, va_up, hj]
      rw [this]) rfl (fun a ha => ⟨rfl, rfl, by simp [ai_upR, ha]⟩)
    rw [hset] at p1 p2
    exact k H1 locs1 ⟨h1, h2.same rfl rfl, p1, p2, h5, h6, ai_wf_upR h7 hvn, h8⟩ p3
end SIMM
end
section
/-! the small machine: new cells, copies; all its heap steps in one row -/
theorem ai_news_ok {own : String} {idx : Nat} {st st' : List Value} {w w' : ai_W} (h : ai_news own idx st w = some (st', w')) : ∃ (ci : Nat) (q : vw_C), ai_cls own idx = some ci ∧ ai_cl[ci]? = some q ∧ w.1 < 1000000 ∧ st' = .ref w.1 :: st ∧ w' = ai_mk w (ci + 3) q.2.2 := by
  unfold ai_news at h
  split at h
  · rename_i ci hci
    split at h
    · rename_i q hq
      split at h
      · rename_i hn
        cases h
        exact ⟨ci, q, hci, hq, hn, rfl, rfl⟩
      · cases h
    · cases h
  · cases h
theorem ai_newa_ok {k : Nat} {ty : FieldType} {st st' : List Value} {w w' : ai_W} (h : ai_newa k ty st w = some (st', w')) : ∃ (x : Int32) (r : List Value), st = .int x :: r ∧ ¬ x < 0 ∧ x.toNatClampNeg ≤ 1000 ∧ Cond.arrayClass ty ∈ ai_tb ∧ w.1 < 1000000 ∧ st' = .ref w.1 :: r ∧ w' = ai_mk w k x.toNatClampNeg := by
  unfold ai_newa at h
  split at h
  · rename_i x r
    split at h
    · rename_i hc
      cases h
      exact ⟨x, r, rfl, hc.1, hc.2.1, hc.2.2.1, hc.2.2.2, rfl, rfl⟩
    · cases h
  · cases h
theorem ai_newR_ok {own : String} {idx : Nat} {st st' : List Value} {w w' : ai_W} (h : ai_newR own idx st w = some (st', w')) : ∃ (x : Int32) (r : List Value), st = .int x :: r ∧ ¬ x < 0 ∧ x.toNatClampNeg ≤ 1000 ∧ ai_clk own idx = some RX2 ∧ w.1 < 1000000 ∧ st' = .ref w.1 :: r ∧ w' = ai_mk w 2 x.toNatClampNeg := by
  unfold ai_newR at h
  split at h
  · rename_i x r
    split at h
    · rename_i hc
      cases h
      exact ⟨x, r, rfl, hc.1, hc.2.1, hc.2.2.1, hc.2.2.2, rfl, rfl⟩
    · cases h
  · cases h
theorem ai_wf_mk {w : ai_W} {k sl : Nat} (hw : ai_wf w) (hn : w.1 < 1000000) : ai_wf (ai_mk w k sl) := by
  refine ⟨hn, fun i j q hi hq => ?_⟩
  have hi' : i < w.1 + 1 := hi
  by_cases he : i = w.1
  · subst he
    simp [ai_mk, va_up] at hq
  · simp [ai_mk, va_up, he] at hq
    exact Nat.lt_succ_of_lt (hw.2 i j q (by omega) hq)
theorem ai_ty_def {c k : Nat} (h : ai_ty c k = .int ∨ ai_ty c k = .long ∨ ai_isRef (ai_ty c k) = true) : defaultValue (ai_ty c k) = if ai_ty c k = .int then .int 0 else if ai_ty c k = .long then .long 0 else .null := by
  rcases h with h | h | h
  · rw [h]; rfl
  · rw [h]; rfl
  · cases hty : ai_ty c k with
    | object C => rfl
    | array C => rfl
    | _ => rw [hty] at h; cases h
section SIMN
variable {p : Program} {l : Launch} {e : Env} {R : Room} {s : State} {m : MethodId} {args : Array Value} {below : List Frame} {meth : Method} {c : Code} {H : Heap} {locs : List Loc} {cells slots : Nat} {Q : State → Prop}
variable {sz : Nat} {oL : Nat → Nat} {ox : Nat → Nat → Int32} {ob : Nat → Nat} {D : va_G} {ad : Nat → Nat} {tc : Nat → ClassId} {w w' : ai_W} {cc : ByteArray} {pc idx : Nat} {ls : Array Slot} {st st' : List Value} {y : MethodName}
theorem ai_upO {q : Nat} (hn : w.1 < 1000000) (h8 : ∀ k, k < 2 → ad (ai_O + k) = ob k) : ∀ k, k < 2 → va_up ad w.1 q (ai_O + k) = ob k := by
  intro k hk
  have : ai_O + k ≠ w.1 := by
    have : ai_O = 1000000000 := rfl
    omega
  simp only [va_up, if_neg this]
  exact h8 k hk
theorem ai_new_st {q : Nat} {r : List Value} (hn : w.1 < 1000000) (hs : ai_oks w.1 r) (h8 : ∀ k, k < 2 → ad (ai_O + k) = ob k) : (Value.ref w.1 :: r).map (ai_cv (va_up ad w.1 q)) = .ref q :: r.map (ai_cv ad) := by
  rw [List.map_cons, ai_cvm (ad := ad) (ad' := va_up ad w.1 q) hs (fun i hi => by simp [va_up, Nat.ne_of_lt hi]) (fun k hk => by rw [ai_upO hn h8 k hk, h8 k hk])]
  simp [ai_cv, va_up]
theorem ai_news_W (hx : p.tables.exec = Jvm.exec) (hb : c.code = cc) (hown : s.vm.findClass y.cls = some m.cls) (hts : ∀ w ∈ ai_tb, w.before args s = true) (hI : ai_I sz oL ox ob D ad tc w s H) (hS : va_S (fun q => sz ≤ q) s.heap H locs) (hs : ai_oks w.1 st) (hdg : decode cc pc = .ok (.new idx, 3)) (h : ai_news y.cls idx st w = some (st', w')) (hc1 : cells + (w'.1 - w.1) ≤ R.cells) (hc2 : slots + (w'.2.1 - w.2.1) ≤ R.slots)
    (k : ∀ (H' : Heap) (locs' : List Loc) (ad' : Nat → Nat) (tc' : Nat → ClassId), (∀ i, i < w.1 → ad' i = ad i) → ai_I sz oL ox ob D ad' tc' w' s H' → va_S (fun q => sz ≤ q) s.heap H' locs' → W p l e R s m args below meth c H' locs' (cells + (w'.1 - w.1)) (slots + (w'.2.1 - w.2.1)) Q (F0 m (pc + 3) ls (st'.map (ai_cv ad')))) : W p l e R s m args below meth c H locs cells slots Q (F0 m pc ls (st.map (ai_cv ad))) := by
  obtain ⟨ci, q, hci, hq, hn, rfl, rfl⟩ := ai_news_ok h
  obtain ⟨q', g1, g2, g3, g4⟩ := ai_cls_ok hci
  have : q' = q := Option.some.inj (g1.symm.trans hq)
  subst this
  obtain ⟨k1, k2, k3, k4⟩ := ai_ClA hq
  obtain ⟨C, T, N⟩ := q'
  obtain ⟨h1, h2, h3, h4, h5, h6, h7, h8⟩ := hI
  have hN : ai_N ci = N := by unfold ai_N; rw [hq]
  have ec : (ai_mk w (ci + 3) N).1 - w.1 = 1 := by show w.1 + 1 - w.1 = 1; omega
  have es : (ai_mk w (ci + 3) N).2.1 - w.2.1 = N := by show w.2.1 + N - w.2.1 = N; omega
  simp only [ec, es] at hc1 hc2 k
  refine va_new (ci := ci) (fs := (List.range N).map (fun j => if ai_ty ci j = .int then Value.int 0 else if ai_ty ci j = .long then .long 0 else .null)) (C := C) (T := T) (N := N) hx hb hts k1 (ai_ty ci) k2 hown (hts _ g2) (hts _ g3) (hts _ g4) h2.1 h3 h4 hS (fun q hq => Nat.le_trans h1 hq) hq (fun j hj => ?_) hc1 hc2 hdg (fun q H1 p1 p2 p3 => ?_)
  · rw [ai_ty_def (k4 j hj)]
    unfold vp_V
    rw [List.getD_eq_getElem?_getD, ai_range_at hj]
    rfl
  · have hcell : ai_cells ad tc w ++ [(q, .inr (ci, (List.range N).map (fun j => if ai_ty ci j = .int then Value.int 0 else if ai_ty ci j = .long then .long 0 else .null)))] = ai_cells (va_up ad w.1 q) tc (ai_mk w (ci + 3) N) := by
      refine ai_cells_new h7 (fun _ _ => rfl) ?_
      rw [ai_en_o (c := ci) (by simp [ai_mk, va_up]), hN]
      congr 2
      refine List.map_congr_left (fun j _ => ?_)
      simp [ai_fv, ai_mk, va_up, va_rf]
    rw [hcell] at p1 p2
    have := k H1 _ (va_up ad w.1 q) tc (fun i hi => by simp [va_up, Nat.ne_of_lt hi]) ⟨h1, ⟨h2.1, fun i hi h3 => ?_⟩, p1, p2, h5, h6, ai_wf_mk h7 hn, ai_upO hn h8⟩ p3
    · rw [ai_new_st hn hs h8] at this
      exact this
    · have hi' : i < w.1 + 1 := hi
      by_cases he : i = w.1
      · subst he
        simp [ai_mk, va_up] at h3
        exact absurd h3 (by omega)
      · have e : (ai_mk w (ci + 3) N).2.2.1 i = w.2.2.1 i := by simp [ai_mk, va_up, he]
        rw [e] at h3 ⊢
        exact h2.2 i (by omega) h3
theorem ai_newa_W {kd : Nat} {ty : FieldType} {at0 : ArrayType} (hkd : kd < 2) (hty : ai_kt kd = ty) (hat : newarray.typeOf at0 = ty) (hcm : componentBytes ty ≤ 8) (hdf : defaultValue ty = .int 0) (hx : p.tables.exec = Jvm.exec) (hb : c.code = cc) (hts : ∀ w ∈ ai_tb, w.before args s = true) (hI : ai_I sz oL ox ob D ad tc w s H) (hS : va_S (fun q => sz ≤ q) s.heap H locs) (hs : ai_oks w.1 st) (hdg : decode cc pc = .ok (.newarray at0, 2)) (h : ai_newa kd ty st w = some (st', w')) (hc1 : cells + (w'.1 - w.1) ≤ R.cells) (hc2 : slots + (w'.2.1 - w.2.1) ≤ R.slots)
    (k : ∀ (H' : Heap) (locs' : List Loc) (ad' : Nat → Nat) (tc' : Nat → ClassId), (∀ i, i < w.1 → ad' i = ad i) → ai_I sz oL ox ob D ad' tc' w' s H' → va_S (fun q => sz ≤ q) s.heap H' locs' → W p l e R s m args below meth c H' locs' (cells + (w'.1 - w.1)) (slots + (w'.2.1 - w.2.1)) Q (F0 m (pc + 2) ls (st'.map (ai_cv ad')))) : W p l e R s m args below meth c H locs cells slots Q (F0 m pc ls (st.map (ai_cv ad))) := by
  obtain ⟨x, r, rfl, hx0, hx1, harr, hn, rfl, rfl⟩ := ai_newa_ok h
  obtain ⟨h1, h2, h3, h4, h5, h6, h7, h8⟩ := hI
  have ec : (ai_mk w kd x.toNatClampNeg).1 - w.1 = 1 := by show w.1 + 1 - w.1 = 1; omega
  have es : (ai_mk w kd x.toNatClampNeg).2.1 - w.2.1 = x.toNatClampNeg := by show w.2.1 + _ - w.2.1 = _; omega
  simp only [ec, es] at hc1 hc2 k
  refine va_newa (N' := x.toNatClampNeg) (a0 := (x.toNatClampNeg, .inl (fun _ => 0))) hx hb (by rw [hat]; exact hts _ harr) hat h2.1 h3 h4 hS (fun q hq => Nat.le_trans h1 hq) (fun cA => by rw [vp_cell_i, hdf]) hx0 rfl ?_ hc1 hc2 hdg (fun q cA H1 p0 p1 p2 p3 => ?_)
  · exact Nat.le_trans (Nat.mul_le_mul hx1 hcm) (by decide)
  · have hcell : ai_cells ad tc w ++ [(q, .inl (cA, x.toNatClampNeg, .inl (fun _ => 0)))] = ai_cells (va_up ad w.1 q) (va_up tc w.1 cA) (ai_mk w kd x.toNatClampNeg) := by
      refine ai_cells_new h7 (fun i hi => by simp [va_up, Nat.ne_of_lt hi]) ?_
      rw [ai_en_i (k := kd) hkd (by simp [ai_mk, va_up])]
      simp [ai_mk, va_up]
    rw [hcell] at p1 p2
    have := k H1 _ (va_up ad w.1 q) (va_up tc w.1 cA) (fun i hi => by simp [va_up, Nat.ne_of_lt hi]) ⟨h1, ⟨h2.1, fun i hi h3 => ?_⟩, p1, p2, h5, h6, ai_wf_mk h7 hn, ai_upO hn h8⟩ p3
    · rw [ai_new_st hn (ai_oks_t hs) h8] at this
      exact this
    · have hi' : i < w.1 + 1 := hi
      by_cases he : i = w.1
      · subst he
        have e : (ai_mk w kd x.toNatClampNeg).2.2.1 w.1 = (kd, x.toNatClampNeg) := by simp [ai_mk, va_up]
        rw [e]
        have := p0.2 0 (cA, ty) (by simp)
        simp only [va_up, if_pos, hty]
        exact this
      · have e : (ai_mk w kd x.toNatClampNeg).2.2.1 i = w.2.2.1 i := by simp [ai_mk, va_up, he]
        rw [e] at h3 ⊢
        simp only [va_up, if_neg he]
        exact h2.2 i (by omega) h3
theorem ai_newR_W (hx : p.tables.exec = Jvm.exec) (hb : c.code = cc) (hown : s.vm.findClass y.cls = some m.cls) (hts : ∀ w ∈ ai_tb, w.before args s = true) (hI : ai_I sz oL ox ob D ad tc w s H) (hS : va_S (fun q => sz ≤ q) s.heap H locs) (hs : ai_oks w.1 st) (hdg : decode cc pc = .ok (.anewarray idx, 3)) (h : ai_newR y.cls idx st w = some (st', w')) (hc1 : cells + (w'.1 - w.1) ≤ R.cells) (hc2 : slots + (w'.2.1 - w.2.1) ≤ R.slots)
    (k : ∀ (H' : Heap) (locs' : List Loc) (ad' : Nat → Nat) (tc' : Nat → ClassId), (∀ i, i < w.1 → ad' i = ad i) → ai_I sz oL ox ob D ad' tc' w' s H' → va_S (fun q => sz ≤ q) s.heap H' locs' → W p l e R s m args below meth c H' locs' (cells + (w'.1 - w.1)) (slots + (w'.2.1 - w.2.1)) Q (F0 m (pc + 3) ls (st'.map (ai_cv ad')))) : W p l e R s m args below meth c H locs cells slots Q (F0 m pc ls (st.map (ai_cv ad))) := by
  obtain ⟨x, r, rfl, hx0, hx1, hcl, hn, rfl, rfl⟩ := ai_newR_ok h
  obtain ⟨h1, h2, h3, h4, h5, h6, h7, h8⟩ := hI
  have ec : (ai_mk w 2 x.toNatClampNeg).1 - w.1 = 1 := by show w.1 + 1 - w.1 = 1; omega
  have es : (ai_mk w 2 x.toNatClampNeg).2.1 - w.2.1 = x.toNatClampNeg := by show w.2.1 + _ - w.2.1 = _; omega
  simp only [ec, es] at hc1 hc2 k
  refine va_newq (N' := x.toNatClampNeg) hx hb hown (hts _ (ai_clk_mem hcl)) h6.1 h2.1 h3 h4 hS (fun q hq => Nat.le_trans h1 hq) hx0 rfl (by omega) hc1 hc2 hdg (fun q cA H1 p0 p1 p2 p3 => ?_)
  have hcell : ai_cells ad tc w ++ [(q, .inl (cA, x.toNatClampNeg, .inr (.inr (.inr (.inr (fun _ => none))))))] = ai_cells (va_up ad w.1 q) (va_up tc w.1 cA) (ai_mk w 2 x.toNatClampNeg) := by
    refine ai_cells_new h7 (fun i hi => by simp [va_up, Nat.ne_of_lt hi]) ?_
    rw [ai_en_r (by simp [ai_mk, va_up])]
    simp [ai_mk, va_up]
  rw [hcell] at p1 p2
  have := k H1 _ (va_up ad w.1 q) (va_up tc w.1 cA) (fun i hi => by simp [va_up, Nat.ne_of_lt hi]) ⟨h1, ⟨h2.1, fun i hi h3 => ?_⟩, p1, p2, h5, h6, ai_wf_mk h7 hn, ai_upO hn h8⟩ p3
  · rw [ai_new_st hn (ai_oks_t hs) h8] at this
    exact this
  · have hi' : i < w.1 + 1 := hi
    by_cases he : i = w.1
    · subst he
      have e : (ai_mk w 2 x.toNatClampNeg).2.2.1 w.1 = (2, x.toNatClampNeg) := by simp [ai_mk, va_up]
      rw [e]
      have := p0.2 0 (cA, .object RX2) (by simp)
      simp only [va_up, if_pos]
      exact this
    · have e : (ai_mk w 2 x.toNatClampNeg).2.2.1 i = w.2.2.1 i := by simp [ai_mk, va_up, he]
      rw [e] at h3 ⊢
      simp only [va_up, if_neg he]
      exact h2.2 i (by omega) h3
theorem ai_cpy_ok (h : ai_cpy st w = some (st', w')) : ∃ (n dp sp : Int32) (a b : Nat), st = .int n :: .int dp :: .ref b :: .int sp :: .ref a :: st' ∧ a < w.1 ∧ b < w.1 ∧ (w.2.2.1 a).1 = 0 ∧ (w.2.2.1 b).1 = 0 ∧ ¬ sp < 0 ∧ ¬ dp < 0 ∧ ¬ n < 0 ∧ sp.toNatClampNeg + n.toNatClampNeg ≤ (w.2.2.1 a).2 ∧ dp.toNatClampNeg + n.toNatClampNeg ≤ (w.2.2.1 b).2 ∧ (st'.map fun v => v.category).sum ≤ 8 ∧ w' = (w.1, w.2.1, w.2.2.1, w.2.2.2.1, va_up w.2.2.2.2.1 b (va_cpy (w.2.2.2.2.1 a) (w.2.2.2.2.1 b) sp.toNatClampNeg dp.toNatClampNeg n.toNatClampNeg), w.2.2.2.2.2) := by
  unfold ai_cpy at h
  split at h
  · rename_i n dp b sp a r
    split at h
    · rename_i hc
      obtain ⟨c1, c2, c3, c4, c5, c6, c7, c8, c9, c10⟩ := hc
      cases h
      exact ⟨n, dp, sp, a, b, rfl, c1, c2, c3, c4, c5, c6, c7, c8, c9, c10, rfl⟩
    · cases h
  · cases h
theorem ai_sum {r : List Value} (h : (r.map fun v => v.category).sum ≤ 8) : ((r.map (ai_cv ad)).map fun v => v.category).sum ≤ 8 := by
  rw [List.map_map]
  have : ((fun v : Value => v.category) ∘ ai_cv ad) = fun v => v.category := by
    funext v
    exact ai_cat ad v
  rw [this]
  exact h
theorem ai_cpy_W {d nL : Nat} (hd0 : 0 < d) (hd : d ≤ R.frames) (hdl : 40 * d ≤ R.locals) (hml : c.maxLocals = ls.size) (hx : p.tables.exec = Jvm.exec) (hb : c.code = cc) (hown : s.vm.findClass y.cls = some m.cls) (hts : ∀ w ∈ ai_tb, w.before args s = true) (hl : ai_mlk y.cls idx = some arraycopyName) (hn1 : Cond.native arraycopyName ∈ ai_tb) (hn2 : Cond.static arraycopyName ∈ ai_tb) (hn3 : Cond.initialized "java/lang/System" ∈ ai_tb) (hI : ai_I sz oL ox ob D ad tc w s H) (hS : va_S (fun q => sz ≤ q) s.heap H locs) (hdg : decode cc pc = .ok (.invokestatic idx, 3)) (h : ai_cpy st w = some (st', w'))
    (k : ∀ (H' : Heap) (locs' : List Loc), ai_I sz oL ox ob D ad tc w' s H' → va_S (fun q => sz ≤ q) s.heap H' locs' → W p l e R s m args below meth c H' locs' cells slots Q (F0 m (pc + 3) ls (st'.map (ai_cv ad)))) : W p l e R s m args below meth c H locs cells slots Q (F0 m pc ls (st.map (ai_cv ad))) := by
  obtain ⟨n, dp, sp, a, b, rfl, c1, c2, c3, c4, c5, c6, c7, c8, c9, c10, rfl⟩ := ai_cpy_ok h
  obtain ⟨h1, h2, h3, h4, h5, h6, h7, h8⟩ := hI
  have hK2 : va_K D ai_cl [(tc a, .int), (tc b, .int)] s := (h2.K c1 c3 (by decide)).app (h2.K c2 c4 (by decide))
  have hsum := ai_sum (ad := ad) c10
  refine va_copyi (ty := .int) hx hb hml hown (hts _ (ai_mlk_mem hl)) (hts _ hn1) (hts _ hn2) (hts _ hn3) hK2 h3 h4 hS a b 0 1 (c0 := tc a) (c1 := tc b) (n0 := (w.2.2.1 a).2) (n1 := (w.2.2.1 b).2) (f := w.2.2.2.2.1 a) (g := w.2.2.2.2.1 b) ?_ ?_ rfl rfl rfl c5 c6 c7 c8 c9 (fun _ _ => rfl) (by omega) ?_ hdg (fun H1 locs1 p1 p2 p3 => ?_)
  · rw [ai_cells_at c1, ai_en_i (by decide) c3]
  · rw [ai_cells_at c2, ai_en_i (by decide) c4]
  · have e : nativeFrameWords "java/lang/System" "arraycopy" 5 = 7 := by decide
    rw [e]
    omega
  · have hset : (ai_cells ad tc w).set b (ad b, .inl (tc b, (w.2.2.1 b).2, .inl (va_cpy (w.2.2.2.2.1 a) (w.2.2.2.2.1 b) sp.toNatClampNeg dp.toNatClampNeg n.toNatClampNeg))) = ai_cells ad tc (w.1, w.2.1, w.2.2.1, w.2.2.2.1, va_up w.2.2.2.2.1 b (va_cpy (w.2.2.2.2.1 a) (w.2.2.2.2.1 b) sp.toNatClampNeg dp.toNatClampNeg n.toNatClampNeg), w.2.2.2.2.2) := ai_cells_set (w := w) rfl (by rw [ai_en_i (w := (w.1, w.2.1, w.2.2.1, w.2.2.2.1, va_up w.2.2.2.2.1 b (va_cpy (w.2.2.2.2.1 a) (w.2.2.2.2.1 b) sp.toNatClampNeg dp.toNatClampNeg n.toNatClampNeg), w.2.2.2.2.2)) (k := 0) (by decide) c4]; simp [va_up]) rfl (fun a ha => ⟨by simp [va_up, ha], rfl, rfl⟩)
    rw [hset] at p1 p2
    exact k H1 locs1 ⟨h1, h2.same rfl rfl, p1, p2, h5, h6, h7, h8⟩ p3
end SIMN
end
section
theorem ai_M_ok {oL : Nat → Nat} {ox : Nat → Nat → Int32} {y : MethodName} {ins : Instr} {len d : Nat} {st st' : List Value} {w w' : ai_W} (h : ai_M oL ox y ins len d st w = some (st', w')) : w.1 ≤ w'.1 ∧ w.2.1 ≤ w'.2.1 ∧ (ai_wf w → ai_oks w.1 st → ai_oks w'.1 st') := by
  unfold ai_M at h
  split at h
  · split at h
    · obtain ⟨h1, h2⟩ := ai_keep_ok h
      cases h2
      obtain ⟨i, r, q, v, rfl, -, -, -, h3, -, h4⟩ := ai_get_ok h1
      cases h3
      exact ⟨Nat.le_refl _, Nat.le_refl _, fun hw hs => ai_oks_c (h4 hw) (ai_oks_t hs)⟩
    · cases h
  · split at h
    · obtain ⟨i, q, v, rfl, hq, hi, hk, hmay, e1, e2, e3, -⟩ := ai_put_ok h
      exact ⟨by omega, by omega, fun hw hs => by rw [e1]; exact ai_oks_t (ai_oks_t hs)⟩
    · cases h
  · split at h
    · obtain ⟨h1, h2⟩ := ai_keep_ok h
      cases h2
      obtain ⟨x, i, r, v, rfl, h3, -⟩ := ai_ald_ok h1
      cases h3
      exact ⟨Nat.le_refl _, Nat.le_refl _, fun hw hs => ai_oks_c ai_okI (ai_oks_t (ai_oks_t hs))⟩
    · cases h
  · split at h
    · obtain ⟨h1, h2⟩ := ai_keep_ok h
      cases h2
      obtain ⟨x, i, r, v, rfl, h3, -⟩ := ai_ald_ok h1
      cases h3
      exact ⟨Nat.le_refl _, Nat.le_refl _, fun hw hs => ai_oks_c ai_okI (ai_oks_t (ai_oks_t hs))⟩
    · cases h
  · split at h
    · obtain ⟨h1, h2⟩ := ai_keep_ok h
      cases h2
      obtain ⟨x, i, r, q, rfl, h3, hi, -, -, hq⟩ := ai_aldR_ok h1
      cases h3
      exact ⟨Nat.le_refl _, Nat.le_refl _, fun hw hs => ai_oks_c (fun j hj => by cases hj; exact Or.inl (hw.2 _ _ _ hi hq)) (ai_oks_t (ai_oks_t hs))⟩
    · cases h
  · split at h
    · obtain ⟨v, x, i, rfl, -, -, -, rfl⟩ := ai_ast_ok h
      exact ⟨Nat.le_refl _, Nat.le_refl _, fun hw hs => ai_oks_t (ai_oks_t (ai_oks_t hs))⟩
    · cases h
  · split at h
    · obtain ⟨v, x, i, rfl, -, -, -, rfl⟩ := ai_ast_ok h
      exact ⟨Nat.le_refl _, Nat.le_refl _, fun hw hs => ai_oks_t (ai_oks_t (ai_oks_t hs))⟩
    · cases h
  · split at h
    · obtain ⟨v, x, i, rfl, -, -, -, -, -, rfl⟩ := ai_astR_ok h
      exact ⟨Nat.le_refl _, Nat.le_refl _, fun hw hs => ai_oks_t (ai_oks_t (ai_oks_t hs))⟩
    · cases h
  · split at h
    · obtain ⟨ci, q, -, -, -, rfl, rfl⟩ := ai_news_ok h
      exact ⟨Nat.le_succ _, Nat.le_add_right _ _, fun hw hs => ai_oks_c (fun j hj => by cases hj; exact Or.inl (Nat.lt_succ_self _)) (hs.mono (Nat.le_succ _))⟩
    · cases h
  · split at h
    · split at h
      · obtain ⟨x, r, rfl, -, -, -, -, rfl, rfl⟩ := ai_newa_ok h
        exact ⟨Nat.le_succ _, Nat.le_add_right _ _, fun hw hs => ai_oks_c (fun j hj => by cases hj; exact Or.inl (Nat.lt_succ_self _)) ((ai_oks_t hs).mono (Nat.le_succ _))⟩
      · obtain ⟨x, r, rfl, -, -, -, -, rfl, rfl⟩ := ai_newa_ok h
        exact ⟨Nat.le_succ _, Nat.le_add_right _ _, fun hw hs => ai_oks_c (fun j hj => by cases hj; exact Or.inl (Nat.lt_succ_self _)) ((ai_oks_t hs).mono (Nat.le_succ _))⟩
      · cases h
    · cases h
  · split at h
    · obtain ⟨x, r, rfl, -, -, -, -, rfl, rfl⟩ := ai_newR_ok h
      exact ⟨Nat.le_succ _, Nat.le_add_right _ _, fun hw hs => ai_oks_c (fun j hj => by cases hj; exact Or.inl (Nat.lt_succ_self _)) ((ai_oks_t hs).mono (Nat.le_succ _))⟩
    · cases h
  · split at h
    · split at h
      · split at h
        · cases h
          exact ⟨Nat.le_refl _, Nat.le_refl _, fun hw hs => ai_oks_c ai_okI (ai_oks_t hs)⟩
        · cases h
      · cases h
    · cases h
  · split at h
    · cases h
      exact ⟨Nat.le_refl _, Nat.le_refl _, fun hw hs => ai_oks_c (fun j hj => by cases hj; exact Or.inr (Or.inr rfl)) hs⟩
    · cases h
  · split at h
    · obtain ⟨n, dp, sp, a, b, rfl, -, -, -, -, -, -, -, -, -, -, rfl⟩ := ai_cpy_ok h
      exact ⟨Nat.le_refl _, Nat.le_refl _, fun hw hs => ai_oks_t (ai_oks_t (ai_oks_t (ai_oks_t (ai_oks_t hs))))⟩
    · cases h
  · split at h
    · split at h
      · split at h
        · cases h
          exact ⟨Nat.le_refl _, Nat.le_refl _, fun hw hs => ai_oks_t hs⟩
        · cases h
      · cases h
    · cases h
  · cases h
section SIMO
variable {p : Program} {l : Launch} {e : Env} {R : Room} {s : State} {m : MethodId} {args : Array Value} {below : List Frame} {meth : Method} {c : Code} {H : Heap} {locs : List Loc} {cells slots : Nat} {Q : State → Prop}
variable {sz : Nat} {oL : Nat → Nat} {ox : Nat → Nat → Int32} {ob : Nat → Nat} {D : va_G} {ad : Nat → Nat} {tc : Nat → ClassId} {w w' : ai_W} {cc : ByteArray} {pc : Nat} {ls : Array Slot} {st st' : List Value} {y : MethodName}
theorem ai_M_W {ins : Instr} {len d : Nat} (hx : p.tables.exec = Jvm.exec) (hb : c.code = cc) (hml : c.maxLocals = ls.size) (hown : s.vm.findClass y.cls = some m.cls) (hnm : meth.name = y.name) (hts : ∀ w ∈ ai_tb, w.before args s = true) (hI : ai_I sz oL ox ob D ad tc w s H) (hS : va_S (fun q => sz ≤ q) s.heap H locs) (hs : ai_oks w.1 st) (hd : d ≤ R.frames) (hdl : 40 * d ≤ R.locals) (hdg : decode cc pc = .ok (ins, len)) (h : ai_M oL ox y ins len d st w = some (st', w')) (hc1 : cells + (w'.1 - w.1) ≤ R.cells) (hc2 : slots + (w'.2.1 - w.2.1) ≤ R.slots)
    (k : ∀ (H' : Heap) (locs' : List Loc) (ad' : Nat → Nat) (tc' : Nat → ClassId), (∀ i, i < w.1 → ad' i = ad i) → ai_I sz oL ox ob D ad' tc' w' s H' → va_S (fun q => sz ≤ q) s.heap H' locs' → W p l e R s m args below meth c H' locs' (cells + (w'.1 - w.1)) (slots + (w'.2.1 - w.2.1)) Q (F0 m (pc + len) ls (st'.map (ai_cv ad')))) : W p l e R s m args below meth c H locs cells slots Q (F0 m pc ls (st.map (ai_cv ad))) := by
  unfold ai_M at h
  split at h
  · split at h
    · rename_i h0
      subst h0
      obtain ⟨h1, h2⟩ := ai_keep_ok h
      cases h2
      simp only [Nat.sub_self, Nat.add_zero] at k
      exact ai_get_W hx hb hown hts hI hdg h1 (k _ _ _ _ (fun _ _ => rfl) hI hS)
    · cases h
  · split at h
    · rename_i h0
      subst h0
      have e : w'.1 = w.1 ∧ w'.2.1 = w.2.1 := by
        obtain ⟨i, q, v, rfl, hq, hi, hk, hmay, e1, e2, e3, -⟩ := ai_put_ok h
        exact ⟨e1, e2⟩
      simp only [e.1, e.2, Nat.sub_self, Nat.add_zero] at k
      exact ai_put_W hx hb hown hnm hts hI hS hdg h (fun H' locs' i1 i2 => k _ _ _ _ (fun _ _ => rfl) i1 i2)
    · cases h
  · split at h
    · rename_i h0
      subst h0
      obtain ⟨h1, h2⟩ := ai_keep_ok h
      cases h2
      simp only [Nat.sub_self, Nat.add_zero] at k
      exact ai_iald_W hx hb hI hS hdg h1 (k _ _ _ _ (fun _ _ => rfl) hI hS)
    · cases h
  · split at h
    · rename_i h0
      subst h0
      obtain ⟨h1, h2⟩ := ai_keep_ok h
      cases h2
      simp only [Nat.sub_self, Nat.add_zero] at k
      exact ai_zald_W hx hb hI hdg h1 (k _ _ _ _ (fun _ _ => rfl) hI hS)
    · cases h
  · split at h
    · rename_i h0
      subst h0
      obtain ⟨h1, h2⟩ := ai_keep_ok h
      cases h2
      simp only [Nat.sub_self, Nat.add_zero] at k
      exact ai_rald_W hx hb hI hdg h1 (k _ _ _ _ (fun _ _ => rfl) hI hS)
    · cases h
  · split at h
    · rename_i h0
      subst h0
      have e : w'.1 = w.1 ∧ w'.2.1 = w.2.1 := by
        obtain ⟨v, x, i, -, -, -, -, rfl⟩ := ai_ast_ok h
        exact ⟨rfl, rfl⟩
      simp only [e.1, e.2, Nat.sub_self, Nat.add_zero] at k
      exact ai_iast_W hx hb hI hS hdg h (fun H' locs' i1 i2 => k _ _ _ _ (fun _ _ => rfl) i1 i2)
    · cases h
  · split at h
    · rename_i h0
      subst h0
      have e : w'.1 = w.1 ∧ w'.2.1 = w.2.1 := by
        obtain ⟨v, x, i, -, -, -, -, rfl⟩ := ai_ast_ok h
        exact ⟨rfl, rfl⟩
      simp only [e.1, e.2, Nat.sub_self, Nat.add_zero] at k
      exact ai_zast_W hx hb hI hS hdg h (fun H' locs' i1 i2 => k _ _ _ _ (fun _ _ => rfl) i1 i2)
    · cases h
  · split at h
    · rename_i h0
      subst h0
      have e : w'.1 = w.1 ∧ w'.2.1 = w.2.1 := by
        obtain ⟨v, x, i, -, -, -, -, -, -, rfl⟩ := ai_astR_ok h
        exact ⟨rfl, rfl⟩
      simp only [e.1, e.2, Nat.sub_self, Nat.add_zero] at k
      exact ai_rast_W hx hb hI hS hdg h (fun H' locs' i1 i2 => k _ _ _ _ (fun _ _ => rfl) i1 i2)
    · cases h
  · split at h
    · rename_i h0
      subst h0
      exact ai_news_W hx hb hown hts hI hS hs hdg h hc1 hc2 k
    · cases h
  · split at h
    · rename_i h0
      subst h0
      split at h
      · exact ai_newa_W (kd := 0) (ty := .int) (by decide) rfl rfl (by decide) rfl hx hb hts hI hS hs hdg h hc1 hc2 k
      · exact ai_newa_W (kd := 1) (ty := .boolean) (by decide) rfl rfl (by decide) rfl hx hb hts hI hS hs hdg h hc1 hc2 k
      · cases h
    · cases h
  · split at h
    · rename_i h0
      subst h0
      exact ai_newR_W hx hb hown hts hI hS hs hdg h hc1 hc2 k
    · cases h
  · split at h
    · rename_i h0
      subst h0
      split at h
      · rename_i i r
        split at h
        · rename_i hi
          subst hi
          cases h
          simp only [Nat.sub_self, Nat.add_zero] at k
          obtain ⟨a1, a2, a3⟩ := hI.2.2.2.2.1.1 0 (by decide)
          have e : ai_cv ad (.ref ai_O) = .ref (ob 0) := by simp only [ai_cv]; rw [show ad ai_O = ob 0 from hI.2.2.2.2.2.2.2 0 (by decide)]
          rw [List.map_cons, e]
          exact va_slen hx hb a1 a2 a3 hS hdg (k _ _ _ _ (fun _ _ => rfl) hI hS)
        · cases h
      · cases h
    · cases h
  · split at h
    · rename_i h0
      obtain ⟨rfl, hf⟩ := h0
      cases h
      simp only [Nat.sub_self, Nat.add_zero] at k
      have e : ai_cv ad (.ref (ai_O + 1)) = .ref (ob 1) := by simp only [ai_cv]; rw [hI.2.2.2.2.2.2.2 1 (by decide)]
      have kk := k _ _ _ _ (fun _ _ => rfl) hI hS
      rw [List.map_cons, e] at kk
      exact va_gets hx hb hI.2.2.2.2.1.2 hS hown (hts _ (ai_fl_mem hf)) (fun _ z => z) hdg kk
    · cases h
  · split at h
    · rename_i h0
      obtain ⟨rfl, hd0, g1, g2, g3, g4⟩ := h0
      have e : w'.1 = w.1 ∧ w'.2.1 = w.2.1 := by
        obtain ⟨n, dp, sp, a, b, -, -, -, -, -, -, -, -, -, -, -, rfl⟩ := ai_cpy_ok h
        exact ⟨rfl, rfl⟩
      simp only [e.1, e.2, Nat.sub_self, Nat.add_zero] at k
      exact ai_cpy_W (nL := 0) hd0 hd hdl hml hx hb hown hts g1 g2 g3 g4 hI hS hdg h (fun H' locs' i1 i2 => k _ _ _ _ (fun _ _ => rfl) i1 i2)
    · cases h
  · split at h
    · rename_i h0
      obtain ⟨rfl, hd0, g1, g2, g3⟩ := h0
      split at h
      · split at h
        · rename_i i r hsum
          cases h
          simp only [Nat.sub_self, Nat.add_zero] at k
          have hr := lv_room (m := m) (pc := pc) (ls := ls) (rest := (Value.ref (ad i) :: st'.map (ai_cv ad))) (ai_sum (ad := ad) hsum)
          exact W.objInit (g := F0 m pc ls (Value.ref (ad i) :: st'.map (ai_cv ad))) hx hb hown (hts _ (ai_mlk_mem g1)) (hts _ g2) (hts _ g3) rfl hml.symm rfl hdg (by omega) (by omega) (k _ _ _ _ (fun _ _ => rfl) hI hS)
        · cases h
      · cases h
    · cases h
  · cases h
end SIMO
end
section
/-! WHAT THE SMALL MACHINE ANSWERS, THE BIG ONE DOES -/
theorem ai_run_cases {oL : Nat → Nat} {ox : Nat → Nat → Int32} {n d pc : Nat} {y : MethodName × ByteArray × Nat × Option FieldType} {L st : List Value} {w w' : ai_W} {r : Option Value} (h : ai_run oL ox (n + 1) d y pc L st w = some (r, w')) : ∃ ins len, decode y.2.1 pc = .ok (ins, len) ∧
    ((∃ st', ai_A y.1.cls ins len L st = some st' ∧ ai_run oL ox n d y (pc + len) L st' w = some (r, w'))
    ∨ (∃ L' st', ai_B ins len L st = some (L', st') ∧ ai_run oL ox n d y (pc + len) L' st' w = some (r, w'))
    ∨ (∃ pc' st', ai_J ins len pc st = some (pc', st') ∧ ai_run oL ox n d y pc' L st' w = some (r, w'))
    ∨ (∃ st' w1, ai_M oL ox y.1 ins len d st w = some (st', w1) ∧ ai_run oL ox n d y (pc + len) L st' w1 = some (r, w'))
    ∨ (ai_R y.2.2.2 ins len st = some r ∧ w' = w)
    ∨ (∃ z As rest d' v w1, ai_C y.1 ins len st w = some (z, As, rest) ∧ d = d' + 1 ∧ ai_run oL ox n d' z 0 (ai_ent z.2.2.1 As) [] w = some (v, w1) ∧ ai_run oL ox n (d' + 1) y (pc + 3) L (v.toList ++ rest) w1 = some (r, w'))) := by
  rw [ai_run] at h
  split at h
  · cases h
  · rename_i ins len hd
    refine ⟨ins, len, hd, ?_⟩
    split at h
    · exact Or.inl ⟨_, by assumption, h⟩
    · split at h
      · exact Or.inr (Or.inl ⟨_, _, by assumption, h⟩)
      · split at h
        · exact Or.inr (Or.inr (Or.inl ⟨_, _, by assumption, h⟩))
        · split at h
          · exact Or.inr (Or.inr (Or.inr (Or.inl ⟨_, _, by assumption, h⟩)))
          · split at h
            · rename_i hr
              cases h
              exact Or.inr (Or.inr (Or.inr (Or.inr (Or.inl ⟨hr, rfl⟩))))
            · split at h
              · rename_i z As rest hC
                split at h
                · cases h
                · split at h
                  · rename_i v w1 hv
                    exact Or.inr (Or.inr (Or.inr (Or.inr (Or.inr ⟨z, As, rest, _, v, w1, hC, rfl, hv, h⟩))))
                  · cases h
              · cases h
def ai_pl (r : Option Value) : Prop := ∀ v ∈ r.toList, ∀ i, v ≠ .ref i
theorem ai_R_ok {ret : Option FieldType} {ins : Instr} {len : Nat} {st : List Value} {r : Option Value} (h : ai_R ret ins len st = some r) : len = 1 ∧ ((∃ v, ins = .ireturn ∧ st = [.int v] ∧ r = some (.int v) ∧ ∃ ty, ret = some ty ∧ narrow ty (.int v) = .int v) ∨ (∃ v, ins = .lreturn ∧ st = [.long v] ∧ r = some (.long v) ∧ ret = some .long) ∨ (ins = .return_ ∧ st = [] ∧ r = none ∧ ret = none)) := by
  unfold ai_R at h
  split at h
  · split at h
    · rename_i v
      split at h
      · rename_i hc
        cases h
        refine ⟨hc.1, Or.inl ⟨v, rfl, rfl, rfl, ?_⟩⟩
        rcases hc.2 with h1 | h1
        · exact ⟨_, h1, rfl⟩
        · exact ⟨_, h1.1, h1.2⟩
      · cases h
    · cases h
  · split at h
    · rename_i v
      split at h
      · rename_i hc
        cases h
        exact ⟨hc.1, Or.inr (Or.inl ⟨v, rfl, rfl, rfl, hc.2⟩)⟩
      · cases h
    · cases h
  · split at h
    · split at h
      · rename_i hc
        cases h
        exact ⟨hc.1, Or.inr (Or.inr ⟨rfl, rfl, rfl, hc.2⟩)⟩
      · cases h
    · cases h
  · cases h
theorem ai_R_pl {ret : Option FieldType} {ins : Instr} {len : Nat} {st : List Value} {r : Option Value} (h : ai_R ret ins len st = some r) : ai_pl r := by
  obtain ⟨-, h | h | h⟩ := ai_R_ok h
  · obtain ⟨v, -, -, rfl, -⟩ := h
    intro x hx i hi
    simp at hx
    subst hx
    cases hi
  · obtain ⟨v, -, -, rfl, -⟩ := h
    intro x hx i hi
    simp at hx
    subst hx
    cases hi
  · obtain ⟨-, -, rfl, -⟩ := h
    intro x hx
    simp at hx
theorem ai_run_mono {oL : Nat → Nat} {ox : Nat → Nat → Int32} : ∀ (n d pc : Nat) (y : MethodName × ByteArray × Nat × Option FieldType) (L st : List Value) (w w' : ai_W) (r : Option Value), ai_run oL ox n d y pc L st w = some (r, w') → w.1 ≤ w'.1 ∧ w.2.1 ≤ w'.2.1 ∧ ai_pl r := by
  intro n
  induction n with
  | zero => intro d pc y L st w w' r h; rw [ai_run] at h; cases h
  | succ n ih =>
    intro d pc y L st w w' r h
    obtain ⟨ins, len, hd, h | h | h | h | h | h⟩ := ai_run_cases h
    · obtain ⟨st', -, h⟩ := h
      exact ih _ _ _ _ _ _ _ _ h
    · obtain ⟨L', st', -, h⟩ := h
      exact ih _ _ _ _ _ _ _ _ h
    · obtain ⟨pc', st', -, h⟩ := h
      exact ih _ _ _ _ _ _ _ _ h
    · obtain ⟨st', w1, h1, h⟩ := h
      obtain ⟨a1, a2, -⟩ := ai_M_ok h1
      obtain ⟨b1, b2, b3⟩ := ih _ _ _ _ _ _ _ _ h
      exact ⟨Nat.le_trans a1 b1, Nat.le_trans a2 b2, b3⟩
    · obtain ⟨h1, rfl⟩ := h
      exact ⟨Nat.le_refl _, Nat.le_refl _, ai_R_pl h1⟩
    · obtain ⟨z, As, rest, d', v, w1, -, -, h1, h⟩ := h
      obtain ⟨a1, a2, -⟩ := ih _ _ _ _ _ _ _ _ h1
      obtain ⟨b1, b2, b3⟩ := ih _ _ _ _ _ _ _ _ h
      exact ⟨Nat.le_trans a1 b1, Nat.le_trans a2 b2, b3⟩
-- a method's entry
theorem ai_ent_len {n : Nat} {As : List Value} (h : (lg_sl As).length ≤ n) : (ai_ent n As).length = n := by
  have e : (As.flatMap fun v => if v.category = 2 then [v, Value.null] else [v]).length = (lg_sl As).length := by
    clear h
    induction As with
    | nil => rfl
    | cons a As ih =>
      unfold lg_sl at ih ⊢
      rw [List.flatMap_cons, List.flatMap_cons, List.length_append, List.length_append, ih]
      congr 1
      split <;> rfl
  unfold ai_ent
  rw [List.length_append, e, List.length_replicate]
  omega
theorem ai_ent_sl {ad : Nat → Nat} : ∀ (As : List Value) (i : Nat) (v : Value), (As.flatMap fun v => if v.category = 2 then [v, Value.null] else [v])[i]? = some v → v ≠ .null → (lg_sl (As.map (ai_cv ad)))[i]? = some (.val (ai_cv ad v)) := by
  intro As
  induction As with
  | nil => intro i v h; simp at h
  | cons a As ih =>
    intro i v h hn
    unfold lg_sl at ih ⊢
    rw [List.flatMap_cons] at h
    rw [List.map_cons, List.flatMap_cons, ai_cat]
    by_cases hc : a.category = 2
    · rw [if_pos hc] at h ⊢
      match i, h with
      | 0, h => simp at h; subst h; rfl
      | 1, h => simp at h; exact absurd h.symm hn
      | i + 2, h => exact ih i v h hn
    · rw [if_neg hc] at h ⊢
      match i, h with
      | 0, h => simp at h; subst h; rfl
      | i + 1, h => exact ih i v h hn
theorem ai_sl_len (ad : Nat → Nat) (As : List Value) : (lg_sl (As.map (ai_cv ad))).length = (lg_sl As).length := by
  induction As with
  | nil => rfl
  | cons a As ih =>
    unfold lg_sl at ih ⊢
    rw [List.map_cons, List.flatMap_cons, List.flatMap_cons, List.length_append, List.length_append, ih, ai_cat]
    congr 1
    split <;> rfl
theorem ai_ent_L {ad : Nat → Nat} {n : Nat} {As : List Value} (h : (lg_sl As).length ≤ n) : ai_L ad n (ai_ent n As) ((lg_sl (As.map (ai_cv ad)) ++ List.replicate (n - (lg_sl (As.map (ai_cv ad))).length) Slot.unset).toArray) := by
  have hl := lv_entry (As.map (ai_cv ad)) (n := n) (by rw [ai_sl_len]; exact h)
  refine ⟨ai_ent_len h, hl.1, hl.2.1, fun i v hi hv => ?_⟩
  rw [List.getElem?_toArray]
  unfold ai_ent at hi
  by_cases hlt : i < (As.flatMap fun v => if v.category = 2 then [v, Value.null] else [v]).length
  · rw [List.getElem?_append_left hlt] at hi
    have := ai_ent_sl (ad := ad) As i v hi hv
    rw [List.getElem?_append_left (List.getElem?_eq_some_iff.mp this).1]
    exact this
  · rw [List.getElem?_append_right (by omega)] at hi
    have := List.mem_of_getElem? hi
    rw [List.mem_replicate] at this
    exact absurd this.2 hv
theorem ai_ent_oks {n k : Nat} {As : List Value} (h : ai_oks k As) : ai_oks k (ai_ent n As) := by
  intro v hv
  unfold ai_ent at hv
  rcases List.mem_append.mp hv with h1 | h1
  · obtain ⟨a, ha, hb⟩ := List.mem_flatMap.mp h1
    split at hb
    · simp at hb
      rcases hb with rfl | rfl
      · exact h _ ha
      · exact ai_okN
    · simp at hb
      subst hb
      exact h _ ha
  · rw [(List.mem_replicate.mp h1).2]
    exact ai_okN
-- calls
theorem ai_pop_ok {n : Nat} {st As rest : List Value} (h : ai_pop n st = some (As, rest)) : st = As.reverse ++ rest ∧ As.length = n ∧ (rest.map fun v => v.category).sum ≤ 8 := by
  unfold ai_pop at h
  split at h
  · rename_i hc
    cases h
    refine ⟨by rw [List.reverse_reverse, List.take_append_drop], ?_, hc.2⟩
    rw [List.length_reverse, List.length_take]
    omega
  · cases h
theorem ai_popV_ok {n b : Nat} {st As rest : List Value} (h : ai_popV n st = some (b, As, rest)) : st = As.reverse ++ .ref b :: rest ∧ As.length = n ∧ (rest.map fun v => v.category).sum ≤ 8 := by
  unfold ai_popV at h
  split at h
  · rename_i As' b' rest' hp
    cases h
    obtain ⟨h1, h2, h3⟩ := ai_pop_ok hp
    refine ⟨h1, h2, ?_⟩
    simp only [List.map_cons, List.sum_cons] at h3
    omega
  · cases h
theorem ai_fine_ok {z : MethodName} {n : Nat} {mi : ByteArray × Nat × Option FieldType} (h : ai_fine z n mi = true) : z.cls ≠ "java/lang/invoke/MethodHandle" ∧ z.cls ≠ "java/lang/invoke/VarHandle" ∧ (parseMethodDescriptor z.desc).map (fun d => d.parameters.length) = some n ∧ Cond.initialized z.cls ∈ ai_tb ∧ plainName z.cls = true ∧ mi.2.1 ≤ 20 := of_decide_eq_true h
theorem ai_cV_ok {own : String} {idx n : Nat} {z : MethodName} {mi : ByteArray × Nat × Option FieldType} (h : ai_cV own idx = some (z, n, mi)) : ai_mlk own idx = some z ∧ ai_code z = some mi ∧ ai_fine z n mi = true ∧ Cond.instanceMethod z ∈ ai_tb ∧ Cond.selects z.cls z z ∈ ai_tb := by
  unfold ai_cV at h
  split at h
  · rename_i z' hz
    split at h
    · rename_i mi' hm
      split at h
      · rename_i hc
        cases h
        exact ⟨hz, hm, hc⟩
      · cases h
    · cases h
  · cases h
theorem ai_cS_ok {own : String} {idx n : Nat} {z : MethodName} {mi : ByteArray × Nat × Option FieldType} (h : ai_cS own idx = some (z, n, mi)) : ai_mlk own idx = some z ∧ ai_code z = some mi ∧ ai_fine z n mi = true ∧ Cond.static z ∈ ai_tb := by
  unfold ai_cS at h
  split at h
  · rename_i z' hz
    split at h
    · rename_i mi' hm
      split at h
      · rename_i hc
        cases h
        exact ⟨hz, hm, hc⟩
      · cases h
    · cases h
  · cases h
theorem ai_cI_ok {own : String} {idx n : Nat} {z : MethodName} {mi : ByteArray × Nat × Option FieldType} (h : ai_cI own idx = some (z, n, mi)) : ai_mlk own idx = some z ∧ ai_code z = some mi ∧ ai_fine z n mi = true ∧ z.name = "<init>" ∧ Cond.instanceMethod z ∈ ai_tb ∧ mi.2.2 = none := by
  unfold ai_cI at h
  split at h
  · rename_i z' hz
    split at h
    · rename_i mi' hm
      split at h
      · rename_i hc
        cases h
        exact ⟨hz, hm, hc⟩
      · cases h
    · cases h
  · cases h
theorem ai_cN_ok {own : String} {idx n : Nat} {z : MethodName} {mi : ByteArray × Nat × Option FieldType} (h : ai_cN own idx = some (z, n, mi)) : (∃ host, ai_nlk own idx = some (z, host)) ∧ ai_code z = some mi ∧ ai_fine z n mi = true ∧ z.name = "<init>" ∧ Cond.instanceMethod z ∈ ai_tb ∧ mi.2.2 = none := by
  unfold ai_cN at h
  split at h
  · rename_i z' hz
    split at h
    · rename_i mi' hm
      split at h
      · rename_i hc
        cases h
        exact ⟨⟨_, hz⟩, hm, hc⟩
      · cases h
    · cases h
  · cases h
/-- what a call leaves -/
def ai_Qc (sz : Nat) (oL : Nat → Nat) (ox : Nat → Nat → Int32) (ob : Nat → Nat) (D : va_G) (ad : Nat → Nat) (w : ai_W) (v : Option Value) (w' : ai_W) : Array Value → State → Outcome → State → Prop := fun _ st oc t => (∃ u : (Nat → Nat) × (Nat → ClassId), oc = .returned v ∧ (∀ i, i < w.1 → u.1 i = ad i) ∧ ai_I sz oL ox ob D u.1 u.2 w' t t.heap) ∧ va_F (fun q => sz ≤ q) st t
abbrev ai_ws (z : MethodName × ByteArray × Nat × Option FieldType) : List Cond := Cond.code z.1 z.2.1 z.2.2.1 z.2.2.2 :: ai_tb
abbrev ai_rm (d : Nat) (w w' : ai_W) : Room := { frames := d, cells := w'.1 - w.1, slots := w'.2.1 - w.2.1, locals := 40 * d }
section SIMC
variable {p : Program} {l : Launch} {e : Env} {R : Room} {s : State} {m : MethodId} {args : Array Value} {below : List Frame} {meth : Method} {c : Code} {H : Heap} {locs : List Loc} {cells slots : Nat} {Q : State → Prop}
variable {sz : Nat} {oL : Nat → Nat} {ox : Nat → Nat → Int32} {ob : Nat → Nat} {D : va_G} {ad : Nat → Nat} {tc : Nat → ClassId} {w w' : ai_W} {cc : ByteArray} {pc : Nat} {ls : Array Slot} {st st' : List Value}
theorem ai_call {a : Array Value} {v : Option Value} {mc ms : Nat} {st0 rest : List Value} (hI : ai_I sz oL ox ob D ad tc w s H) (hr : va_Run p l e R s m args below meth c H locs cells slots mc ms (F0 m pc ls st0) rest (ai_Qc sz oL ox ob D ad w v w' a) (fun q => sz ≤ q)) (hS : va_S (fun q => sz ≤ q) s.heap H locs)
    (kk : ∀ (ad' : Nat → Nat) (tc' : Nat → ClassId) (H1 : Heap) (locs1 : List Loc), (∀ i, i < w.1 → ad' i = ad i) → ai_I sz oL ox ob D ad' tc' w' s H1 → va_S (fun q => sz ≤ q) s.heap H1 locs1 → W p l e R s m args below meth c H1 locs1 (cells + mc) (slots + ms) Q (F0 m (pc + 3) ls (v.toList ++ rest))) : W p l e R s m args below meth c H locs cells slots Q (F0 m pc ls st0) := by
  intro T hT X
  obtain ⟨v', st₀, t, T', L, h0, X', hL, e1, e2, ⟨⟨u, hv, hu, hI'⟩, hz, hk⟩, st⟩ := hr T hT X
  cases hv
  rw [h0] at hz hk
  obtain ⟨t2, a1, b1⟩ := kk u.1 u.2 T'.heap (locs ++ L) hu (by rw [e1]; exact hI.back hI' (by rw [← e2]; exact X'.warmed.alike))
    ⟨Nat.le_trans hS.1 (by rw [e1]; exact hz), fun q h1 h2 => by rw [e1, hk q (Nat.lt_of_lt_of_le h1 hS.1) h2]; exact hS.2.1 q h1 h2, fun q hq => by
      rcases List.mem_append.mp hq with h | h
      · exact hS.2.2 q h
      · exact hL q h⟩ T' rfl X'
  exact ⟨t2, st t2 a1, b1⟩
theorem ai_ws_in {z : MethodName} {mi : ByteArray × Nat × Option FieldType} (h : ai_code z = some mi) : ∀ x ∈ ai_ws (z, mi), x ∈ ai_tb := fun x hx => by
  rcases List.mem_cons.mp hx with rfl | h1
  · exact ai_code_mem h
  · exact h1
/-- the four kinds of call, over the contract of what is called -/
theorem ai_C_run {y : MethodName} {z : MethodName × ByteArray × Nat × Option FieldType} {ins : Instr} {len d nL : Nat} {As rest : List Value} {v : Option Value} (hx : p.tables.exec = Jvm.exec) (hb : c.code = cc) (hml : c.maxLocals = nL) (hls : ls.size = nL) (hown : s.vm.findClass y.cls = some m.cls) (hts : ∀ w ∈ ai_tb, w.before args s = true) (hI : ai_I sz oL ox ob D ad tc w s H) (hS : va_S (fun q => sz ≤ q) s.heap H locs) (hd : d + 1 ≤ R.frames) (hdl : 40 * (d + 1) ≤ R.locals) (hdg : decode cc pc = .ok (ins, len)) (h : ai_C y ins len st w = some (z, As, rest)) (hc1 : cells + (w'.1 - w.1) ≤ R.cells) (hc2 : slots + (w'.2.1 - w.2.1) ≤ R.slots)
    (hM : ai_code z.1 = some z.2 → plainName z.1.cls = true → (lg_sl As).length ≤ z.2.2.1 → ai_oks w.1 As → Met l z.1 (ai_ws z) (ai_rm d w w') (va_Pc (As.map (ai_cv ad)) (fun U => ai_I sz oL ox ob D ad tc w U U.heap)) (ai_Qc sz oL ox ob D ad w v w') (w'.1 - w.1) (w'.2.1 - w.2.1) (fun q => sz ≤ q)) (hs : ai_oks w.1 st) :
    ai_oks w.1 rest ∧ va_Run p l e R s m args below meth c H locs cells slots (w'.1 - w.1) (w'.2.1 - w.2.1) (F0 m pc ls (st.map (ai_cv ad))) (rest.map (ai_cv ad)) (ai_Qc sz oL ox ob D ad w v w' (As.map (ai_cv ad)).toArray) (fun q => sz ≤ q) := by
  have hblind : ∀ AA : List Value, FrameBlind (va_Pc AA (fun U => ai_I sz oL ox ob D ad tc w U U.heap)) := fun AA a U g mk q => ⟨q.1, q.2.blind⟩
  have hpre : ∀ (AA : List Value) (U : State), U.heap = H → s.WarmedH U.vm → va_Pc AA (fun U => ai_I sz oL ox ob D ad tc w U U.heap) AA.toArray U := fun AA U hU hW => ⟨rfl, hI.call hS hU hW⟩
  have hsplit : ∀ {A0 r0 : List Value} {b : Nat}, st = A0.reverse ++ .ref b :: r0 → ai_oks w.1 (.ref b :: A0) ∧ ai_oks w.1 r0 ∧ st.map (ai_cv ad) = (A0.map (ai_cv ad)).reverse ++ .ref (ad b) :: r0.map (ai_cv ad) := by
    intro A0 r0 b he
    refine ⟨fun x hx => hs x ?_, fun x hx => hs x ?_, ?_⟩
    · rw [he]
      rcases List.mem_cons.mp hx with rfl | h1
      · simp
      · simp [h1]
    · rw [he]; simp [hx]
    · rw [he, List.map_append, List.map_reverse]; rfl
  unfold ai_C at h
  split at h
  · split at h
    · rename_i i h0
      subst h0
      split at h
      · rename_i z' n mi hcV
        split at h
        · rename_i b A0 r0 hpop
          split at h
          · rename_i hc
            cases h
            obtain ⟨k1, k2, k3⟩ := ai_popV_ok hpop
            obtain ⟨g1, g2, g3, g4, g5⟩ := ai_cV_ok hcV
            obtain ⟨f1, f2, f3, f4, f5, f6⟩ := ai_fine_ok g3
            obtain ⟨s1, s2, s3⟩ := hsplit k1
            refine ⟨s2, ?_⟩
            have hMz := hM g2 f5 hc.2.2.2 s1
            rw [s3]
            obtain ⟨q, hq1, hq2⟩ := Option.map_eq_some_iff.mp hc.2.1
            obtain ⟨h1, h2, h3, h4, h5, h6, h7, h8⟩ := hI
            have hrecv := va_recv (a := ad b) (q0 := b) (ci := (w.2.2.1 b).1 - 3) h2.1 h3 hq1 (by rw [ai_cells_at hc.1, ai_en_o (c := (w.2.2.1 b).1 - 3) (by omega)])
            rw [hq2] at hrecv
            refine va_runV (As := A0.map (ai_cv ad)) (b := ad b) ⟨hx, hb, hml, hown, hts⟩ hMz (cwV n hts (ai_tb_in (fun x hx => ?_) (fun _ z => z)) rfl rfl rfl ⟨rfl, f1, f2, f3⟩ ⟨hd, ?_⟩) ⟨hblind _, hrecv, hpre _⟩ rfl (by rw [List.length_map]; exact k2) hls rfl (lv_room (ai_sum k3)) hdg ⟨hc1, hc2⟩
            · unfold wsV at hx
              simp only [List.cons_append, List.nil_append, List.mem_cons] at hx
              rcases hx with rfl | rfl | rfl | rfl | hx
              · exact ai_mlk_mem g1
              · exact g4
              · exact g5
              · exact f4
              · exact ai_ws_in g2 x (List.mem_cons.mpr hx)
            · show 8 + (mi.2.1 + 11) + 40 * d ≤ R.locals
              omega
          · cases h
        · cases h
      · cases h
    · cases h
  · split at h
    · rename_i i h0
      subst h0
      split at h
      · rename_i z' n mi hcS
        split at h
        · rename_i A0 r0 hpop
          split at h
          · rename_i hc
            cases h
            obtain ⟨k1, k2, k3⟩ := ai_pop_ok hpop
            obtain ⟨g1, g2, g3, g4⟩ := ai_cS_ok hcS
            obtain ⟨f1, f2, f3, f4, f5, f6⟩ := ai_fine_ok g3
            have s1 : ai_oks w.1 As := fun x hx => hs x (by rw [k1]; simp [hx])
            have s2 : ai_oks w.1 rest := fun x hx => hs x (by rw [k1]; simp [hx])
            have s3 : st.map (ai_cv ad) = (As.map (ai_cv ad)).reverse ++ rest.map (ai_cv ad) := by rw [k1, List.map_append, List.map_reverse]
            refine ⟨s2, ?_⟩
            have hMz := hM g2 f5 hc s1
            rw [s3]
            refine va_runS (As := As.map (ai_cv ad)) ⟨hx, hb, hml, hown, hts⟩ hMz (va_cwS n hts (ai_tb_in (fun x hx => ?_) (fun _ z => z)) rfl rfl rfl ⟨f1, f2, f3⟩ ⟨hd, ?_⟩) ⟨hblind _, hpre _⟩ rfl (by rw [List.length_map]; exact k2) hls rfl (lv_room (ai_sum k3)) hdg ⟨hc1, hc2⟩
            · unfold va_wsS at hx
              simp only [List.cons_append, List.nil_append, List.mem_cons] at hx
              rcases hx with rfl | rfl | rfl | hx
              · exact ai_mlk_mem g1
              · exact g4
              · exact f4
              · exact ai_ws_in g2 x (List.mem_cons.mpr hx)
            · show 8 + (mi.2.1 + 11) + 40 * d ≤ R.locals
              omega
          · cases h
        · cases h
      · cases h
    · cases h
  · split at h
    · rename_i i h0
      subst h0
      split at h
      · rename_i z' n mi hcI
        split at h
        · rename_i b A0 r0 hpop
          split at h
          · rename_i hc
            cases h
            obtain ⟨k1, k2, k3⟩ := ai_popV_ok hpop
            obtain ⟨g1, g2, g3, g4, g5, g6⟩ := ai_cI_ok hcI
            obtain ⟨f1, f2, f3, f4, f5, f6⟩ := ai_fine_ok g3
            obtain ⟨s1, s2, s3⟩ := hsplit k1
            refine ⟨s2, ?_⟩
            have hMz := hM g2 f5 hc s1
            rw [s3]
            obtain ⟨mb, mn, mr⟩ := mi
            dsimp only at g6
            subst g6
            refine va_runI (As := A0.map (ai_cv ad)) (b := ad b) ⟨hx, hb, hml, hown, hts⟩ hMz (cwI n hts (ai_tb_in (ai_ws_in g2) (fun _ z => z)) rfl rfl rfl (hts _ f4) (hts _ (ai_mlk_mem g1)) (hts _ g5) g4 ⟨f1, f2, f3⟩ ⟨hd, ?_⟩) ⟨hblind _, hpre _⟩ rfl (by rw [List.length_map]; exact k2) hls rfl (lv_room (ai_sum k3)) hdg ⟨hc1, hc2⟩
            show 8 + (mn + 11) + 40 * d ≤ R.locals
            have : mn ≤ 20 := f6
            omega
          · cases h
        · cases h
      · split at h
        · rename_i z' n mi hcN
          split at h
          · rename_i b A0 r0 hpop
            split at h
            · rename_i hc
              cases h
              obtain ⟨k1, k2, k3⟩ := ai_popV_ok hpop
              obtain ⟨⟨host, g1⟩, g2, g3, g4, g5, g6⟩ := ai_cN_ok hcN
              obtain ⟨f1, f2, f3, f4, f5, f6⟩ := ai_fine_ok g3
              obtain ⟨s1, s2, s3⟩ := hsplit k1
              refine ⟨s2, ?_⟩
              have hMz := hM g2 f5 hc s1
              rw [s3]
              obtain ⟨mb, mn, mr⟩ := mi
              dsimp only at g6
              subst g6
              refine va_runIN (As := A0.map (ai_cv ad)) (b := ad b) ⟨hx, hb, hml, hown, hts⟩ hMz ⟨va_cnB n hts (ai_tb_in (ai_ws_in g2) (fun _ z => z)) rfl rfl rfl (hI.2.2.2.2.2.1.2 _ _ _ _ (ai_nlk_mem g1)) (hts _ f4) ⟨f1, f2, f3⟩ ⟨hd, ?_⟩, g4, hts _ g5⟩ ⟨hblind _, hpre _⟩ rfl (by rw [List.length_map]; exact k2) hls rfl (lv_room (ai_sum k3)) hdg ⟨hc1, hc2⟩
              show 8 + (mn + 11) + 40 * d ≤ R.locals
              have : mn ≤ 20 := f6
              omega
            · cases h
          · cases h
        · cases h
    · cases h
  · cases h
end SIMC
end
section
/-! THE SIMULATION: by the small machine's fuel -/
theorem ai_C_len {y : MethodName} {ins : Instr} {len : Nat} {st : List Value} {w : ai_W} {q : (MethodName × ByteArray × Nat × Option FieldType) × List Value × List Value} (h : ai_C y ins len st w = some q) : len = 3 := by
  unfold ai_C at h
  split at h <;> first | (split at h; (assumption); (cases h)) | cases h
set_option maxHeartbeats 4000000 in
theorem ai_sim (l : Launch) (sz : Nat) (oL : Nat → Nat) (ox : Nat → Nat → Int32) (ob : Nat → Nat) (D : va_G) : ∀ (n d : Nat) (y : MethodName × ByteArray × Nat × Option FieldType) (pc : Nat) (L st : List Value) (w w' : ai_W) (r : Option Value), ai_run oL ox n d y pc L st w = some (r, w') →
    ∀ {p : Program} {e : Env} {R : Room} {s : State} {m : MethodId} {args : Array Value} {below : List Frame} {meth : Method} {c : Code} {H : Heap} {locs : List Loc} {cells slots : Nat} {Q : State → Prop} {ad : Nat → Nat} {tc : Nat → ClassId} {ls : Array Slot},
    p.tables.exec = Jvm.exec → c.code = y.2.1 → c.maxLocals = y.2.2.1 → s.vm.findClass y.1.cls = some m.cls → meth.name = y.1.name → (∀ w ∈ ai_tb, w.before args s = true) →
    ai_I sz oL ox ob D ad tc w s H → va_S (fun q => sz ≤ q) s.heap H locs → ai_L ad y.2.2.1 L ls → ai_oks w.1 L → ai_oks w.1 st → d ≤ R.frames → 40 * d ≤ R.locals → cells + (w'.1 - w.1) ≤ R.cells → slots + (w'.2.1 - w.2.1) ≤ R.slots →
    (∀ (pc' : Nat) (ls' : Array Slot) (H' : Heap) (locs' : List Loc) (ad' : Nat → Nat) (tc' : Nat → ClassId) (ins : Instr) (len : Nat) (st' : List Value), decode y.2.1 pc' = .ok (ins, len) → ai_R y.2.2.2 ins len st' = some r → (∀ i, i < w.1 → ad' i = ad i) → ai_I sz oL ox ob D ad' tc' w' s H' → va_S (fun q => sz ≤ q) s.heap H' locs' → W p l e R s m args below meth c H' locs' (cells + (w'.1 - w.1)) (slots + (w'.2.1 - w.2.1)) Q (F0 m pc' ls' (st'.map (ai_cv ad')))) →
    W p l e R s m args below meth c H locs cells slots Q (F0 m pc ls (st.map (ai_cv ad))) := by
  intro n
  induction n with
  | zero => intro d y pc L st w w' r h; rw [ai_run] at h; cases h
  | succ n ih =>
    intro d y pc L st w w' r h p e R s m args below meth c H locs cells slots Q ad tc ls hx hb hml hown hnm hts hI hS hl hoL hos hd hdl hc1 hc2 kr
    have hml' : c.maxLocals = ls.size := hml.trans hl.2.1.symm
    obtain ⟨ins, len, hdg, h | h | h | h | h | h⟩ := ai_run_cases h
    · obtain ⟨st', hA, h⟩ := h
      exact ai_A_W hx hb hown hts hdg hA hl (ih _ _ _ _ _ _ _ _ h hx hb hml hown hnm hts hI hS hl hoL (ai_A_ok hA hoL hos) hd hdl hc1 hc2 kr)
    · obtain ⟨L', st', hB, h⟩ := h
      obtain ⟨o1, o2⟩ := ai_B_ok hB hoL hos
      exact ai_B_W hx hb hdg hB hl (fun ls' hl' => ih _ _ _ _ _ _ _ _ h hx hb hml hown hnm hts hI hS hl' o1 o2 hd hdl hc1 hc2 kr)
    · obtain ⟨pc', st', hJ, h⟩ := h
      exact ai_J_W hx hb hdg hJ (ih _ _ _ _ _ _ _ _ h hx hb hml hown hnm hts hI hS hl hoL (ai_J_ok hJ hos) hd hdl hc1 hc2 kr)
    · obtain ⟨st', w1, hM, h⟩ := h
      obtain ⟨m1, m2, m3⟩ := ai_M_ok hM
      obtain ⟨b1, b2, -⟩ := ai_run_mono _ _ _ _ _ _ _ _ _ h
      refine ai_M_W hx hb hml' hown hnm hts hI hS hos hd hdl hdg hM (by omega) (by omega) (fun H' locs' ad' tc' ha hI' hS' => ?_)
      have ho : ∀ k, k < 2 → ad' (ai_O + k) = ad (ai_O + k) := fun k hk => by rw [hI.2.2.2.2.2.2.2 k hk, hI'.2.2.2.2.2.2.2 k hk]
      refine ih _ _ _ _ _ _ _ _ h hx hb hml hown hnm hts hI' hS' (hl.to hoL ha ho) (hoL.mono m1) (m3 hI.2.2.2.2.2.2.1 hos) hd hdl (by omega) (by omega) (fun pc' ls' H2 locs2 ad2 tc2 ins2 len2 st2 d2 r2 ha2 hI2 hS2 => ?_)
      have e1 : cells + (w1.1 - w.1) + (w'.1 - w1.1) = cells + (w'.1 - w.1) := by omega
      have e2 : slots + (w1.2.1 - w.2.1) + (w'.2.1 - w1.2.1) = slots + (w'.2.1 - w.2.1) := by omega
      rw [e1, e2]
      exact kr pc' ls' H2 locs2 ad2 tc2 ins2 len2 st2 d2 r2 (fun i hi => by rw [ha2 i (by omega), ha i hi]) hI2 hS2
    · obtain ⟨hR, rfl⟩ := h
      have := kr pc ls H locs ad tc ins len st hdg hR (fun _ _ => rfl) hI hS
      simp only [Nat.sub_self, Nat.add_zero] at this
      exact this
    · obtain ⟨z, As, rest, d', v, w1, hC, rfl, hv, h⟩ := h
      have hlen := ai_C_len hC
      subst hlen
      obtain ⟨m1, m2, mpl⟩ := ai_run_mono _ _ _ _ _ _ _ _ _ hv
      obtain ⟨b1, b2, -⟩ := ai_run_mono _ _ _ _ _ _ _ _ _ h
      obtain ⟨hor, hrun⟩ := ai_C_run (p := p) (l := l) (e := e) (R := R) (s := s) (m := m) (args := args) (below := below) (meth := meth) (c := c) (H := H) (locs := locs) (cells := cells) (slots := slots) (ls := ls) (w' := w1) (v := v) hx hb hml hl.2.1 hown hts hI hS hd hdl hdg hC (by omega) (by omega) (fun hcode hplain hfit hoA => by
        refine Met.ofW (cc := z.2.1) (maxL := z.2.2.1) (ret := z.2.2.2) hplain rfl ?_
        intro p e s m args below meth c s₁ B hml hv0
        obtain ⟨rfl, hI0⟩ := hv0
        have hts := atoms_spec (ws := ai_ws z) B.pre
        have hlocks := B.notSynchronized
        rw [lg_entry_eq]
        refine ih d' z 0 (ai_ent z.2.2.1 As) [] w w1 v hv (cells := 0) (slots := 0) B.exec B.bytes hml (findClass_of_methodNamed B.named) (name_of_methodNamed B.named B.method).1 (fun x hx => hts x (List.mem_cons_of_mem _ hx)) hI0 va_S.rf (ai_ent_L hfit) (ai_ent_oks hoA) ai_oks_n (Nat.le_refl d') (Nat.le_refl _) (by rw [Nat.zero_add]; exact Nat.le_refl _) (by rw [Nat.zero_add]; exact Nat.le_refl _) ?_
        intro pc' ls' H' locs' ad' tc' ins len st' hdg' hR ha hI' hS'
        have hR2 := ai_R_ok hR
        clear hR
        obtain ⟨rfl, hR⟩ := hR2
        rw [Nat.zero_add, Nat.zero_add]
        have hq : ∀ t : State, t.heap = H' → s.WarmedH t.vm → ai_Qc sz oL ox ob D ad w v w1 (As.map (ai_cv ad)).toArray s (.returned v) t := fun t ht hW => ⟨⟨(ad', tc'), rfl, ha, hI'.call hS' ht hW⟩, hS'.F ht⟩
        rcases hR with ⟨x, rfl, rfl, rfl, ty, hty, hnar⟩ | ⟨x, rfl, rfl, rfl, hty⟩ | ⟨rfl, rfl, rfl, hty⟩
        · exact W.zret B.exec B.bytes (B.returns.trans hty) hnar hq hS'.2.2 hdg'
        · exact W.lret B.exec B.bytes (B.returns.trans hty) hq hS'.2.2 hdg'
        · exact W.vret B.exec B.bytes (B.returns.trans hty) hq hS'.2.2 hdg') hos
      refine ai_call hI hrun hS (fun ad' tc' H1 locs1 ha hI' hS' => ?_)
      have ho : ∀ k, k < 2 → ad' (ai_O + k) = ad (ai_O + k) := fun k hk => by rw [hI.2.2.2.2.2.2.2 k hk, hI'.2.2.2.2.2.2.2 k hk]
      have est : v.toList ++ rest.map (ai_cv ad) = (v.toList ++ rest).map (ai_cv ad') := by
        rw [List.map_append, ai_cvm hor ha ho]
        congr 1
        cases v with
        | none => rfl
        | some x =>
          have := mpl x (by simp)
          cases x <;> first | rfl | exact absurd rfl (this _)
      rw [est]
      refine ih _ _ _ _ _ _ _ _ h hx hb hml hown hnm hts hI' hS' (hl.to hoL ha ho) (hoL.mono m1) (fun x hx => ?_) hd hdl (by omega) (by omega) (fun pc' ls' H2 locs2 ad2 tc2 ins2 len2 st2 d2 r2 ha2 hI2 hS2 => ?_)
      · rcases List.mem_append.mp hx with h1 | h1
        · intro i hi
          exact absurd hi (mpl x h1 i)
        · exact (hor.mono m1) x h1
      · have e1 : cells + (w1.1 - w.1) + (w'.1 - w1.1) = cells + (w'.1 - w.1) := by omega
        have e2 : slots + (w1.2.1 - w.2.1) + (w'.2.1 - w1.2.1) = slots + (w'.2.1 - w.2.1) := by omega
        rw [e1, e2]
        exact kr pc' ls' H2 locs2 ad2 tc2 ins2 len2 st2 d2 r2 (fun i hi => by rw [ha2 i (by omega), ha i hi]) hI2 hS2
end
section
/-! RUNS OF THE SMALL MACHINE, step by step, as equations -/
abbrev ai_S : Type := (Nat → Nat) × (Nat → Nat → Int32)
def Rn (o : ai_S) (d : Nat) (z : ai_Mi) (pc : Nat) (L st : List Value) (w : ai_W) (r : Option Value × ai_W) : Prop := ∃ n, ai_run o.1 o.2 n d z pc L st w = some r
/-- a method's whole run -/
def Ev (o : ai_S) (d : Nat) (z : ai_Mi) (As : List Value) (w : ai_W) (v : Option Value) (w' : ai_W) : Prop := Rn o d z 0 (ai_ent z.2.2.1 As) [] w (v, w')
theorem rn_of {o : ai_S} {d d' : Nat} {z z' : ai_Mi} {pc pc' : Nat} {L L' st st' : List Value} {w w' : ai_W} {r : Option Value × ai_W} (h : ∀ n, ai_run o.1 o.2 (n + 1) d z pc L st w = ai_run o.1 o.2 n d' z' pc' L' st' w') : Rn o d z pc L st w r = Rn o d' z' pc' L' st' w' r := by
  apply propext
  constructor
  · rintro ⟨n, hn⟩
    cases n with
    | zero => rw [ai_run] at hn; cases hn
    | succ n => exact ⟨n, by rw [← h]; exact hn⟩
  · rintro ⟨n, hn⟩
    exact ⟨n + 1, by rw [h]; exact hn⟩
theorem ai_B_A {ins : Instr} {len : Nat} {L st : List Value} {q : List Value × List Value} {own : String} (h : ai_B ins len L st = some q) : ai_A own ins len L st = none := by
  unfold ai_B at h
  split at h <;> first | rfl | cases h
theorem ai_J_A {ins : Instr} {len pc : Nat} {L st : List Value} {q : Nat × List Value} {own : String} (h : ai_J ins len pc st = some q) : ai_A own ins len L st = none ∧ ai_B ins len L st = none := by
  unfold ai_J at h
  split at h <;> first | exact ⟨rfl, rfl⟩ | cases h
theorem ai_M_A {o : ai_S} {y : MethodName} {ins : Instr} {len d pc : Nat} {L st : List Value} {w : ai_W} {q : List Value × ai_W} {own : String} (h : ai_M o.1 o.2 y ins len d st w = some q) : ai_A own ins len L st = none ∧ ai_B ins len L st = none ∧ ai_J ins len pc st = none := by
  unfold ai_M at h
  split at h <;> first | exact ⟨rfl, rfl, rfl⟩ | cases h
theorem ai_R_A {o : ai_S} {y : MethodName} {ret : Option FieldType} {ins : Instr} {len d pc : Nat} {L st : List Value} {w : ai_W} {q : Option Value} {own : String} (h : ai_R ret ins len st = some q) : ai_A own ins len L st = none ∧ ai_B ins len L st = none ∧ ai_J ins len pc st = none ∧ ai_M o.1 o.2 y ins len d st w = none := by
  unfold ai_R at h
  split at h <;> first | exact ⟨rfl, rfl, rfl, rfl⟩ | cases h
section RUN
variable {o : ai_S} {d : Nat} {z : ai_Mi} {pc : Nat} {L L' st st' : List Value} {w w' : ai_W} {r : Option Value × ai_W} {ins : Instr} {len : Nat}
theorem rn_A (hd : decode z.2.1 pc = .ok (ins, len)) (h : ai_A z.1.cls ins len L st = some st') : Rn o d z pc L st w r = Rn o d z (pc + len) L st' w r := rn_of fun n => by rw [ai_run, hd]; simp only [h]
theorem rn_B (hd : decode z.2.1 pc = .ok (ins, len)) (h : ai_B ins len L st = some (L', st')) : Rn o d z pc L st w r = Rn o d z (pc + len) L' st' w r := rn_of fun n => by rw [ai_run, hd]; simp only [ai_B_A h, h]
theorem rn_J {pc' : Nat} (hd : decode z.2.1 pc = .ok (ins, len)) (h : ai_J ins len pc st = some (pc', st')) : Rn o d z pc L st w r = Rn o d z pc' L st' w r := rn_of fun n => by rw [ai_run, hd]; simp only [(ai_J_A (L := L) (own := z.1.cls) h).1, (ai_J_A (L := L) (own := z.1.cls) h).2, h]
theorem rn_M (hd : decode z.2.1 pc = .ok (ins, len)) (h : ai_M o.1 o.2 z.1 ins len d st w = some (st', w')) : Rn o d z pc L st w r = Rn o d z (pc + len) L st' w' r := rn_of fun n => by
  obtain ⟨h1, h2, h3⟩ := ai_M_A (L := L) (own := z.1.cls) (pc := pc) h
  rw [ai_run, hd]; simp only [h1, h2, h3, h]
theorem rn_R {v : Option Value} (hd : decode z.2.1 pc = .ok (ins, len)) (h : ai_R z.2.2.2 ins len st = some v) : Rn o d z pc L st w r = ((v, w) = r) := by
  obtain ⟨h1, h2, h3, h4⟩ := ai_R_A (L := L) (own := z.1.cls) (pc := pc) (o := o) (y := z.1) (d := d) (w := w) h
  apply propext
  constructor
  · rintro ⟨n, hn⟩
    cases n with
    | zero => rw [ai_run] at hn; cases hn
    | succ n =>
      rw [ai_run, hd] at hn
      simp only [h1, h2, h3, h4, h] at hn
      exact Option.some.inj hn
  · rintro rfl
    exact ⟨1, by rw [ai_run, hd]; simp only [h1, h2, h3, h4, h]⟩
theorem ai_run_up : ∀ (n d : Nat) (z : ai_Mi) (pc : Nat) (L st : List Value) (w : ai_W) (r : Option Value × ai_W), ai_run o.1 o.2 n d z pc L st w = some r → ai_run o.1 o.2 (n + 1) d z pc L st w = some r := by
  intro n
  induction n with
  | zero => intro d z pc L st w r h; rw [ai_run] at h; cases h
  | succ n ih =>
    intro d z pc L st w r h
    rw [ai_run] at h ⊢
    split at h
    · cases h
    · rename_i ins len hd
      try rw [hd]
      try dsimp only
      split at h
      · rename_i st' hA
        try simp only [hA]
        exact ih _ _ _ _ _ _ _ h
      · rename_i hA
        try simp only [hA]
        split at h
        · rename_i L' st' hB
          try simp only [hB]
          exact ih _ _ _ _ _ _ _ h
        · rename_i hB
          try simp only [hB]
          split at h
          · rename_i pc' st' hJ
            try simp only [hJ]
            exact ih _ _ _ _ _ _ _ h
          · rename_i hJ
            try simp only [hJ]
            split at h
            · rename_i st' w' hM
              try simp only [hM]
              exact ih _ _ _ _ _ _ _ h
            · rename_i hM
              try simp only [hM]
              split at h
              · rename_i v hR
                try simp only [hR]
                exact h
              · rename_i hR
                try simp only [hR]
                split at h
                · rename_i zz As rest hC
                  try simp only [hC]
                  split at h
                  · cases h
                  · split at h
                    · rename_i v w1 hv
                      try simp only [ih _ _ _ _ _ _ _ hv]
                      exact ih _ _ _ _ _ _ _ h
                    · cases h
                · cases h
theorem ai_run_le {n n' : Nat} (hn : n ≤ n') (h : ai_run o.1 o.2 n d z pc L st w = some r) : ai_run o.1 o.2 n' d z pc L st w = some r := by
  obtain ⟨k, rfl⟩ := Nat.le.dest hn
  induction k with
  | zero => exact h
  | succ k ih => exact ai_run_up _ _ _ _ _ _ _ _ (ih (Nat.le_add_right _ _))
theorem ai_run_det {n n' : Nat} {r r' : Option Value × ai_W} (h : ai_run o.1 o.2 n d z pc L st w = some r) (h' : ai_run o.1 o.2 n' d z pc L st w = some r') : r = r' := by
  have a := ai_run_le (Nat.le_max_left n n') h
  have b := ai_run_le (Nat.le_max_right n n') h'
  exact Option.some.inj (a.symm.trans b)
theorem rn_C {zz : ai_Mi} {As rest : List Value} {v : Option Value} (hd : decode z.2.1 pc = .ok (ins, len)) (h0 : ai_A z.1.cls ins len L st = none ∧ ai_B ins len L st = none ∧ ai_J ins len pc st = none ∧ ai_M o.1 o.2 z.1 ins len (d + 1) st w = none ∧ ai_R z.2.2.2 ins len st = none) (hC : ai_C z.1 ins len st w = some (zz, As, rest)) (hE : Ev o d zz As w v w') : Rn o (d + 1) z pc L st w r = Rn o (d + 1) z (pc + 3) L (v.toList ++ rest) w' r := by
  obtain ⟨h1, h2, h3, h4, h5⟩ := h0
  obtain ⟨k, hk⟩ := hE
  apply propext
  constructor
  · rintro ⟨n, hn⟩
    cases n with
    | zero => rw [ai_run] at hn; cases hn
    | succ n =>
      rw [ai_run, hd] at hn
      simp only [h1, h2, h3, h4, h5, hC] at hn
      split at hn
      · rename_i v2 w2 hv
        have := ai_run_det hv hk
        cases this
        exact ⟨n, hn⟩
      · cases hn
  · rintro ⟨n, hn⟩
    refine ⟨max n k + 1, ?_⟩
    rw [ai_run, hd]
    simp only [h1, h2, h3, h4, h5, hC]
    rw [ai_run_le (Nat.le_max_right n k) hk]
    exact ai_run_le (Nat.le_max_left n k) hn
end RUN
end
section
/-! rules of runs, an instruction each; conditions are left to be met -/
section RULES
variable {o : ai_S} {d : Nat} {z : ai_Mi} {pc : Nat} {L st : List Value} {w : ai_W} {r : Option Value × ai_W} {x y v : Int32} {i j k idx ci tgt : Nat} {off : Int}
theorem rn_int {ins : Instr} {len : Nat} {v' : Int32} (hd : decode z.2.1 pc = .ok (ins, len)) (h : ai_A z.1.cls ins len L st = some (.int v' :: st)) (hv : v' = v) : Rn o d z pc L st w r = Rn o d z (pc + len) L (.int v :: st) w r := by subst hv; exact rn_A hd h
theorem rn_idiv (hd : decode z.2.1 pc = .ok (.idiv, 1)) (h : ¬ y = 0) : Rn o d z pc L (.int y :: .int x :: st) w r = Rn o d z (pc + 1) L (.int (x / y) :: st) w r := rn_A hd (by simp [ai_A, ai_binZ, ai_push, h])
theorem rn_irem (hd : decode z.2.1 pc = .ok (.irem, 1)) (h : ¬ y = 0) : Rn o d z pc L (.int y :: .int x :: st) w r = Rn o d z (pc + 1) L (.int (x - x / y * y) :: st) w r := rn_A hd (by simp [ai_A, ai_binZ, ai_push, h])
theorem rn_ldiv {x y : Int64} (hd : decode z.2.1 pc = .ok (.ldiv, 1)) (h : ¬ y = 0) : Rn o d z pc L (.long y :: .long x :: st) w r = Rn o d z (pc + 1) L (.long (x / y) :: st) w r := rn_A hd (by simp [ai_A, ai_binLZ, ai_push, h])
theorem rn_lrem {x y : Int64} (hd : decode z.2.1 pc = .ok (.lrem, 1)) (h : ¬ y = 0) : Rn o d z pc L (.long y :: .long x :: st) w r = Rn o d z (pc + 1) L (.long (x - x / y * y) :: st) w r := rn_A hd (by simp [ai_A, ai_binLZ, ai_push, h])
theorem rn_ldc {c : Int32} (hd : decode z.2.1 pc = .ok (.ldc_w idx, 3)) (h : ai_cst z.1.cls idx = some c) : Rn o d z pc L st w r = Rn o d z (pc + 3) L (.int c :: st) w r := rn_A hd (by simp [ai_A, ai_pushO, ai_push, h])
theorem rn_ldc2 {c : Int64} (hd : decode z.2.1 pc = .ok (.ldc2_w idx, 3)) (h : ai_cstL z.1.cls idx = some c) : Rn o d z pc L st w r = Rn o d z (pc + 3) L (.long c :: st) w r := rn_A hd (by simp [ai_A, ai_pushO, ai_push, h])
-- locals
theorem rn_sti0 {ins : Instr} {len i : Nat} (hd : decode z.2.1 pc = .ok (ins, len)) (h : ai_B ins len L (.int x :: st) = ai_sti len len L i (.int x :: st)) (hi : i < L.length) (h2 : i = 0 ∨ ai_is2 L[i - 1]? = false) : Rn o d z pc L (.int x :: st) w r = Rn o d z (pc + len) (L.set i (.int x)) st w r := rn_B hd (by rw [h]; unfold ai_sti; dsimp only; rw [if_pos ⟨rfl, hi, h2⟩])
theorem rn_stl0 {ins : Instr} {len i : Nat} {x : Int64} (hd : decode z.2.1 pc = .ok (ins, len)) (h : ai_B ins len L (.long x :: st) = ai_stl len len L i (.long x :: st)) (hi : i + 1 < L.length) (h2 : i = 0 ∨ ai_is2 L[i - 1]? = false) : Rn o d z pc L (.long x :: st) w r = Rn o d z (pc + len) ((L.set i (.long x)).set (i + 1) .null) st w r := rn_B hd (by rw [h]; unfold ai_stl; dsimp only; rw [if_pos ⟨rfl, hi, h2⟩])
theorem rn_sta0 {ins : Instr} {len i a : Nat} (hd : decode z.2.1 pc = .ok (ins, len)) (h : ai_B ins len L (.ref a :: st) = ai_sta len len L i (.ref a :: st)) (hi : i < L.length) (h2 : i = 0 ∨ ai_is2 L[i - 1]? = false) : Rn o d z pc L (.ref a :: st) w r = Rn o d z (pc + len) (L.set i (.ref a)) st w r := rn_B hd (by rw [h]; unfold ai_sta; dsimp only; rw [if_pos ⟨rfl, hi, h2⟩])
theorem rn_iinc {n : Int} {c : Int32} {i : Nat} (hd : decode z.2.1 pc = .ok (.iinc i n, 3)) (hl : L[i]? = some (.int x)) (hc : Int32.ofInt n = c) (hi : i < L.length) (h2 : i = 0 ∨ ai_is2 L[i - 1]? = false) : Rn o d z pc L st w r = Rn o d z (pc + 3) (L.set i (.int (x + c))) st w r := rn_B hd (by subst hc; unfold ai_B; simp only [hl]; unfold ai_sti; dsimp only; rw [if_pos ⟨rfl, hi, h2⟩])
theorem is2_i : ai_is2 (some (.int x)) = false := rfl
theorem is2_r {a : Nat} : ai_is2 (some (.ref a)) = false := rfl
theorem is2_n : ai_is2 (some .null) = false := rfl
-- jumps
theorem rn_goto (hd : decode z.2.1 pc = .ok (.goto off, 3)) (ht : (pc : Int) + off = (tgt : Int)) : Rn o d z pc L st w r = Rn o d z tgt L st w r := rn_J hd (by simp [ai_J, ai_tg, ht])
theorem ai_br_eq {b : Prop} {hb : Decidable b} {pc tgt : Nat} {off : Int} {st : List Value} (ht : (pc : Int) + off = (tgt : Int)) : ai_br b hb 3 pc off st = if b then some (tgt, st) else some (pc + 3, st) := by
  unfold ai_br
  rw [if_pos ⟨rfl, by omega⟩]
  have : ((pc : Int) + off).toNat = tgt := by omega
  rw [this]
theorem rn_br {ins : Instr} {b : Prop} {hb : Decidable b} {st' : List Value} (hd : decode z.2.1 pc = .ok (ins, 3)) (h : ai_J ins 3 pc st = ai_br b hb 3 pc off st') (ht : (pc : Int) + off = (tgt : Int)) : Rn o d z pc L st w r = if b then Rn o d z tgt L st' w r else Rn o d z (pc + 3) L st' w r := by
  rw [ai_br_eq ht] at h
  by_cases hc : b
  · rw [if_pos hc] at h ⊢; exact rn_J hd h
  · rw [if_neg hc] at h ⊢; exact rn_J hd h
theorem rn_tsw {df lo hi : Int} {offs : Array Int} {len : Nat} (hd : decode z.2.1 pc = .ok (.tableswitch df lo hi offs, len)) (h1 : ¬ x.toInt < lo) (h2 : ¬ hi < x.toInt) (ho : offs[(x.toInt - lo).toNat]? = some off) (ht : (pc : Int) + off = (tgt : Int)) : Rn o d z pc L (.int x :: st) w r = Rn o d z tgt L st w r := rn_J hd (by
  unfold ai_J
  dsimp only
  rw [if_neg (fun z => z.elim h1 h2), ho]
  dsimp only
  unfold ai_tg
  rw [if_pos (by omega), show ((pc : Int) + off).toNat = tgt by omega])
theorem rn_tswD {df lo hi : Int} {offs : Array Int} {len : Nat} (hd : decode z.2.1 pc = .ok (.tableswitch df lo hi offs, len)) (h1 : x.toInt < lo ∨ hi < x.toInt) (ht : (pc : Int) + df = (tgt : Int)) : Rn o d z pc L (.int x :: st) w r = Rn o d z tgt L st w r := rn_J hd (by
  unfold ai_J
  dsimp only
  rw [if_pos h1]
  unfold ai_tg
  rw [if_pos (by omega), show ((pc : Int) + df).toNat = tgt by omega])
theorem rn_lsw {df : Int} {ps : Array (Int × Int)} {len : Nat} (hd : decode z.2.1 pc = .ok (.lookupswitch df ps, len)) (h0 : (ps.toList.zip (ps.toList.drop 1)).all (fun (a, next) => a.1 < next.1) = true) (ho : Op.lookupswitch.offset ps.toList df x.toInt = off) (ht : (pc : Int) + off = (tgt : Int)) : Rn o d z pc L (.int x :: st) w r = Rn o d z tgt L st w r := rn_J hd (by
  unfold ai_J
  dsimp only
  rw [if_pos h0, ho]
  unfold ai_tg
  rw [if_pos (by omega), show ((pc : Int) + off).toNat = tgt by omega])
-- the heap, of any shape
variable {n sl : Nat} {κ : Nat → Nat × Nat} {rf : Nat → Nat → Option Nat} {m : Nat → Nat → Int32} {lg : Nat → Nat → Int64}
theorem rg_getI (hd : decode z.2.1 pc = .ok (.getfield idx, 3)) (hf : ai_fld z.1.cls idx = some (ci, k)) (ht : ai_ty ci k = .int) (hi : i < n ∧ (κ i).1 = ci + 3) : Rn o d z pc L (.ref i :: st) (n, sl, κ, rf, m, lg) r = Rn o d z (pc + 3) L (.int (m i k) :: st) (n, sl, κ, rf, m, lg) r := rn_M hd (by simp [ai_M, ai_get, ai_keep, hf, ht, hi])
theorem rg_getL (hd : decode z.2.1 pc = .ok (.getfield idx, 3)) (hf : ai_fld z.1.cls idx = some (ci, k)) (ht : ai_ty ci k = .long) (hi : i < n ∧ (κ i).1 = ci + 3) : Rn o d z pc L (.ref i :: st) (n, sl, κ, rf, m, lg) r = Rn o d z (pc + 3) L (.long (lg i k) :: st) (n, sl, κ, rf, m, lg) r := rn_M hd (by simp [ai_M, ai_get, ai_keep, hf, ht, hi])
theorem rg_getR (hd : decode z.2.1 pc = .ok (.getfield idx, 3)) (hf : ai_fld z.1.cls idx = some (ci, k)) (ht : ai_isRef (ai_ty ci k) = true) (hi : i < n ∧ (κ i).1 = ci + 3) (hq : rf i k = some j) : Rn o d z pc L (.ref i :: st) (n, sl, κ, rf, m, lg) r = Rn o d z (pc + 3) L (.ref j :: st) (n, sl, κ, rf, m, lg) r := rn_M hd (by
  have n1 : ai_ty ci k ≠ .int := fun z => by rw [z] at ht; cases ht
  have n2 : ai_ty ci k ≠ .long := fun z => by rw [z] at ht; cases ht
  simp [ai_M, ai_get, ai_keep, hf, ht, hi, n1, n2, hq])
theorem rg_putI (hd : decode z.2.1 pc = .ok (.putfield idx, 3)) (hf : ai_fld z.1.cls idx = some (ci, k)) (ht : ai_ty ci k = .int) (hm : ai_may z.1 ci k = true) (hi : i < n ∧ (κ i).1 = ci + 3) : Rn o d z pc L (.int x :: .ref i :: st) (n, sl, κ, rf, m, lg) r = Rn o d z (pc + 3) L st (n, sl, κ, rf, ai_up m i k x, lg) r := rn_M hd (by simp [ai_M, ai_put, hf, ht, hi, hm])
theorem rg_putL {x : Int64} (hd : decode z.2.1 pc = .ok (.putfield idx, 3)) (hf : ai_fld z.1.cls idx = some (ci, k)) (ht : ai_ty ci k = .long) (hm : ai_may z.1 ci k = true) (hi : i < n ∧ (κ i).1 = ci + 3) : Rn o d z pc L (.long x :: .ref i :: st) (n, sl, κ, rf, m, lg) r = Rn o d z (pc + 3) L st (n, sl, κ, rf, m, ai_upL lg i k x) r := rn_M hd (by simp [ai_M, ai_put, hf, ht, hi, hm])
theorem rg_putR {a : Nat} (hd : decode z.2.1 pc = .ok (.putfield idx, 3)) (hf : ai_fld z.1.cls idx = some (ci, k)) (ht : ai_isRef (ai_ty ci k) = true) (hm : ai_may z.1 ci k = true) (hi : i < n ∧ a < n ∧ (κ i).1 = ci + 3) : Rn o d z pc L (.ref a :: .ref i :: st) (n, sl, κ, rf, m, lg) r = Rn o d z (pc + 3) L st (n, sl, κ, ai_upR rf i k (some a), m, lg) r := rn_M hd (by simp [ai_M, ai_put, hf, ht, hi, hm])
theorem rg_new {q : vw_C} (hd : decode z.2.1 pc = .ok (.new idx, 3)) (hc : ai_cls z.1.cls idx = some ci) (hq : ai_cl[ci]? = some q) (hn : n < 1000000) : Rn o d z pc L st (n, sl, κ, rf, m, lg) r = Rn o d z (pc + 3) L (.ref n :: st) (n + 1, sl + q.2.2, va_up κ n (ci + 3, q.2.2), va_up rf n (fun _ => none), va_up m n (fun _ => 0), va_up lg n (fun _ => 0)) r := rn_M hd (by simp [ai_M, ai_news, hc, hq, hn, ai_mk])
theorem rg_newI (hd : decode z.2.1 pc = .ok (.newarray .int, 2)) (hc : Cond.arrayClass .int ∈ ai_tb) (hj : j ≤ 1000) (hn : n < 1000000) : Rn o d z pc L (.int (nI j) :: st) (n, sl, κ, rf, m, lg) r = Rn o d z (pc + 2) L (.ref n :: st) (n + 1, sl + j, va_up κ n (0, j), va_up rf n (fun _ => none), va_up m n (fun _ => 0), va_up lg n (fun _ => 0)) r := rn_M hd (by
  have h1 : ¬ nI j < 0 := nI_pos (by omega)
  have h2 := nI_clamp (n := j) (by omega)
  simp only [ai_M, ai_newa, h1, h2, hc, hn, hj, ai_mk, if_pos, not_false_eq_true, and_self])
theorem rg_newZ (hd : decode z.2.1 pc = .ok (.newarray .boolean, 2)) (hc : Cond.arrayClass .boolean ∈ ai_tb) (hj : j ≤ 1000) (hn : n < 1000000) : Rn o d z pc L (.int (nI j) :: st) (n, sl, κ, rf, m, lg) r = Rn o d z (pc + 2) L (.ref n :: st) (n + 1, sl + j, va_up κ n (1, j), va_up rf n (fun _ => none), va_up m n (fun _ => 0), va_up lg n (fun _ => 0)) r := rn_M hd (by
  have h1 : ¬ nI j < 0 := nI_pos (by omega)
  have h2 := nI_clamp (n := j) (by omega)
  simp only [ai_M, ai_newa, h1, h2, hc, hn, hj, ai_mk, if_pos, not_false_eq_true, and_self])
theorem rg_newR (hd : decode z.2.1 pc = .ok (.anewarray idx, 3)) (hc : ai_clk z.1.cls idx = some RX2) (hj : j ≤ 1000) (hn : n < 1000000) : Rn o d z pc L (.int (nI j) :: st) (n, sl, κ, rf, m, lg) r = Rn o d z (pc + 3) L (.ref n :: st) (n + 1, sl + j, va_up κ n (2, j), va_up rf n (fun _ => none), va_up m n (fun _ => 0), va_up lg n (fun _ => 0)) r := rn_M hd (by
  have h1 : ¬ nI j < 0 := nI_pos (by omega)
  have h2 := nI_clamp (n := j) (by omega)
  simp only [ai_M, ai_newR, h1, h2, hc, hn, hj, ai_mk, if_pos, not_false_eq_true, and_self])
theorem rg_aastore {a : Nat} (hd : decode z.2.1 pc = .ok (.aastore, 1)) (hi : i < n ∧ a < n ∧ (κ a).1 = 5 ∧ (κ i).1 = 2) (hj : j < (κ i).2) (hj2 : j < 1000) : Rn o d z pc L (.ref a :: .int (nI j) :: .ref i :: st) (n, sl, κ, rf, m, lg) r = Rn o d z (pc + 1) L st (n, sl, κ, ai_upR rf i j (some a), m, lg) r := rn_M hd (by
  have h1 : ¬ nI j < 0 := nI_pos (by omega)
  have h2 := nI_clamp (n := j) (by omega)
  have h3 : ¬ (κ i).2 ≤ j := by omega
  simp [ai_M, ai_astR, h1, h2, h3, hi])
theorem rn_objInit {a : Nat} (hd : decode z.2.1 pc = .ok (.invokespecial idx, 3)) (hc : ai_mlk z.1.cls idx = some Lib.objectInit) (h1 : Cond.instanceMethod Lib.objectInit ∈ ai_tb) (h2 : Cond.code Lib.objectInit ⟨#[0xb1]⟩ 1 none ∈ ai_tb) (hs : (st.map fun v => v.category).sum ≤ 8) : Rn o (d + 1) z pc L (.ref a :: st) w r = Rn o (d + 1) z (pc + 3) L st w r := rn_M hd (by simp only [ai_M, hc, h1, h2, hs, if_pos, Nat.zero_lt_succ, and_self])
-- calls
theorem rn_cV {n b ci : Nat} {zz : ai_Mi} {As rest : List Value} {v : Option Value} {w' : ai_W} (hd : decode z.2.1 pc = .ok (.invokevirtual idx, 3)) (hc : ai_cV z.1.cls idx = some (zz.1, n, zz.2)) (hp : ai_popV n st = some (b, As, rest)) (hcl : ai_cl[ci]?.map (fun q => q.1) = some zz.1.cls) (hlen : (lg_sl (.ref b :: As)).length ≤ zz.2.2.1) (hk : b < w.1 ∧ (w.2.2.1 b).1 = ci + 3) (hE : Ev o d zz (.ref b :: As) w v w') : Rn o (d + 1) z pc L st w r = Rn o (d + 1) z (pc + 3) L (v.toList ++ rest) w' r := by
  refine rn_C (zz := zz) hd ⟨rfl, rfl, rfl, rfl, rfl⟩ ?_ hE
  unfold ai_C
  simp only [if_pos, hc, hp]
  rw [if_pos ⟨hk.1, by rw [hk.2]; exact hcl, by omega, hlen⟩]
theorem rn_cS {n : Nat} {zz : ai_Mi} {As rest : List Value} {v : Option Value} {w' : ai_W} (hd : decode z.2.1 pc = .ok (.invokestatic idx, 3)) (hne : ai_mlk z.1.cls idx ≠ some arraycopyName) (hc : ai_cS z.1.cls idx = some (zz.1, n, zz.2)) (hp : ai_pop n st = some (As, rest)) (hlen : (lg_sl As).length ≤ zz.2.2.1) (hE : Ev o d zz As w v w') : Rn o (d + 1) z pc L st w r = Rn o (d + 1) z (pc + 3) L (v.toList ++ rest) w' r := by
  refine rn_C (zz := zz) hd ⟨rfl, rfl, rfl, by simp [ai_M, hne], rfl⟩ ?_ hE
  unfold ai_C
  simp only [if_pos, hc, hp]
  rw [if_pos hlen]
theorem rn_cI {n b : Nat} {zz : ai_Mi} {As rest : List Value} {v : Option Value} {w' : ai_W} (hd : decode z.2.1 pc = .ok (.invokespecial idx, 3)) (hne : ai_mlk z.1.cls idx ≠ some Lib.objectInit) (hc : ai_cI z.1.cls idx = some (zz.1, n, zz.2)) (hp : ai_popV n st = some (b, As, rest)) (hlen : (lg_sl (.ref b :: As)).length ≤ zz.2.2.1) (hE : Ev o d zz (.ref b :: As) w v w') : Rn o (d + 1) z pc L st w r = Rn o (d + 1) z (pc + 3) L (v.toList ++ rest) w' r := by
  refine rn_C (zz := zz) hd ⟨rfl, rfl, rfl, by simp [ai_M, hne], rfl⟩ ?_ hE
  unfold ai_C
  simp only [if_pos, hc, hp]
  rw [if_pos hlen]
theorem rn_cN {n b : Nat} {zz : ai_Mi} {As rest : List Value} {v : Option Value} {w' : ai_W} (hd : decode z.2.1 pc = .ok (.invokespecial idx, 3)) (hne : ai_mlk z.1.cls idx ≠ some Lib.objectInit) (hc0 : ai_cI z.1.cls idx = none) (hc : ai_cN z.1.cls idx = some (zz.1, n, zz.2)) (hp : ai_popV n st = some (b, As, rest)) (hlen : (lg_sl (.ref b :: As)).length ≤ zz.2.2.1) (hE : Ev o d zz (.ref b :: As) w v w') : Rn o (d + 1) z pc L st w r = Rn o (d + 1) z (pc + 3) L (v.toList ++ rest) w' r := by
  refine rn_C (zz := zz) hd ⟨rfl, rfl, rfl, by simp [ai_M, hne], rfl⟩ ?_ hE
  unfold ai_C
  simp only [if_pos, hc0, hc, hp]
  rw [if_pos hlen]
end RULES
end
section
theorem ml_RX5_3 : ai_mlk RX5 3 = some Lib.objectInit := by decide +kernel
theorem oi_1 : Cond.instanceMethod Lib.objectInit ∈ ai_tb := by decide +kernel
theorem oi_2 : Cond.code Lib.objectInit ⟨#[0xb1]⟩ 1 none ∈ ai_tb := by decide +kernel
theorem ac_0 : Cond.arrayClass .int ∈ ai_tb := by decide +kernel
theorem fl_RX5_9 : ai_fld RX5 9 = some (5, 0) := by decide +kernel
theorem fl_RX5_15 : ai_fld RX5 15 = some (5, 1) := by decide +kernel
theorem ml_RX6_3 : ai_mlk RX6 3 = some Lib.objectInit := by decide +kernel
theorem fl_RX6_9 : ai_fld RX6 9 = some (6, 0) := by decide +kernel
theorem fl_RX6_15 : ai_fld RX6 15 = some (6, 1) := by decide +kernel
theorem fl_RX6_18 : ai_fld RX6 18 = some (6, 2) := by decide +kernel
theorem fl_RX6_21 : ai_fld RX6 21 = some (6, 3) := by decide +kernel
theorem fl_RX6_24 : ai_fld RX6 24 = some (6, 4) := by decide +kernel
theorem fl_RX6_27 : ai_fld RX6 27 = some (6, 5) := by decide +kernel
theorem fl_RX6_31 : ai_fld RX6 31 = some (6, 6) := by decide +kernel
theorem fl_RX6_34 : ai_fld RX6 34 = some (6, 7) := by decide +kernel
theorem fl_RX6_37 : ai_fld RX6 37 = some (6, 8) := by decide +kernel
theorem fl_RX6_40 : ai_fld RX6 40 = some (6, 9) := by decide +kernel
theorem ml_RX2_3 : ai_mlk RX2 3 = some Lib.objectInit := by decide +kernel
theorem fl_RX2_9 : ai_fld RX2 9 = some (2, 1) := by decide +kernel
theorem fl_RX2_15 : ai_fld RX2 15 = some (2, 2) := by decide +kernel
theorem fl_RX2_18 : ai_fld RX2 18 = some (2, 3) := by decide +kernel
theorem fl_RX2_21 : ai_fld RX2 21 = some (2, 4) := by decide +kernel
theorem fl_RX2_24 : ai_fld RX2 24 = some (2, 5) := by decide +kernel
theorem fl_RX2_27 : ai_fld RX2 27 = some (2, 6) := by decide +kernel
theorem fl_RX2_31 : ai_fld RX2 31 = some (2, 0) := by decide +kernel
theorem ml_RX4_3 : ai_mlk RX4 3 = some Lib.objectInit := by decide +kernel
theorem fl_RX4_9 : ai_fld RX4 9 = some (4, 0) := by decide +kernel
theorem fl_RX4_15 : ai_fld RX4 15 = some (4, 1) := by decide +kernel
theorem ac_1 : Cond.arrayClass .boolean ∈ ai_tb := by decide +kernel
theorem fl_RX4_18 : ai_fld RX4 18 = some (4, 2) := by decide +kernel
theorem fl_RX4_22 : ai_fld RX4 22 = some (4, 3) := by decide +kernel
theorem ml_RX3_3 : ai_mlk RX3 3 = some Lib.objectInit := by decide +kernel
theorem fl_RX3_9 : ai_fld RX3 9 = some (3, 2) := by decide +kernel
theorem fl_RX3_15 : ai_fld RX3 15 = some (3, 3) := by decide +kernel
theorem fl_RX3_18 : ai_fld RX3 18 = some (3, 4) := by decide +kernel
theorem fl_RX3_21 : ai_fld RX3 21 = some (3, 0) := by decide +kernel
theorem fl_RX3_25 : ai_fld RX3 25 = some (3, 1) := by decide +kernel
theorem ml_RX1_3 : ai_mlk RX1 3 = some Lib.objectInit := by decide +kernel
theorem fl_RX1_9 : ai_fld RX1 9 = some (1, 0) := by decide +kernel
theorem fl_RX1_15 : ai_fld RX1 15 = some (1, 1) := by decide +kernel
theorem ml_RX0_3 : ai_mlk RX0 3 = some Lib.objectInit := by decide +kernel
theorem ck_RX0_9 : ai_clk RX0 9 = some RX2 := by decide +kernel
theorem fl_RX0_11 : ai_fld RX0 11 = some (0, 0) := by decide +kernel
theorem fl_RX0_17 : ai_fld RX0 17 = some (0, 1) := by decide +kernel
theorem fl_RX0_21 : ai_fld RX0 21 = some (0, 2) := by decide +kernel
theorem cs_RX0_9 : ai_cls RX0 9 = some 2 := by decide +kernel
theorem cI_RX0_24 : ai_cI RX0 24 = some (yX2_init, 1, cX2_init, 2, none) := by decide +kernel
theorem mn_RX0_24 : ai_mlk RX0 24 ≠ some Lib.objectInit := by decide +kernel
theorem ml_RX7_1 : ai_mlk RX7 1 = some Lib.objectInit := by decide +kernel
theorem cs_RX7_7 : ai_cls RX7 7 = some 5 := by decide +kernel
theorem cN_RX7_9 : ai_cN RX7 9 = some (yX5_init, 0, cX5_init, 1, none) := by decide +kernel
theorem mn_RX7_9 : ai_mlk RX7 9 ≠ some Lib.objectInit := by decide +kernel
theorem c0_RX7_9 : ai_cI RX7 9 = none := by decide +kernel
theorem fl_RX7_10 : ai_fld RX7 10 = some (7, 0) := by decide +kernel
theorem cs_RX7_16 : ai_cls RX7 16 = some 6 := by decide +kernel
theorem cN_RX7_18 : ai_cN RX7 18 = some (yX6_init, 0, cX6_init, 1, none) := by decide +kernel
theorem mn_RX7_18 : ai_mlk RX7 18 ≠ some Lib.objectInit := by decide +kernel
theorem c0_RX7_18 : ai_cI RX7 18 = none := by decide +kernel
theorem fl_RX7_19 : ai_fld RX7 19 = some (7, 1) := by decide +kernel
theorem fl_RX7_23 : ai_fld RX7 23 = some (7, 2) := by decide +kernel
theorem cs_RX7_26 : ai_cls RX7 26 = some 2 := by decide +kernel
theorem cI_RX7_28 : ai_cI RX7 28 = some (yX2_init, 1, cX2_init, 2, none) := by decide +kernel
theorem mn_RX7_28 : ai_mlk RX7 28 ≠ some Lib.objectInit := by decide +kernel
theorem fl_RX7_31 : ai_fld RX7 31 = some (7, 3) := by decide +kernel
theorem fl_RX7_35 : ai_fld RX7 35 = some (7, 4) := by decide +kernel
theorem cs_RX7_38 : ai_cls RX7 38 = some 0 := by decide +kernel
theorem cI_RX7_40 : ai_cI RX7 40 = some (yX0_init, 1, cX0_init, 3, none) := by decide +kernel
theorem mn_RX7_40 : ai_mlk RX7 40 ≠ some Lib.objectInit := by decide +kernel
theorem fl_RX7_41 : ai_fld RX7 41 = some (7, 5) := by decide +kernel
theorem cs_RX7_45 : ai_cls RX7 45 = some 4 := by decide +kernel
theorem cN_RX7_47 : ai_cN RX7 47 = some (yX4_init, 0, cX4_init, 1, none) := by decide +kernel
theorem mn_RX7_47 : ai_mlk RX7 47 ≠ some Lib.objectInit := by decide +kernel
theorem c0_RX7_47 : ai_cI RX7 47 = none := by decide +kernel
theorem fl_RX7_48 : ai_fld RX7 48 = some (7, 6) := by decide +kernel
theorem cs_RX7_52 : ai_cls RX7 52 = some 3 := by decide +kernel
theorem cI_RX7_54 : ai_cI RX7 54 = some (yX3_init, 2, cX3_init, 3, none) := by decide +kernel
theorem mn_RX7_54 : ai_mlk RX7 54 ≠ some Lib.objectInit := by decide +kernel
theorem fl_RX7_57 : ai_fld RX7 57 = some (7, 7) := by decide +kernel
theorem cs_RX7_61 : ai_cls RX7 61 = some 1 := by decide +kernel
theorem cI_RX7_63 : ai_cI RX7 63 = some (yX1_init, 2, cX1_init, 3, none) := by decide +kernel
theorem mn_RX7_63 : ai_mlk RX7 63 ≠ some Lib.objectInit := by decide +kernel
theorem fl_RX7_64 : ai_fld RX7 64 = some (7, 8) := by decide +kernel
theorem ck_RX7_26 : ai_clk RX7 26 = some RX2 := by decide +kernel
theorem fl_RX7_68 : ai_fld RX7 68 = some (7, 9) := by decide +kernel
theorem fl_RX7_72 : ai_fld RX7 72 = some (7, 10) := by decide +kernel
theorem fl_RX7_76 : ai_fld RX7 76 = some (7, 11) := by decide +kernel
theorem ml_RX8_1 : ai_mlk RX8 1 = some Lib.objectInit := by decide +kernel
theorem fl_RX8_7 : ai_fld RX8 7 = some (8, 1) := by decide +kernel
theorem fl_RX8_13 : ai_fld RX8 13 = some (8, 5) := by decide +kernel
theorem fl_RX8_16 : ai_fld RX8 16 = some (8, 7) := by decide +kernel
theorem fl_RX8_19 : ai_fld RX8 19 = some (8, 9) := by decide +kernel
theorem fl_RX8_22 : ai_fld RX8 22 = some (8, 11) := by decide +kernel
theorem fl_RX8_25 : ai_fld RX8 25 = some (8, 13) := by decide +kernel
theorem fl_RX8_28 : ai_fld RX8 28 = some (8, 15) := by decide +kernel
theorem fl_RX8_31 : ai_fld RX8 31 = some (8, 16) := by decide +kernel
theorem fl_RX8_34 : ai_fld RX8 34 = some (8, 17) := by decide +kernel
theorem fl_RX8_37 : ai_fld RX8 37 = some (8, 18) := by decide +kernel
theorem fl_RX8_40 : ai_fld RX8 40 = some (8, 20) := by decide +kernel
theorem fl_RX8_43 : ai_fld RX8 43 = some (8, 21) := by decide +kernel
theorem fl_RX8_47 : ai_fld RX8 47 = some (8, 23) := by decide +kernel
theorem fl_RX8_50 : ai_fld RX8 50 = some (8, 24) := by decide +kernel
theorem fl_RX8_53 : ai_fld RX8 53 = some (8, 25) := by decide +kernel
theorem fl_RX8_56 : ai_fld RX8 56 = some (8, 35) := by decide +kernel
theorem fl_RX8_59 : ai_fld RX8 59 = some (8, 36) := by decide +kernel
end
section
theorem dX5_init_0 : decode cX5_init 0 = .ok (.aload_n 0, 1) := by decide +kernel
theorem dX5_init_1 : decode cX5_init 1 = .ok (.invokespecial 3, 3) := by decide +kernel
theorem dX5_init_4 : decode cX5_init 4 = .ok (.aload_n 0, 1) := by decide +kernel
theorem dX5_init_5 : decode cX5_init 5 = .ok (.bipush 48, 2) := by decide +kernel
theorem dX5_init_7 : decode cX5_init 7 = .ok (.newarray .int, 2) := by decide +kernel
theorem dX5_init_9 : decode cX5_init 9 = .ok (.putfield 9, 3) := by decide +kernel
theorem dX5_init_12 : decode cX5_init 12 = .ok (.aload_n 0, 1) := by decide +kernel
theorem dX5_init_13 : decode cX5_init 13 = .ok (.iconst 0, 1) := by decide +kernel
theorem dX5_init_14 : decode cX5_init 14 = .ok (.putfield 15, 3) := by decide +kernel
theorem dX5_init_17 : decode cX5_init 17 = .ok (.return_, 1) := by decide +kernel
theorem dX6_init_0 : decode cX6_init 0 = .ok (.aload_n 0, 1) := by decide +kernel
theorem dX6_init_1 : decode cX6_init 1 = .ok (.invokespecial 3, 3) := by decide +kernel
theorem dX6_init_4 : decode cX6_init 4 = .ok (.aload_n 0, 1) := by decide +kernel
theorem dX6_init_5 : decode cX6_init 5 = .ok (.iconst 4, 1) := by decide +kernel
theorem dX6_init_6 : decode cX6_init 6 = .ok (.newarray .int, 2) := by decide +kernel
theorem dX6_init_8 : decode cX6_init 8 = .ok (.putfield 9, 3) := by decide +kernel
theorem dX6_init_11 : decode cX6_init 11 = .ok (.aload_n 0, 1) := by decide +kernel
theorem dX6_init_12 : decode cX6_init 12 = .ok (.iconst 4, 1) := by decide +kernel
theorem dX6_init_13 : decode cX6_init 13 = .ok (.newarray .int, 2) := by decide +kernel
theorem dX6_init_15 : decode cX6_init 15 = .ok (.putfield 15, 3) := by decide +kernel
theorem dX6_init_18 : decode cX6_init 18 = .ok (.aload_n 0, 1) := by decide +kernel
theorem dX6_init_19 : decode cX6_init 19 = .ok (.iconst 4, 1) := by decide +kernel
theorem dX6_init_20 : decode cX6_init 20 = .ok (.newarray .int, 2) := by decide +kernel
theorem dX6_init_22 : decode cX6_init 22 = .ok (.putfield 18, 3) := by decide +kernel
theorem dX6_init_25 : decode cX6_init 25 = .ok (.aload_n 0, 1) := by decide +kernel
theorem dX6_init_26 : decode cX6_init 26 = .ok (.iconst 5, 1) := by decide +kernel
theorem dX6_init_27 : decode cX6_init 27 = .ok (.newarray .int, 2) := by decide +kernel
theorem dX6_init_29 : decode cX6_init 29 = .ok (.putfield 21, 3) := by decide +kernel
theorem dX6_init_32 : decode cX6_init 32 = .ok (.aload_n 0, 1) := by decide +kernel
theorem dX6_init_33 : decode cX6_init 33 = .ok (.iconst 5, 1) := by decide +kernel
theorem dX6_init_34 : decode cX6_init 34 = .ok (.newarray .int, 2) := by decide +kernel
theorem dX6_init_36 : decode cX6_init 36 = .ok (.putfield 24, 3) := by decide +kernel
theorem dX6_init_39 : decode cX6_init 39 = .ok (.aload_n 0, 1) := by decide +kernel
theorem dX6_init_40 : decode cX6_init 40 = .ok (.iconst 0, 1) := by decide +kernel
theorem dX6_init_41 : decode cX6_init 41 = .ok (.putfield 27, 3) := by decide +kernel
theorem dX6_init_44 : decode cX6_init 44 = .ok (.aload_n 0, 1) := by decide +kernel
theorem dX6_init_45 : decode cX6_init 45 = .ok (.iconst 0, 1) := by decide +kernel
theorem dX6_init_46 : decode cX6_init 46 = .ok (.putfield 31, 3) := by decide +kernel
theorem dX6_init_49 : decode cX6_init 49 = .ok (.aload_n 0, 1) := by decide +kernel
theorem dX6_init_50 : decode cX6_init 50 = .ok (.iconst 0, 1) := by decide +kernel
theorem dX6_init_51 : decode cX6_init 51 = .ok (.putfield 34, 3) := by decide +kernel
theorem dX6_init_54 : decode cX6_init 54 = .ok (.aload_n 0, 1) := by decide +kernel
theorem dX6_init_55 : decode cX6_init 55 = .ok (.iconst 0, 1) := by decide +kernel
theorem dX6_init_56 : decode cX6_init 56 = .ok (.putfield 37, 3) := by decide +kernel
theorem dX6_init_59 : decode cX6_init 59 = .ok (.aload_n 0, 1) := by decide +kernel
theorem dX6_init_60 : decode cX6_init 60 = .ok (.bipush (-9), 2) := by decide +kernel
theorem dX6_init_62 : decode cX6_init 62 = .ok (.putfield 40, 3) := by decide +kernel
theorem dX6_init_65 : decode cX6_init 65 = .ok (.return_, 1) := by decide +kernel
theorem dX2_init_0 : decode cX2_init 0 = .ok (.aload_n 0, 1) := by decide +kernel
theorem dX2_init_1 : decode cX2_init 1 = .ok (.invokespecial 3, 3) := by decide +kernel
theorem dX2_init_4 : decode cX2_init 4 = .ok (.aload_n 0, 1) := by decide +kernel
theorem dX2_init_5 : decode cX2_init 5 = .ok (.iconst 5, 1) := by decide +kernel
theorem dX2_init_6 : decode cX2_init 6 = .ok (.newarray .int, 2) := by decide +kernel
theorem dX2_init_8 : decode cX2_init 8 = .ok (.putfield 9, 3) := by decide +kernel
theorem dX2_init_11 : decode cX2_init 11 = .ok (.aload_n 0, 1) := by decide +kernel
theorem dX2_init_12 : decode cX2_init 12 = .ok (.iconst 5, 1) := by decide +kernel
theorem dX2_init_13 : decode cX2_init 13 = .ok (.newarray .int, 2) := by decide +kernel
theorem dX2_init_15 : decode cX2_init 15 = .ok (.putfield 15, 3) := by decide +kernel
theorem dX2_init_18 : decode cX2_init 18 = .ok (.aload_n 0, 1) := by decide +kernel
theorem dX2_init_19 : decode cX2_init 19 = .ok (.iconst 5, 1) := by decide +kernel
theorem dX2_init_20 : decode cX2_init 20 = .ok (.newarray .int, 2) := by decide +kernel
theorem dX2_init_22 : decode cX2_init 22 = .ok (.putfield 18, 3) := by decide +kernel
theorem dX2_init_25 : decode cX2_init 25 = .ok (.aload_n 0, 1) := by decide +kernel
theorem dX2_init_26 : decode cX2_init 26 = .ok (.iconst 4, 1) := by decide +kernel
theorem dX2_init_27 : decode cX2_init 27 = .ok (.newarray .int, 2) := by decide +kernel
theorem dX2_init_29 : decode cX2_init 29 = .ok (.putfield 21, 3) := by decide +kernel
theorem dX2_init_32 : decode cX2_init 32 = .ok (.aload_n 0, 1) := by decide +kernel
theorem dX2_init_33 : decode cX2_init 33 = .ok (.iconst 4, 1) := by decide +kernel
theorem dX2_init_34 : decode cX2_init 34 = .ok (.newarray .int, 2) := by decide +kernel
theorem dX2_init_36 : decode cX2_init 36 = .ok (.putfield 24, 3) := by decide +kernel
theorem dX2_init_39 : decode cX2_init 39 = .ok (.aload_n 0, 1) := by decide +kernel
theorem dX2_init_40 : decode cX2_init 40 = .ok (.iconst 0, 1) := by decide +kernel
theorem dX2_init_41 : decode cX2_init 41 = .ok (.putfield 27, 3) := by decide +kernel
theorem dX2_init_44 : decode cX2_init 44 = .ok (.aload_n 0, 1) := by decide +kernel
theorem dX2_init_45 : decode cX2_init 45 = .ok (.aload_n 1, 1) := by decide +kernel
theorem dX2_init_46 : decode cX2_init 46 = .ok (.putfield 31, 3) := by decide +kernel
theorem dX2_init_49 : decode cX2_init 49 = .ok (.return_, 1) := by decide +kernel
theorem dX4_init_0 : decode cX4_init 0 = .ok (.aload_n 0, 1) := by decide +kernel
theorem dX4_init_1 : decode cX4_init 1 = .ok (.invokespecial 3, 3) := by decide +kernel
theorem dX4_init_4 : decode cX4_init 4 = .ok (.aload_n 0, 1) := by decide +kernel
theorem dX4_init_5 : decode cX4_init 5 = .ok (.bipush 6, 2) := by decide +kernel
theorem dX4_init_7 : decode cX4_init 7 = .ok (.newarray .int, 2) := by decide +kernel
theorem dX4_init_9 : decode cX4_init 9 = .ok (.putfield 9, 3) := by decide +kernel
theorem dX4_init_12 : decode cX4_init 12 = .ok (.aload_n 0, 1) := by decide +kernel
theorem dX4_init_13 : decode cX4_init 13 = .ok (.bipush 6, 2) := by decide +kernel
theorem dX4_init_15 : decode cX4_init 15 = .ok (.newarray .int, 2) := by decide +kernel
theorem dX4_init_17 : decode cX4_init 17 = .ok (.putfield 15, 3) := by decide +kernel
theorem dX4_init_20 : decode cX4_init 20 = .ok (.aload_n 0, 1) := by decide +kernel
theorem dX4_init_21 : decode cX4_init 21 = .ok (.bipush 6, 2) := by decide +kernel
theorem dX4_init_23 : decode cX4_init 23 = .ok (.newarray .boolean, 2) := by decide +kernel
theorem dX4_init_25 : decode cX4_init 25 = .ok (.putfield 18, 3) := by decide +kernel
theorem dX4_init_28 : decode cX4_init 28 = .ok (.aload_n 0, 1) := by decide +kernel
theorem dX4_init_29 : decode cX4_init 29 = .ok (.iconst 0, 1) := by decide +kernel
theorem dX4_init_30 : decode cX4_init 30 = .ok (.putfield 22, 3) := by decide +kernel
theorem dX4_init_33 : decode cX4_init 33 = .ok (.return_, 1) := by decide +kernel
theorem dX3_init_0 : decode cX3_init 0 = .ok (.aload_n 0, 1) := by decide +kernel
theorem dX3_init_1 : decode cX3_init 1 = .ok (.invokespecial 3, 3) := by decide +kernel
theorem dX3_init_4 : decode cX3_init 4 = .ok (.aload_n 0, 1) := by decide +kernel
theorem dX3_init_5 : decode cX3_init 5 = .ok (.iconst 0, 1) := by decide +kernel
theorem dX3_init_6 : decode cX3_init 6 = .ok (.putfield 9, 3) := by decide +kernel
theorem dX3_init_9 : decode cX3_init 9 = .ok (.aload_n 0, 1) := by decide +kernel
theorem dX3_init_10 : decode cX3_init 10 = .ok (.iconst 0, 1) := by decide +kernel
theorem dX3_init_11 : decode cX3_init 11 = .ok (.putfield 15, 3) := by decide +kernel
theorem dX3_init_14 : decode cX3_init 14 = .ok (.aload_n 0, 1) := by decide +kernel
theorem dX3_init_15 : decode cX3_init 15 = .ok (.iconst 0, 1) := by decide +kernel
theorem dX3_init_16 : decode cX3_init 16 = .ok (.putfield 18, 3) := by decide +kernel
theorem dX3_init_19 : decode cX3_init 19 = .ok (.aload_n 0, 1) := by decide +kernel
theorem dX3_init_20 : decode cX3_init 20 = .ok (.aload_n 1, 1) := by decide +kernel
theorem dX3_init_21 : decode cX3_init 21 = .ok (.putfield 21, 3) := by decide +kernel
theorem dX3_init_24 : decode cX3_init 24 = .ok (.aload_n 0, 1) := by decide +kernel
theorem dX3_init_25 : decode cX3_init 25 = .ok (.aload_n 2, 1) := by decide +kernel
theorem dX3_init_26 : decode cX3_init 26 = .ok (.putfield 25, 3) := by decide +kernel
theorem dX3_init_29 : decode cX3_init 29 = .ok (.return_, 1) := by decide +kernel
theorem dX1_init_0 : decode cX1_init 0 = .ok (.aload_n 0, 1) := by decide +kernel
theorem dX1_init_1 : decode cX1_init 1 = .ok (.invokespecial 3, 3) := by decide +kernel
theorem dX1_init_4 : decode cX1_init 4 = .ok (.aload_n 0, 1) := by decide +kernel
theorem dX1_init_5 : decode cX1_init 5 = .ok (.aload_n 1, 1) := by decide +kernel
theorem dX1_init_6 : decode cX1_init 6 = .ok (.putfield 9, 3) := by decide +kernel
theorem dX1_init_9 : decode cX1_init 9 = .ok (.aload_n 0, 1) := by decide +kernel
theorem dX1_init_10 : decode cX1_init 10 = .ok (.aload_n 2, 1) := by decide +kernel
theorem dX1_init_11 : decode cX1_init 11 = .ok (.putfield 15, 3) := by decide +kernel
theorem dX1_init_14 : decode cX1_init 14 = .ok (.return_, 1) := by decide +kernel
theorem dX0_init_0 : decode cX0_init 0 = .ok (.aload_n 0, 1) := by decide +kernel
theorem dX0_init_1 : decode cX0_init 1 = .ok (.invokespecial 3, 3) := by decide +kernel
theorem dX0_init_4 : decode cX0_init 4 = .ok (.aload_n 0, 1) := by decide +kernel
theorem dX0_init_5 : decode cX0_init 5 = .ok (.bipush 14, 2) := by decide +kernel
theorem dX0_init_7 : decode cX0_init 7 = .ok (.anewarray 9, 3) := by decide +kernel
theorem dX0_init_10 : decode cX0_init 10 = .ok (.putfield 11, 3) := by decide +kernel
theorem dX0_init_13 : decode cX0_init 13 = .ok (.aload_n 0, 1) := by decide +kernel
theorem dX0_init_14 : decode cX0_init 14 = .ok (.iconst 0, 1) := by decide +kernel
theorem dX0_init_15 : decode cX0_init 15 = .ok (.putfield 17, 3) := by decide +kernel
theorem dX0_init_18 : decode cX0_init 18 = .ok (.aload_n 0, 1) := by decide +kernel
theorem dX0_init_19 : decode cX0_init 19 = .ok (.iconst 0, 1) := by decide +kernel
theorem dX0_init_20 : decode cX0_init 20 = .ok (.putfield 21, 3) := by decide +kernel
theorem dX0_init_23 : decode cX0_init 23 = .ok (.iconst 0, 1) := by decide +kernel
theorem dX0_init_24 : decode cX0_init 24 = .ok (.istore_n 2, 1) := by decide +kernel
theorem dX0_init_25 : decode cX0_init 25 = .ok (.iload_n 2, 1) := by decide +kernel
theorem dX0_init_26 : decode cX0_init 26 = .ok (.bipush 14, 2) := by decide +kernel
theorem dX0_init_28 : decode cX0_init 28 = .ok (.if_icmp .ge 23, 3) := by decide +kernel
theorem dX0_init_31 : decode cX0_init 31 = .ok (.aload_n 0, 1) := by decide +kernel
theorem dX0_init_32 : decode cX0_init 32 = .ok (.getfield 11, 3) := by decide +kernel
theorem dX0_init_35 : decode cX0_init 35 = .ok (.iload_n 2, 1) := by decide +kernel
theorem dX0_init_36 : decode cX0_init 36 = .ok (.new 9, 3) := by decide +kernel
theorem dX0_init_39 : decode cX0_init 39 = .ok (.dup, 1) := by decide +kernel
theorem dX0_init_40 : decode cX0_init 40 = .ok (.aload_n 1, 1) := by decide +kernel
theorem dX0_init_41 : decode cX0_init 41 = .ok (.invokespecial 24, 3) := by decide +kernel
theorem dX0_init_44 : decode cX0_init 44 = .ok (.aastore, 1) := by decide +kernel
theorem dX0_init_45 : decode cX0_init 45 = .ok (.iinc 2 1, 3) := by decide +kernel
theorem dX0_init_48 : decode cX0_init 48 = .ok (.goto (-23), 3) := by decide +kernel
theorem dX0_init_51 : decode cX0_init 51 = .ok (.return_, 1) := by decide +kernel
theorem dX7_init_0 : decode cX7_init 0 = .ok (.aload_n 0, 1) := by decide +kernel
theorem dX7_init_1 : decode cX7_init 1 = .ok (.invokespecial 1, 3) := by decide +kernel
theorem dX7_init_4 : decode cX7_init 4 = .ok (.aload_n 0, 1) := by decide +kernel
theorem dX7_init_5 : decode cX7_init 5 = .ok (.new 7, 3) := by decide +kernel
theorem dX7_init_8 : decode cX7_init 8 = .ok (.dup, 1) := by decide +kernel
theorem dX7_init_9 : decode cX7_init 9 = .ok (.invokespecial 9, 3) := by decide +kernel
theorem dX7_init_12 : decode cX7_init 12 = .ok (.putfield 10, 3) := by decide +kernel
theorem dX7_init_15 : decode cX7_init 15 = .ok (.aload_n 0, 1) := by decide +kernel
theorem dX7_init_16 : decode cX7_init 16 = .ok (.new 16, 3) := by decide +kernel
theorem dX7_init_19 : decode cX7_init 19 = .ok (.dup, 1) := by decide +kernel
theorem dX7_init_20 : decode cX7_init 20 = .ok (.invokespecial 18, 3) := by decide +kernel
theorem dX7_init_23 : decode cX7_init 23 = .ok (.putfield 19, 3) := by decide +kernel
theorem dX7_init_26 : decode cX7_init 26 = .ok (.aload_n 0, 1) := by decide +kernel
theorem dX7_init_27 : decode cX7_init 27 = .ok (.new 16, 3) := by decide +kernel
theorem dX7_init_30 : decode cX7_init 30 = .ok (.dup, 1) := by decide +kernel
theorem dX7_init_31 : decode cX7_init 31 = .ok (.invokespecial 18, 3) := by decide +kernel
theorem dX7_init_34 : decode cX7_init 34 = .ok (.putfield 23, 3) := by decide +kernel
theorem dX7_init_37 : decode cX7_init 37 = .ok (.aload_n 0, 1) := by decide +kernel
theorem dX7_init_38 : decode cX7_init 38 = .ok (.new 26, 3) := by decide +kernel
theorem dX7_init_41 : decode cX7_init 41 = .ok (.dup, 1) := by decide +kernel
theorem dX7_init_42 : decode cX7_init 42 = .ok (.aload_n 0, 1) := by decide +kernel
theorem dX7_init_43 : decode cX7_init 43 = .ok (.getfield 19, 3) := by decide +kernel
theorem dX7_init_46 : decode cX7_init 46 = .ok (.invokespecial 28, 3) := by decide +kernel
theorem dX7_init_49 : decode cX7_init 49 = .ok (.putfield 31, 3) := by decide +kernel
theorem dX7_init_52 : decode cX7_init 52 = .ok (.aload_n 0, 1) := by decide +kernel
theorem dX7_init_53 : decode cX7_init 53 = .ok (.new 26, 3) := by decide +kernel
theorem dX7_init_56 : decode cX7_init 56 = .ok (.dup, 1) := by decide +kernel
theorem dX7_init_57 : decode cX7_init 57 = .ok (.aload_n 0, 1) := by decide +kernel
theorem dX7_init_58 : decode cX7_init 58 = .ok (.getfield 19, 3) := by decide +kernel
theorem dX7_init_61 : decode cX7_init 61 = .ok (.invokespecial 28, 3) := by decide +kernel
theorem dX7_init_64 : decode cX7_init 64 = .ok (.putfield 35, 3) := by decide +kernel
theorem dX7_init_67 : decode cX7_init 67 = .ok (.aload_n 0, 1) := by decide +kernel
theorem dX7_init_68 : decode cX7_init 68 = .ok (.new 38, 3) := by decide +kernel
theorem dX7_init_71 : decode cX7_init 71 = .ok (.dup, 1) := by decide +kernel
theorem dX7_init_72 : decode cX7_init 72 = .ok (.aload_n 0, 1) := by decide +kernel
theorem dX7_init_73 : decode cX7_init 73 = .ok (.getfield 19, 3) := by decide +kernel
theorem dX7_init_76 : decode cX7_init 76 = .ok (.invokespecial 40, 3) := by decide +kernel
theorem dX7_init_79 : decode cX7_init 79 = .ok (.putfield 41, 3) := by decide +kernel
theorem dX7_init_82 : decode cX7_init 82 = .ok (.aload_n 0, 1) := by decide +kernel
theorem dX7_init_83 : decode cX7_init 83 = .ok (.new 45, 3) := by decide +kernel
theorem dX7_init_86 : decode cX7_init 86 = .ok (.dup, 1) := by decide +kernel
theorem dX7_init_87 : decode cX7_init 87 = .ok (.invokespecial 47, 3) := by decide +kernel
theorem dX7_init_90 : decode cX7_init 90 = .ok (.putfield 48, 3) := by decide +kernel
theorem dX7_init_93 : decode cX7_init 93 = .ok (.aload_n 0, 1) := by decide +kernel
theorem dX7_init_94 : decode cX7_init 94 = .ok (.new 52, 3) := by decide +kernel
theorem dX7_init_97 : decode cX7_init 97 = .ok (.dup, 1) := by decide +kernel
theorem dX7_init_98 : decode cX7_init 98 = .ok (.aload_n 0, 1) := by decide +kernel
theorem dX7_init_99 : decode cX7_init 99 = .ok (.getfield 19, 3) := by decide +kernel
theorem dX7_init_102 : decode cX7_init 102 = .ok (.aload_n 0, 1) := by decide +kernel
theorem dX7_init_103 : decode cX7_init 103 = .ok (.getfield 35, 3) := by decide +kernel
theorem dX7_init_106 : decode cX7_init 106 = .ok (.invokespecial 54, 3) := by decide +kernel
theorem dX7_init_109 : decode cX7_init 109 = .ok (.putfield 57, 3) := by decide +kernel
theorem dX7_init_112 : decode cX7_init 112 = .ok (.aload_n 0, 1) := by decide +kernel
theorem dX7_init_113 : decode cX7_init 113 = .ok (.new 61, 3) := by decide +kernel
theorem dX7_init_116 : decode cX7_init 116 = .ok (.dup, 1) := by decide +kernel
theorem dX7_init_117 : decode cX7_init 117 = .ok (.aload_n 0, 1) := by decide +kernel
theorem dX7_init_118 : decode cX7_init 118 = .ok (.getfield 19, 3) := by decide +kernel
theorem dX7_init_121 : decode cX7_init 121 = .ok (.aload_n 0, 1) := by decide +kernel
theorem dX7_init_122 : decode cX7_init 122 = .ok (.getfield 35, 3) := by decide +kernel
theorem dX7_init_125 : decode cX7_init 125 = .ok (.invokespecial 63, 3) := by decide +kernel
theorem dX7_init_128 : decode cX7_init 128 = .ok (.putfield 64, 3) := by decide +kernel
theorem dX7_init_131 : decode cX7_init 131 = .ok (.aload_n 0, 1) := by decide +kernel
theorem dX7_init_132 : decode cX7_init 132 = .ok (.iconst 2, 1) := by decide +kernel
theorem dX7_init_133 : decode cX7_init 133 = .ok (.anewarray 26, 3) := by decide +kernel
theorem dX7_init_136 : decode cX7_init 136 = .ok (.putfield 68, 3) := by decide +kernel
theorem dX7_init_139 : decode cX7_init 139 = .ok (.aload_n 0, 1) := by decide +kernel
theorem dX7_init_140 : decode cX7_init 140 = .ok (.iconst 2, 1) := by decide +kernel
theorem dX7_init_141 : decode cX7_init 141 = .ok (.newarray .boolean, 2) := by decide +kernel
theorem dX7_init_143 : decode cX7_init 143 = .ok (.putfield 72, 3) := by decide +kernel
theorem dX7_init_146 : decode cX7_init 146 = .ok (.aload_n 0, 1) := by decide +kernel
theorem dX7_init_147 : decode cX7_init 147 = .ok (.lconst 0, 1) := by decide +kernel
theorem dX7_init_148 : decode cX7_init 148 = .ok (.putfield 76, 3) := by decide +kernel
theorem dX7_init_151 : decode cX7_init 151 = .ok (.iconst 0, 1) := by decide +kernel
theorem dX7_init_152 : decode cX7_init 152 = .ok (.istore_n 1, 1) := by decide +kernel
theorem dX7_init_153 : decode cX7_init 153 = .ok (.iload_n 1, 1) := by decide +kernel
theorem dX7_init_154 : decode cX7_init 154 = .ok (.iconst 2, 1) := by decide +kernel
theorem dX7_init_155 : decode cX7_init 155 = .ok (.if_icmp .ge 26, 3) := by decide +kernel
theorem dX7_init_158 : decode cX7_init 158 = .ok (.aload_n 0, 1) := by decide +kernel
theorem dX7_init_159 : decode cX7_init 159 = .ok (.getfield 68, 3) := by decide +kernel
theorem dX7_init_162 : decode cX7_init 162 = .ok (.iload_n 1, 1) := by decide +kernel
theorem dX7_init_163 : decode cX7_init 163 = .ok (.new 26, 3) := by decide +kernel
theorem dX7_init_166 : decode cX7_init 166 = .ok (.dup, 1) := by decide +kernel
theorem dX7_init_167 : decode cX7_init 167 = .ok (.aload_n 0, 1) := by decide +kernel
theorem dX7_init_168 : decode cX7_init 168 = .ok (.getfield 19, 3) := by decide +kernel
theorem dX7_init_171 : decode cX7_init 171 = .ok (.invokespecial 28, 3) := by decide +kernel
theorem dX7_init_174 : decode cX7_init 174 = .ok (.aastore, 1) := by decide +kernel
theorem dX7_init_175 : decode cX7_init 175 = .ok (.iinc 1 1, 3) := by decide +kernel
theorem dX7_init_178 : decode cX7_init 178 = .ok (.goto (-25), 3) := by decide +kernel
theorem dX7_init_181 : decode cX7_init 181 = .ok (.return_, 1) := by decide +kernel
theorem dX8_init_0 : decode cX8_init 0 = .ok (.aload_n 0, 1) := by decide +kernel
theorem dX8_init_1 : decode cX8_init 1 = .ok (.invokespecial 1, 3) := by decide +kernel
theorem dX8_init_4 : decode cX8_init 4 = .ok (.aload_n 0, 1) := by decide +kernel
theorem dX8_init_5 : decode cX8_init 5 = .ok (.bipush 48, 2) := by decide +kernel
theorem dX8_init_7 : decode cX8_init 7 = .ok (.newarray .int, 2) := by decide +kernel
theorem dX8_init_9 : decode cX8_init 9 = .ok (.putfield 7, 3) := by decide +kernel
theorem dX8_init_12 : decode cX8_init 12 = .ok (.aload_n 0, 1) := by decide +kernel
theorem dX8_init_13 : decode cX8_init 13 = .ok (.iconst 4, 1) := by decide +kernel
theorem dX8_init_14 : decode cX8_init 14 = .ok (.newarray .int, 2) := by decide +kernel
theorem dX8_init_16 : decode cX8_init 16 = .ok (.putfield 13, 3) := by decide +kernel
theorem dX8_init_19 : decode cX8_init 19 = .ok (.aload_n 0, 1) := by decide +kernel
theorem dX8_init_20 : decode cX8_init 20 = .ok (.iconst 4, 1) := by decide +kernel
theorem dX8_init_21 : decode cX8_init 21 = .ok (.newarray .int, 2) := by decide +kernel
theorem dX8_init_23 : decode cX8_init 23 = .ok (.putfield 16, 3) := by decide +kernel
theorem dX8_init_26 : decode cX8_init 26 = .ok (.aload_n 0, 1) := by decide +kernel
theorem dX8_init_27 : decode cX8_init 27 = .ok (.iconst 5, 1) := by decide +kernel
theorem dX8_init_28 : decode cX8_init 28 = .ok (.newarray .int, 2) := by decide +kernel
theorem dX8_init_30 : decode cX8_init 30 = .ok (.putfield 19, 3) := by decide +kernel
theorem dX8_init_33 : decode cX8_init 33 = .ok (.aload_n 0, 1) := by decide +kernel
theorem dX8_init_34 : decode cX8_init 34 = .ok (.iconst 4, 1) := by decide +kernel
theorem dX8_init_35 : decode cX8_init 35 = .ok (.newarray .int, 2) := by decide +kernel
theorem dX8_init_37 : decode cX8_init 37 = .ok (.putfield 22, 3) := by decide +kernel
theorem dX8_init_40 : decode cX8_init 40 = .ok (.aload_n 0, 1) := by decide +kernel
theorem dX8_init_41 : decode cX8_init 41 = .ok (.bipush 8, 2) := by decide +kernel
theorem dX8_init_43 : decode cX8_init 43 = .ok (.newarray .int, 2) := by decide +kernel
theorem dX8_init_45 : decode cX8_init 45 = .ok (.putfield 25, 3) := by decide +kernel
theorem dX8_init_48 : decode cX8_init 48 = .ok (.aload_n 0, 1) := by decide +kernel
theorem dX8_init_49 : decode cX8_init 49 = .ok (.bipush 10, 2) := by decide +kernel
theorem dX8_init_51 : decode cX8_init 51 = .ok (.newarray .int, 2) := by decide +kernel
theorem dX8_init_53 : decode cX8_init 53 = .ok (.putfield 28, 3) := by decide +kernel
theorem dX8_init_56 : decode cX8_init 56 = .ok (.aload_n 0, 1) := by decide +kernel
theorem dX8_init_57 : decode cX8_init 57 = .ok (.bipush 24, 2) := by decide +kernel
theorem dX8_init_59 : decode cX8_init 59 = .ok (.newarray .int, 2) := by decide +kernel
theorem dX8_init_61 : decode cX8_init 61 = .ok (.putfield 31, 3) := by decide +kernel
theorem dX8_init_64 : decode cX8_init 64 = .ok (.aload_n 0, 1) := by decide +kernel
theorem dX8_init_65 : decode cX8_init 65 = .ok (.bipush 24, 2) := by decide +kernel
theorem dX8_init_67 : decode cX8_init 67 = .ok (.newarray .int, 2) := by decide +kernel
theorem dX8_init_69 : decode cX8_init 69 = .ok (.putfield 34, 3) := by decide +kernel
theorem dX8_init_72 : decode cX8_init 72 = .ok (.aload_n 0, 1) := by decide +kernel
theorem dX8_init_73 : decode cX8_init 73 = .ok (.sipush 336, 3) := by decide +kernel
theorem dX8_init_76 : decode cX8_init 76 = .ok (.newarray .int, 2) := by decide +kernel
theorem dX8_init_78 : decode cX8_init 78 = .ok (.putfield 37, 3) := by decide +kernel
theorem dX8_init_81 : decode cX8_init 81 = .ok (.aload_n 0, 1) := by decide +kernel
theorem dX8_init_82 : decode cX8_init 82 = .ok (.bipush 48, 2) := by decide +kernel
theorem dX8_init_84 : decode cX8_init 84 = .ok (.newarray .int, 2) := by decide +kernel
theorem dX8_init_86 : decode cX8_init 86 = .ok (.putfield 40, 3) := by decide +kernel
theorem dX8_init_89 : decode cX8_init 89 = .ok (.aload_n 0, 1) := by decide +kernel
theorem dX8_init_90 : decode cX8_init 90 = .ok (.iconst 2, 1) := by decide +kernel
theorem dX8_init_91 : decode cX8_init 91 = .ok (.newarray .boolean, 2) := by decide +kernel
theorem dX8_init_93 : decode cX8_init 93 = .ok (.putfield 43, 3) := by decide +kernel
theorem dX8_init_96 : decode cX8_init 96 = .ok (.aload_n 0, 1) := by decide +kernel
theorem dX8_init_97 : decode cX8_init 97 = .ok (.bipush 6, 2) := by decide +kernel
theorem dX8_init_99 : decode cX8_init 99 = .ok (.newarray .int, 2) := by decide +kernel
theorem dX8_init_101 : decode cX8_init 101 = .ok (.putfield 47, 3) := by decide +kernel
theorem dX8_init_104 : decode cX8_init 104 = .ok (.aload_n 0, 1) := by decide +kernel
theorem dX8_init_105 : decode cX8_init 105 = .ok (.bipush 6, 2) := by decide +kernel
theorem dX8_init_107 : decode cX8_init 107 = .ok (.newarray .int, 2) := by decide +kernel
theorem dX8_init_109 : decode cX8_init 109 = .ok (.putfield 50, 3) := by decide +kernel
theorem dX8_init_112 : decode cX8_init 112 = .ok (.aload_n 0, 1) := by decide +kernel
theorem dX8_init_113 : decode cX8_init 113 = .ok (.bipush 6, 2) := by decide +kernel
theorem dX8_init_115 : decode cX8_init 115 = .ok (.newarray .int, 2) := by decide +kernel
theorem dX8_init_117 : decode cX8_init 117 = .ok (.putfield 53, 3) := by decide +kernel
theorem dX8_init_120 : decode cX8_init 120 = .ok (.aload_n 0, 1) := by decide +kernel
theorem dX8_init_121 : decode cX8_init 121 = .ok (.bipush 50, 2) := by decide +kernel
theorem dX8_init_123 : decode cX8_init 123 = .ok (.newarray .int, 2) := by decide +kernel
theorem dX8_init_125 : decode cX8_init 125 = .ok (.putfield 56, 3) := by decide +kernel
theorem dX8_init_128 : decode cX8_init 128 = .ok (.aload_n 0, 1) := by decide +kernel
theorem dX8_init_129 : decode cX8_init 129 = .ok (.bipush 16, 2) := by decide +kernel
theorem dX8_init_131 : decode cX8_init 131 = .ok (.newarray .int, 2) := by decide +kernel
theorem dX8_init_133 : decode cX8_init 133 = .ok (.putfield 59, 3) := by decide +kernel
theorem dX8_init_136 : decode cX8_init 136 = .ok (.return_, 1) := by decide +kernel
end
section
section EQC
variable {o : ai_S} {d : Nat} {st : List Value} {w : ai_W} {r : Option Value × ai_W} {x y : Int32} {xl yl : Int64} {i j k n sl : Nat} {κ : Nat → Nat × Nat} {rf : Nat → Nat → Option Nat} {m : Nat → Nat → Int32} {lg : Nat → Nat → Int64} {a0 a1 a2 a3 a4 a5 a6 a7 a8 a9 a10 a11 a12 : Value}
def zX5_init : ai_Mi := (yX5_init, cX5_init, 1, none)
theorem ev_X5_init  {v : Option Value} {w' : ai_W} : Ev o d zX5_init [.ref i] w v w' = Rn o d zX5_init 0 [.ref i] [] w (v, w') := rfl
theorem e_X5_init_0 : Rn o d zX5_init 0 [.ref i] (st) w r = Rn o d zX5_init 1 [.ref i] (.ref i :: st) w r := rn_A (len := 1) dX5_init_0 rfl
theorem e_X5_init_1 {s0 : Nat} : Rn o (d + 1) zX5_init 1 [a0] ([.ref s0]) w r = Rn o (d + 1) zX5_init 4 [a0] ([]) w r := rn_objInit dX5_init_1 ml_RX5_3 oi_1 oi_2 (Nat.le_of_ble_eq_true rfl)
theorem e_X5_init_4 : Rn o d zX5_init 4 [.ref i] (st) w r = Rn o d zX5_init 5 [.ref i] (.ref i :: st) w r := rn_A (len := 1) dX5_init_4 rfl
theorem e_X5_init_5 : Rn o d zX5_init 5 [a0] (st) w r = Rn o d zX5_init 7 [a0] (.int (nI 48) :: st) w r := rn_int (len := 2) dX5_init_5 rfl (by decide)
theorem e_X5_init_7 {n9 s9 : Nat} (e1 : n + 1 = n9) (e2 : sl + j = s9) (hj : j ≤ 1000) (hn : n < 1000000) : Rn o d zX5_init 7 [a0] (.int (nI j) :: st) (n, sl, κ, rf, m, lg) r = Rn o d zX5_init 9 [a0] (.ref n :: st) (n9, s9, va_up κ n (0, j), va_up rf n (fun _ => none), va_up m n (fun _ => 0), va_up lg n (fun _ => 0)) r := by subst e1 e2; exact rg_newI dX5_init_7 ac_0 hj hn
theorem e_X5_init_9 (hi : i < n ∧ j < n ∧ (κ i).1 = 5 + 3) : Rn o d zX5_init 9 [a0] (.ref j :: .ref i :: st) (n, sl, κ, rf, m, lg) r = Rn o d zX5_init 12 [a0] (st) (n, sl, κ, ai_upR rf i 0 (some j), m, lg) r := rg_putR dX5_init_9 fl_RX5_9 rfl (by decide +kernel) hi
theorem e_X5_init_12 : Rn o d zX5_init 12 [.ref i] (st) w r = Rn o d zX5_init 13 [.ref i] (.ref i :: st) w r := rn_A (len := 1) dX5_init_12 rfl
theorem e_X5_init_13 : Rn o d zX5_init 13 [a0] (st) w r = Rn o d zX5_init 14 [a0] (.int (nI 0) :: st) w r := rn_int (len := 1) dX5_init_13 rfl (by decide)
theorem e_X5_init_14 (hi : i < n ∧ (κ i).1 = 5 + 3) : Rn o d zX5_init 14 [a0] (.int x :: .ref i :: st) (n, sl, κ, rf, m, lg) r = Rn o d zX5_init 17 [a0] (st) (n, sl, κ, rf, (ai_up m i 1 x), lg) r := rg_putI dX5_init_14 fl_RX5_15 rfl (by decide +kernel) hi
theorem e_X5_init_17 : Rn o d zX5_init 17 [a0] [] w r = ((none, w) = r) := rn_R dX5_init_17 rfl
def zX6_init : ai_Mi := (yX6_init, cX6_init, 1, none)
theorem ev_X6_init  {v : Option Value} {w' : ai_W} : Ev o d zX6_init [.ref i] w v w' = Rn o d zX6_init 0 [.ref i] [] w (v, w') := rfl
theorem e_X6_init_0 : Rn o d zX6_init 0 [.ref i] (st) w r = Rn o d zX6_init 1 [.ref i] (.ref i :: st) w r := rn_A (len := 1) dX6_init_0 rfl
theorem e_X6_init_1 {s0 : Nat} : Rn o (d + 1) zX6_init 1 [a0] ([.ref s0]) w r = Rn o (d + 1) zX6_init 4 [a0] ([]) w r := rn_objInit dX6_init_1 ml_RX6_3 oi_1 oi_2 (Nat.le_of_ble_eq_true rfl)
theorem e_X6_init_4 : Rn o d zX6_init 4 [.ref i] (st) w r = Rn o d zX6_init 5 [.ref i] (.ref i :: st) w r := rn_A (len := 1) dX6_init_4 rfl
theorem e_X6_init_5 : Rn o d zX6_init 5 [a0] (st) w r = Rn o d zX6_init 6 [a0] (.int (nI 4) :: st) w r := rn_int (len := 1) dX6_init_5 rfl (by decide)
theorem e_X6_init_6 {n9 s9 : Nat} (e1 : n + 1 = n9) (e2 : sl + j = s9) (hj : j ≤ 1000) (hn : n < 1000000) : Rn o d zX6_init 6 [a0] (.int (nI j) :: st) (n, sl, κ, rf, m, lg) r = Rn o d zX6_init 8 [a0] (.ref n :: st) (n9, s9, va_up κ n (0, j), va_up rf n (fun _ => none), va_up m n (fun _ => 0), va_up lg n (fun _ => 0)) r := by subst e1 e2; exact rg_newI dX6_init_6 ac_0 hj hn
theorem e_X6_init_8 (hi : i < n ∧ j < n ∧ (κ i).1 = 6 + 3) : Rn o d zX6_init 8 [a0] (.ref j :: .ref i :: st) (n, sl, κ, rf, m, lg) r = Rn o d zX6_init 11 [a0] (st) (n, sl, κ, ai_upR rf i 0 (some j), m, lg) r := rg_putR dX6_init_8 fl_RX6_9 rfl (by decide +kernel) hi
theorem e_X6_init_11 : Rn o d zX6_init 11 [.ref i] (st) w r = Rn o d zX6_init 12 [.ref i] (.ref i :: st) w r := rn_A (len := 1) dX6_init_11 rfl
theorem e_X6_init_12 : Rn o d zX6_init 12 [a0] (st) w r = Rn o d zX6_init 13 [a0] (.int (nI 4) :: st) w r := rn_int (len := 1) dX6_init_12 rfl (by decide)
theorem e_X6_init_13 {n9 s9 : Nat} (e1 : n + 1 = n9) (e2 : sl + j = s9) (hj : j ≤ 1000) (hn : n < 1000000) : Rn o d zX6_init 13 [a0] (.int (nI j) :: st) (n, sl, κ, rf, m, lg) r = Rn o d zX6_init 15 [a0] (.ref n :: st) (n9, s9, va_up κ n (0, j), va_up rf n (fun _ => none), va_up m n (fun _ => 0), va_up lg n (fun _ => 0)) r := by subst e1 e2; exact rg_newI dX6_init_13 ac_0 hj hn
theorem e_X6_init_15 (hi : i < n ∧ j < n ∧ (κ i).1 = 6 + 3) : Rn o d zX6_init 15 [a0] (.ref j :: .ref i :: st) (n, sl, κ, rf, m, lg) r = Rn o d zX6_init 18 [a0] (st) (n, sl, κ, ai_upR rf i 1 (some j), m, lg) r := rg_putR dX6_init_15 fl_RX6_15 rfl (by decide +kernel) hi
theorem e_X6_init_18 : Rn o d zX6_init 18 [.ref i] (st) w r = Rn o d zX6_init 19 [.ref i] (.ref i :: st) w r := rn_A (len := 1) dX6_init_18 rfl
theorem e_X6_init_19 : Rn o d zX6_init 19 [a0] (st) w r = Rn o d zX6_init 20 [a0] (.int (nI 4) :: st) w r := rn_int (len := 1) dX6_init_19 rfl (by decide)
theorem e_X6_init_20 {n9 s9 : Nat} (e1 : n + 1 = n9) (e2 : sl + j = s9) (hj : j ≤ 1000) (hn : n < 1000000) : Rn o d zX6_init 20 [a0] (.int (nI j) :: st) (n, sl, κ, rf, m, lg) r = Rn o d zX6_init 22 [a0] (.ref n :: st) (n9, s9, va_up κ n (0, j), va_up rf n (fun _ => none), va_up m n (fun _ => 0), va_up lg n (fun _ => 0)) r := by subst e1 e2; exact rg_newI dX6_init_20 ac_0 hj hn
theorem e_X6_init_22 (hi : i < n ∧ j < n ∧ (κ i).1 = 6 + 3) : Rn o d zX6_init 22 [a0] (.ref j :: .ref i :: st) (n, sl, κ, rf, m, lg) r = Rn o d zX6_init 25 [a0] (st) (n, sl, κ, ai_upR rf i 2 (some j), m, lg) r := rg_putR dX6_init_22 fl_RX6_18 rfl (by decide +kernel) hi
theorem e_X6_init_25 : Rn o d zX6_init 25 [.ref i] (st) w r = Rn o d zX6_init 26 [.ref i] (.ref i :: st) w r := rn_A (len := 1) dX6_init_25 rfl
theorem e_X6_init_26 : Rn o d zX6_init 26 [a0] (st) w r = Rn o d zX6_init 27 [a0] (.int (nI 5) :: st) w r := rn_int (len := 1) dX6_init_26 rfl (by decide)
theorem e_X6_init_27 {n9 s9 : Nat} (e1 : n + 1 = n9) (e2 : sl + j = s9) (hj : j ≤ 1000) (hn : n < 1000000) : Rn o d zX6_init 27 [a0] (.int (nI j) :: st) (n, sl, κ, rf, m, lg) r = Rn o d zX6_init 29 [a0] (.ref n :: st) (n9, s9, va_up κ n (0, j), va_up rf n (fun _ => none), va_up m n (fun _ => 0), va_up lg n (fun _ => 0)) r := by subst e1 e2; exact rg_newI dX6_init_27 ac_0 hj hn
theorem e_X6_init_29 (hi : i < n ∧ j < n ∧ (κ i).1 = 6 + 3) : Rn o d zX6_init 29 [a0] (.ref j :: .ref i :: st) (n, sl, κ, rf, m, lg) r = Rn o d zX6_init 32 [a0] (st) (n, sl, κ, ai_upR rf i 3 (some j), m, lg) r := rg_putR dX6_init_29 fl_RX6_21 rfl (by decide +kernel) hi
theorem e_X6_init_32 : Rn o d zX6_init 32 [.ref i] (st) w r = Rn o d zX6_init 33 [.ref i] (.ref i :: st) w r := rn_A (len := 1) dX6_init_32 rfl
theorem e_X6_init_33 : Rn o d zX6_init 33 [a0] (st) w r = Rn o d zX6_init 34 [a0] (.int (nI 5) :: st) w r := rn_int (len := 1) dX6_init_33 rfl (by decide)
theorem e_X6_init_34 {n9 s9 : Nat} (e1 : n + 1 = n9) (e2 : sl + j = s9) (hj : j ≤ 1000) (hn : n < 1000000) : Rn o d zX6_init 34 [a0] (.int (nI j) :: st) (n, sl, κ, rf, m, lg) r = Rn o d zX6_init 36 [a0] (.ref n :: st) (n9, s9, va_up κ n (0, j), va_up rf n (fun _ => none), va_up m n (fun _ => 0), va_up lg n (fun _ => 0)) r := by subst e1 e2; exact rg_newI dX6_init_34 ac_0 hj hn
theorem e_X6_init_36 (hi : i < n ∧ j < n ∧ (κ i).1 = 6 + 3) : Rn o d zX6_init 36 [a0] (.ref j :: .ref i :: st) (n, sl, κ, rf, m, lg) r = Rn o d zX6_init 39 [a0] (st) (n, sl, κ, ai_upR rf i 4 (some j), m, lg) r := rg_putR dX6_init_36 fl_RX6_24 rfl (by decide +kernel) hi
theorem e_X6_init_39 : Rn o d zX6_init 39 [.ref i] (st) w r = Rn o d zX6_init 40 [.ref i] (.ref i :: st) w r := rn_A (len := 1) dX6_init_39 rfl
theorem e_X6_init_40 : Rn o d zX6_init 40 [a0] (st) w r = Rn o d zX6_init 41 [a0] (.int (nI 0) :: st) w r := rn_int (len := 1) dX6_init_40 rfl (by decide)
theorem e_X6_init_41 (hi : i < n ∧ (κ i).1 = 6 + 3) : Rn o d zX6_init 41 [a0] (.int x :: .ref i :: st) (n, sl, κ, rf, m, lg) r = Rn o d zX6_init 44 [a0] (st) (n, sl, κ, rf, (ai_up m i 5 x), lg) r := rg_putI dX6_init_41 fl_RX6_27 rfl (by decide +kernel) hi
theorem e_X6_init_44 : Rn o d zX6_init 44 [.ref i] (st) w r = Rn o d zX6_init 45 [.ref i] (.ref i :: st) w r := rn_A (len := 1) dX6_init_44 rfl
theorem e_X6_init_45 : Rn o d zX6_init 45 [a0] (st) w r = Rn o d zX6_init 46 [a0] (.int (nI 0) :: st) w r := rn_int (len := 1) dX6_init_45 rfl (by decide)
theorem e_X6_init_46 (hi : i < n ∧ (κ i).1 = 6 + 3) : Rn o d zX6_init 46 [a0] (.int x :: .ref i :: st) (n, sl, κ, rf, m, lg) r = Rn o d zX6_init 49 [a0] (st) (n, sl, κ, rf, (ai_up m i 6 x), lg) r := rg_putI dX6_init_46 fl_RX6_31 rfl (by decide +kernel) hi
theorem e_X6_init_49 : Rn o d zX6_init 49 [.ref i] (st) w r = Rn o d zX6_init 50 [.ref i] (.ref i :: st) w r := rn_A (len := 1) dX6_init_49 rfl
theorem e_X6_init_50 : Rn o d zX6_init 50 [a0] (st) w r = Rn o d zX6_init 51 [a0] (.int (nI 0) :: st) w r := rn_int (len := 1) dX6_init_50 rfl (by decide)
theorem e_X6_init_51 (hi : i < n ∧ (κ i).1 = 6 + 3) : Rn o d zX6_init 51 [a0] (.int x :: .ref i :: st) (n, sl, κ, rf, m, lg) r = Rn o d zX6_init 54 [a0] (st) (n, sl, κ, rf, (ai_up m i 7 x), lg) r := rg_putI dX6_init_51 fl_RX6_34 rfl (by decide +kernel) hi
theorem e_X6_init_54 : Rn o d zX6_init 54 [.ref i] (st) w r = Rn o d zX6_init 55 [.ref i] (.ref i :: st) w r := rn_A (len := 1) dX6_init_54 rfl
theorem e_X6_init_55 : Rn o d zX6_init 55 [a0] (st) w r = Rn o d zX6_init 56 [a0] (.int (nI 0) :: st) w r := rn_int (len := 1) dX6_init_55 rfl (by decide)
theorem e_X6_init_56 (hi : i < n ∧ (κ i).1 = 6 + 3) : Rn o d zX6_init 56 [a0] (.int x :: .ref i :: st) (n, sl, κ, rf, m, lg) r = Rn o d zX6_init 59 [a0] (st) (n, sl, κ, rf, (ai_up m i 8 x), lg) r := rg_putI dX6_init_56 fl_RX6_37 rfl (by decide +kernel) hi
theorem e_X6_init_59 : Rn o d zX6_init 59 [.ref i] (st) w r = Rn o d zX6_init 60 [.ref i] (.ref i :: st) w r := rn_A (len := 1) dX6_init_59 rfl
theorem e_X6_init_60 : Rn o d zX6_init 60 [a0] (st) w r = Rn o d zX6_init 62 [a0] (.int (-9) :: st) w r := rn_int (len := 2) dX6_init_60 rfl (by decide)
theorem e_X6_init_62 (hi : i < n ∧ (κ i).1 = 6 + 3) : Rn o d zX6_init 62 [a0] (.int x :: .ref i :: st) (n, sl, κ, rf, m, lg) r = Rn o d zX6_init 65 [a0] (st) (n, sl, κ, rf, (ai_up m i 9 x), lg) r := rg_putI dX6_init_62 fl_RX6_40 rfl (by decide +kernel) hi
theorem e_X6_init_65 : Rn o d zX6_init 65 [a0] [] w r = ((none, w) = r) := rn_R dX6_init_65 rfl
def zX2_init : ai_Mi := (yX2_init, cX2_init, 2, none)
theorem ev_X2_init {s0 : Nat} {v : Option Value} {w' : ai_W} : Ev o d zX2_init [.ref i, .ref s0] w v w' = Rn o d zX2_init 0 [.ref i, .ref s0] [] w (v, w') := rfl
theorem e_X2_init_0 : Rn o d zX2_init 0 [.ref i, a1] (st) w r = Rn o d zX2_init 1 [.ref i, a1] (.ref i :: st) w r := rn_A (len := 1) dX2_init_0 rfl
theorem e_X2_init_1 {s0 : Nat} : Rn o (d + 1) zX2_init 1 [a0, a1] ([.ref s0]) w r = Rn o (d + 1) zX2_init 4 [a0, a1] ([]) w r := rn_objInit dX2_init_1 ml_RX2_3 oi_1 oi_2 (Nat.le_of_ble_eq_true rfl)
theorem e_X2_init_4 : Rn o d zX2_init 4 [.ref i, a1] (st) w r = Rn o d zX2_init 5 [.ref i, a1] (.ref i :: st) w r := rn_A (len := 1) dX2_init_4 rfl
theorem e_X2_init_5 : Rn o d zX2_init 5 [a0, a1] (st) w r = Rn o d zX2_init 6 [a0, a1] (.int (nI 5) :: st) w r := rn_int (len := 1) dX2_init_5 rfl (by decide)
theorem e_X2_init_6 {n9 s9 : Nat} (e1 : n + 1 = n9) (e2 : sl + j = s9) (hj : j ≤ 1000) (hn : n < 1000000) : Rn o d zX2_init 6 [a0, a1] (.int (nI j) :: st) (n, sl, κ, rf, m, lg) r = Rn o d zX2_init 8 [a0, a1] (.ref n :: st) (n9, s9, va_up κ n (0, j), va_up rf n (fun _ => none), va_up m n (fun _ => 0), va_up lg n (fun _ => 0)) r := by subst e1 e2; exact rg_newI dX2_init_6 ac_0 hj hn
theorem e_X2_init_8 (hi : i < n ∧ j < n ∧ (κ i).1 = 2 + 3) : Rn o d zX2_init 8 [a0, a1] (.ref j :: .ref i :: st) (n, sl, κ, rf, m, lg) r = Rn o d zX2_init 11 [a0, a1] (st) (n, sl, κ, ai_upR rf i 1 (some j), m, lg) r := rg_putR dX2_init_8 fl_RX2_9 rfl (by decide +kernel) hi
theorem e_X2_init_11 : Rn o d zX2_init 11 [.ref i, a1] (st) w r = Rn o d zX2_init 12 [.ref i, a1] (.ref i :: st) w r := rn_A (len := 1) dX2_init_11 rfl
theorem e_X2_init_12 : Rn o d zX2_init 12 [a0, a1] (st) w r = Rn o d zX2_init 13 [a0, a1] (.int (nI 5) :: st) w r := rn_int (len := 1) dX2_init_12 rfl (by decide)
theorem e_X2_init_13 {n9 s9 : Nat} (e1 : n + 1 = n9) (e2 : sl + j = s9) (hj : j ≤ 1000) (hn : n < 1000000) : Rn o d zX2_init 13 [a0, a1] (.int (nI j) :: st) (n, sl, κ, rf, m, lg) r = Rn o d zX2_init 15 [a0, a1] (.ref n :: st) (n9, s9, va_up κ n (0, j), va_up rf n (fun _ => none), va_up m n (fun _ => 0), va_up lg n (fun _ => 0)) r := by subst e1 e2; exact rg_newI dX2_init_13 ac_0 hj hn
theorem e_X2_init_15 (hi : i < n ∧ j < n ∧ (κ i).1 = 2 + 3) : Rn o d zX2_init 15 [a0, a1] (.ref j :: .ref i :: st) (n, sl, κ, rf, m, lg) r = Rn o d zX2_init 18 [a0, a1] (st) (n, sl, κ, ai_upR rf i 2 (some j), m, lg) r := rg_putR dX2_init_15 fl_RX2_15 rfl (by decide +kernel) hi
theorem e_X2_init_18 : Rn o d zX2_init 18 [.ref i, a1] (st) w r = Rn o d zX2_init 19 [.ref i, a1] (.ref i :: st) w r := rn_A (len := 1) dX2_init_18 rfl
theorem e_X2_init_19 : Rn o d zX2_init 19 [a0, a1] (st) w r = Rn o d zX2_init 20 [a0, a1] (.int (nI 5) :: st) w r := rn_int (len := 1) dX2_init_19 rfl (by decide)
theorem e_X2_init_20 {n9 s9 : Nat} (e1 : n + 1 = n9) (e2 : sl + j = s9) (hj : j ≤ 1000) (hn : n < 1000000) : Rn o d zX2_init 20 [a0, a1] (.int (nI j) :: st) (n, sl, κ, rf, m, lg) r = Rn o d zX2_init 22 [a0, a1] (.ref n :: st) (n9, s9, va_up κ n (0, j), va_up rf n (fun _ => none), va_up m n (fun _ => 0), va_up lg n (fun _ => 0)) r := by subst e1 e2; exact rg_newI dX2_init_20 ac_0 hj hn
theorem e_X2_init_22 (hi : i < n ∧ j < n ∧ (κ i).1 = 2 + 3) : Rn o d zX2_init 22 [a0, a1] (.ref j :: .ref i :: st) (n, sl, κ, rf, m, lg) r = Rn o d zX2_init 25 [a0, a1] (st) (n, sl, κ, ai_upR rf i 3 (some j), m, lg) r := rg_putR dX2_init_22 fl_RX2_18 rfl (by decide +kernel) hi
theorem e_X2_init_25 : Rn o d zX2_init 25 [.ref i, a1] (st) w r = Rn o d zX2_init 26 [.ref i, a1] (.ref i :: st) w r := rn_A (len := 1) dX2_init_25 rfl
theorem e_X2_init_26 : Rn o d zX2_init 26 [a0, a1] (st) w r = Rn o d zX2_init 27 [a0, a1] (.int (nI 4) :: st) w r := rn_int (len := 1) dX2_init_26 rfl (by decide)
theorem e_X2_init_27 {n9 s9 : Nat} (e1 : n + 1 = n9) (e2 : sl + j = s9) (hj : j ≤ 1000) (hn : n < 1000000) : Rn o d zX2_init 27 [a0, a1] (.int (nI j) :: st) (n, sl, κ, rf, m, lg) r = Rn o d zX2_init 29 [a0, a1] (.ref n :: st) (n9, s9, va_up κ n (0, j), va_up rf n (fun _ => none), va_up m n (fun _ => 0), va_up lg n (fun _ => 0)) r := by subst e1 e2; exact rg_newI dX2_init_27 ac_0 hj hn
theorem e_X2_init_29 (hi : i < n ∧ j < n ∧ (κ i).1 = 2 + 3) : Rn o d zX2_init 29 [a0, a1] (.ref j :: .ref i :: st) (n, sl, κ, rf, m, lg) r = Rn o d zX2_init 32 [a0, a1] (st) (n, sl, κ, ai_upR rf i 4 (some j), m, lg) r := rg_putR dX2_init_29 fl_RX2_21 rfl (by decide +kernel) hi
theorem e_X2_init_32 : Rn o d zX2_init 32 [.ref i, a1] (st) w r = Rn o d zX2_init 33 [.ref i, a1] (.ref i :: st) w r := rn_A (len := 1) dX2_init_32 rfl
theorem e_X2_init_33 : Rn o d zX2_init 33 [a0, a1] (st) w r = Rn o d zX2_init 34 [a0, a1] (.int (nI 4) :: st) w r := rn_int (len := 1) dX2_init_33 rfl (by decide)
theorem e_X2_init_34 {n9 s9 : Nat} (e1 : n + 1 = n9) (e2 : sl + j = s9) (hj : j ≤ 1000) (hn : n < 1000000) : Rn o d zX2_init 34 [a0, a1] (.int (nI j) :: st) (n, sl, κ, rf, m, lg) r = Rn o d zX2_init 36 [a0, a1] (.ref n :: st) (n9, s9, va_up κ n (0, j), va_up rf n (fun _ => none), va_up m n (fun _ => 0), va_up lg n (fun _ => 0)) r := by subst e1 e2; exact rg_newI dX2_init_34 ac_0 hj hn
theorem e_X2_init_36 (hi : i < n ∧ j < n ∧ (κ i).1 = 2 + 3) : Rn o d zX2_init 36 [a0, a1] (.ref j :: .ref i :: st) (n, sl, κ, rf, m, lg) r = Rn o d zX2_init 39 [a0, a1] (st) (n, sl, κ, ai_upR rf i 5 (some j), m, lg) r := rg_putR dX2_init_36 fl_RX2_24 rfl (by decide +kernel) hi
theorem e_X2_init_39 : Rn o d zX2_init 39 [.ref i, a1] (st) w r = Rn o d zX2_init 40 [.ref i, a1] (.ref i :: st) w r := rn_A (len := 1) dX2_init_39 rfl
theorem e_X2_init_40 : Rn o d zX2_init 40 [a0, a1] (st) w r = Rn o d zX2_init 41 [a0, a1] (.int (nI 0) :: st) w r := rn_int (len := 1) dX2_init_40 rfl (by decide)
theorem e_X2_init_41 (hi : i < n ∧ (κ i).1 = 2 + 3) : Rn o d zX2_init 41 [a0, a1] (.int x :: .ref i :: st) (n, sl, κ, rf, m, lg) r = Rn o d zX2_init 44 [a0, a1] (st) (n, sl, κ, rf, (ai_up m i 6 x), lg) r := rg_putI dX2_init_41 fl_RX2_27 rfl (by decide +kernel) hi
theorem e_X2_init_44 : Rn o d zX2_init 44 [.ref i, a1] (st) w r = Rn o d zX2_init 45 [.ref i, a1] (.ref i :: st) w r := rn_A (len := 1) dX2_init_44 rfl
theorem e_X2_init_45 : Rn o d zX2_init 45 [a0, .ref i] (st) w r = Rn o d zX2_init 46 [a0, .ref i] (.ref i :: st) w r := rn_A (len := 1) dX2_init_45 rfl
theorem e_X2_init_46 (hi : i < n ∧ j < n ∧ (κ i).1 = 2 + 3) : Rn o d zX2_init 46 [a0, a1] (.ref j :: .ref i :: st) (n, sl, κ, rf, m, lg) r = Rn o d zX2_init 49 [a0, a1] (st) (n, sl, κ, ai_upR rf i 0 (some j), m, lg) r := rg_putR dX2_init_46 fl_RX2_31 rfl (by decide +kernel) hi
theorem e_X2_init_49 : Rn o d zX2_init 49 [a0, a1] [] w r = ((none, w) = r) := rn_R dX2_init_49 rfl
def zX4_init : ai_Mi := (yX4_init, cX4_init, 1, none)
theorem ev_X4_init  {v : Option Value} {w' : ai_W} : Ev o d zX4_init [.ref i] w v w' = Rn o d zX4_init 0 [.ref i] [] w (v, w') := rfl
theorem e_X4_init_0 : Rn o d zX4_init 0 [.ref i] (st) w r = Rn o d zX4_init 1 [.ref i] (.ref i :: st) w r := rn_A (len := 1) dX4_init_0 rfl
theorem e_X4_init_1 {s0 : Nat} : Rn o (d + 1) zX4_init 1 [a0] ([.ref s0]) w r = Rn o (d + 1) zX4_init 4 [a0] ([]) w r := rn_objInit dX4_init_1 ml_RX4_3 oi_1 oi_2 (Nat.le_of_ble_eq_true rfl)
theorem e_X4_init_4 : Rn o d zX4_init 4 [.ref i] (st) w r = Rn o d zX4_init 5 [.ref i] (.ref i :: st) w r := rn_A (len := 1) dX4_init_4 rfl
theorem e_X4_init_5 : Rn o d zX4_init 5 [a0] (st) w r = Rn o d zX4_init 7 [a0] (.int (nI 6) :: st) w r := rn_int (len := 2) dX4_init_5 rfl (by decide)
theorem e_X4_init_7 {n9 s9 : Nat} (e1 : n + 1 = n9) (e2 : sl + j = s9) (hj : j ≤ 1000) (hn : n < 1000000) : Rn o d zX4_init 7 [a0] (.int (nI j) :: st) (n, sl, κ, rf, m, lg) r = Rn o d zX4_init 9 [a0] (.ref n :: st) (n9, s9, va_up κ n (0, j), va_up rf n (fun _ => none), va_up m n (fun _ => 0), va_up lg n (fun _ => 0)) r := by subst e1 e2; exact rg_newI dX4_init_7 ac_0 hj hn
theorem e_X4_init_9 (hi : i < n ∧ j < n ∧ (κ i).1 = 4 + 3) : Rn o d zX4_init 9 [a0] (.ref j :: .ref i :: st) (n, sl, κ, rf, m, lg) r = Rn o d zX4_init 12 [a0] (st) (n, sl, κ, ai_upR rf i 0 (some j), m, lg) r := rg_putR dX4_init_9 fl_RX4_9 rfl (by decide +kernel) hi
theorem e_X4_init_12 : Rn o d zX4_init 12 [.ref i] (st) w r = Rn o d zX4_init 13 [.ref i] (.ref i :: st) w r := rn_A (len := 1) dX4_init_12 rfl
theorem e_X4_init_13 : Rn o d zX4_init 13 [a0] (st) w r = Rn o d zX4_init 15 [a0] (.int (nI 6) :: st) w r := rn_int (len := 2) dX4_init_13 rfl (by decide)
theorem e_X4_init_15 {n9 s9 : Nat} (e1 : n + 1 = n9) (e2 : sl + j = s9) (hj : j ≤ 1000) (hn : n < 1000000) : Rn o d zX4_init 15 [a0] (.int (nI j) :: st) (n, sl, κ, rf, m, lg) r = Rn o d zX4_init 17 [a0] (.ref n :: st) (n9, s9, va_up κ n (0, j), va_up rf n (fun _ => none), va_up m n (fun _ => 0), va_up lg n (fun _ => 0)) r := by subst e1 e2; exact rg_newI dX4_init_15 ac_0 hj hn
theorem e_X4_init_17 (hi : i < n ∧ j < n ∧ (κ i).1 = 4 + 3) : Rn o d zX4_init 17 [a0] (.ref j :: .ref i :: st) (n, sl, κ, rf, m, lg) r = Rn o d zX4_init 20 [a0] (st) (n, sl, κ, ai_upR rf i 1 (some j), m, lg) r := rg_putR dX4_init_17 fl_RX4_15 rfl (by decide +kernel) hi
theorem e_X4_init_20 : Rn o d zX4_init 20 [.ref i] (st) w r = Rn o d zX4_init 21 [.ref i] (.ref i :: st) w r := rn_A (len := 1) dX4_init_20 rfl
theorem e_X4_init_21 : Rn o d zX4_init 21 [a0] (st) w r = Rn o d zX4_init 23 [a0] (.int (nI 6) :: st) w r := rn_int (len := 2) dX4_init_21 rfl (by decide)
theorem e_X4_init_23 {n9 s9 : Nat} (e1 : n + 1 = n9) (e2 : sl + j = s9) (hj : j ≤ 1000) (hn : n < 1000000) : Rn o d zX4_init 23 [a0] (.int (nI j) :: st) (n, sl, κ, rf, m, lg) r = Rn o d zX4_init 25 [a0] (.ref n :: st) (n9, s9, va_up κ n (1, j), va_up rf n (fun _ => none), va_up m n (fun _ => 0), va_up lg n (fun _ => 0)) r := by subst e1 e2; exact rg_newZ dX4_init_23 ac_1 hj hn
theorem e_X4_init_25 (hi : i < n ∧ j < n ∧ (κ i).1 = 4 + 3) : Rn o d zX4_init 25 [a0] (.ref j :: .ref i :: st) (n, sl, κ, rf, m, lg) r = Rn o d zX4_init 28 [a0] (st) (n, sl, κ, ai_upR rf i 2 (some j), m, lg) r := rg_putR dX4_init_25 fl_RX4_18 rfl (by decide +kernel) hi
theorem e_X4_init_28 : Rn o d zX4_init 28 [.ref i] (st) w r = Rn o d zX4_init 29 [.ref i] (.ref i :: st) w r := rn_A (len := 1) dX4_init_28 rfl
theorem e_X4_init_29 : Rn o d zX4_init 29 [a0] (st) w r = Rn o d zX4_init 30 [a0] (.int (nI 0) :: st) w r := rn_int (len := 1) dX4_init_29 rfl (by decide)
theorem e_X4_init_30 (hi : i < n ∧ (κ i).1 = 4 + 3) : Rn o d zX4_init 30 [a0] (.int x :: .ref i :: st) (n, sl, κ, rf, m, lg) r = Rn o d zX4_init 33 [a0] (st) (n, sl, κ, rf, (ai_up m i 3 x), lg) r := rg_putI dX4_init_30 fl_RX4_22 rfl (by decide +kernel) hi
theorem e_X4_init_33 : Rn o d zX4_init 33 [a0] [] w r = ((none, w) = r) := rn_R dX4_init_33 rfl
def zX3_init : ai_Mi := (yX3_init, cX3_init, 3, none)
theorem ev_X3_init {s0 : Nat} {s1 : Nat} {v : Option Value} {w' : ai_W} : Ev o d zX3_init [.ref i, .ref s0, .ref s1] w v w' = Rn o d zX3_init 0 [.ref i, .ref s0, .ref s1] [] w (v, w') := rfl
theorem e_X3_init_0 : Rn o d zX3_init 0 [.ref i, a1, a2] (st) w r = Rn o d zX3_init 1 [.ref i, a1, a2] (.ref i :: st) w r := rn_A (len := 1) dX3_init_0 rfl
theorem e_X3_init_1 {s0 : Nat} : Rn o (d + 1) zX3_init 1 [a0, a1, a2] ([.ref s0]) w r = Rn o (d + 1) zX3_init 4 [a0, a1, a2] ([]) w r := rn_objInit dX3_init_1 ml_RX3_3 oi_1 oi_2 (Nat.le_of_ble_eq_true rfl)
theorem e_X3_init_4 : Rn o d zX3_init 4 [.ref i, a1, a2] (st) w r = Rn o d zX3_init 5 [.ref i, a1, a2] (.ref i :: st) w r := rn_A (len := 1) dX3_init_4 rfl
theorem e_X3_init_5 : Rn o d zX3_init 5 [a0, a1, a2] (st) w r = Rn o d zX3_init 6 [a0, a1, a2] (.int (nI 0) :: st) w r := rn_int (len := 1) dX3_init_5 rfl (by decide)
theorem e_X3_init_6 (hi : i < n ∧ (κ i).1 = 3 + 3) : Rn o d zX3_init 6 [a0, a1, a2] (.int x :: .ref i :: st) (n, sl, κ, rf, m, lg) r = Rn o d zX3_init 9 [a0, a1, a2] (st) (n, sl, κ, rf, (ai_up m i 2 x), lg) r := rg_putI dX3_init_6 fl_RX3_9 rfl (by decide +kernel) hi
theorem e_X3_init_9 : Rn o d zX3_init 9 [.ref i, a1, a2] (st) w r = Rn o d zX3_init 10 [.ref i, a1, a2] (.ref i :: st) w r := rn_A (len := 1) dX3_init_9 rfl
theorem e_X3_init_10 : Rn o d zX3_init 10 [a0, a1, a2] (st) w r = Rn o d zX3_init 11 [a0, a1, a2] (.int (nI 0) :: st) w r := rn_int (len := 1) dX3_init_10 rfl (by decide)
theorem e_X3_init_11 (hi : i < n ∧ (κ i).1 = 3 + 3) : Rn o d zX3_init 11 [a0, a1, a2] (.int x :: .ref i :: st) (n, sl, κ, rf, m, lg) r = Rn o d zX3_init 14 [a0, a1, a2] (st) (n, sl, κ, rf, (ai_up m i 3 x), lg) r := rg_putI dX3_init_11 fl_RX3_15 rfl (by decide +kernel) hi
theorem e_X3_init_14 : Rn o d zX3_init 14 [.ref i, a1, a2] (st) w r = Rn o d zX3_init 15 [.ref i, a1, a2] (.ref i :: st) w r := rn_A (len := 1) dX3_init_14 rfl
theorem e_X3_init_15 : Rn o d zX3_init 15 [a0, a1, a2] (st) w r = Rn o d zX3_init 16 [a0, a1, a2] (.int (nI 0) :: st) w r := rn_int (len := 1) dX3_init_15 rfl (by decide)
theorem e_X3_init_16 (hi : i < n ∧ (κ i).1 = 3 + 3) : Rn o d zX3_init 16 [a0, a1, a2] (.int x :: .ref i :: st) (n, sl, κ, rf, m, lg) r = Rn o d zX3_init 19 [a0, a1, a2] (st) (n, sl, κ, rf, (ai_up m i 4 x), lg) r := rg_putI dX3_init_16 fl_RX3_18 rfl (by decide +kernel) hi
theorem e_X3_init_19 : Rn o d zX3_init 19 [.ref i, a1, a2] (st) w r = Rn o d zX3_init 20 [.ref i, a1, a2] (.ref i :: st) w r := rn_A (len := 1) dX3_init_19 rfl
theorem e_X3_init_20 : Rn o d zX3_init 20 [a0, .ref i, a2] (st) w r = Rn o d zX3_init 21 [a0, .ref i, a2] (.ref i :: st) w r := rn_A (len := 1) dX3_init_20 rfl
theorem e_X3_init_21 (hi : i < n ∧ j < n ∧ (κ i).1 = 3 + 3) : Rn o d zX3_init 21 [a0, a1, a2] (.ref j :: .ref i :: st) (n, sl, κ, rf, m, lg) r = Rn o d zX3_init 24 [a0, a1, a2] (st) (n, sl, κ, ai_upR rf i 0 (some j), m, lg) r := rg_putR dX3_init_21 fl_RX3_21 rfl (by decide +kernel) hi
theorem e_X3_init_24 : Rn o d zX3_init 24 [.ref i, a1, a2] (st) w r = Rn o d zX3_init 25 [.ref i, a1, a2] (.ref i :: st) w r := rn_A (len := 1) dX3_init_24 rfl
theorem e_X3_init_25 : Rn o d zX3_init 25 [a0, a1, .ref i] (st) w r = Rn o d zX3_init 26 [a0, a1, .ref i] (.ref i :: st) w r := rn_A (len := 1) dX3_init_25 rfl
theorem e_X3_init_26 (hi : i < n ∧ j < n ∧ (κ i).1 = 3 + 3) : Rn o d zX3_init 26 [a0, a1, a2] (.ref j :: .ref i :: st) (n, sl, κ, rf, m, lg) r = Rn o d zX3_init 29 [a0, a1, a2] (st) (n, sl, κ, ai_upR rf i 1 (some j), m, lg) r := rg_putR dX3_init_26 fl_RX3_25 rfl (by decide +kernel) hi
theorem e_X3_init_29 : Rn o d zX3_init 29 [a0, a1, a2] [] w r = ((none, w) = r) := rn_R dX3_init_29 rfl
def zX1_init : ai_Mi := (yX1_init, cX1_init, 3, none)
theorem ev_X1_init {s0 : Nat} {s1 : Nat} {v : Option Value} {w' : ai_W} : Ev o d zX1_init [.ref i, .ref s0, .ref s1] w v w' = Rn o d zX1_init 0 [.ref i, .ref s0, .ref s1] [] w (v, w') := rfl
theorem e_X1_init_0 : Rn o d zX1_init 0 [.ref i, a1, a2] (st) w r = Rn o d zX1_init 1 [.ref i, a1, a2] (.ref i :: st) w r := rn_A (len := 1) dX1_init_0 rfl
theorem e_X1_init_1 {s0 : Nat} : Rn o (d + 1) zX1_init 1 [a0, a1, a2] ([.ref s0]) w r = Rn o (d + 1) zX1_init 4 [a0, a1, a2] ([]) w r := rn_objInit dX1_init_1 ml_RX1_3 oi_1 oi_2 (Nat.le_of_ble_eq_true rfl)
theorem e_X1_init_4 : Rn o d zX1_init 4 [.ref i, a1, a2] (st) w r = Rn o d zX1_init 5 [.ref i, a1, a2] (.ref i :: st) w r := rn_A (len := 1) dX1_init_4 rfl
theorem e_X1_init_5 : Rn o d zX1_init 5 [a0, .ref i, a2] (st) w r = Rn o d zX1_init 6 [a0, .ref i, a2] (.ref i :: st) w r := rn_A (len := 1) dX1_init_5 rfl
theorem e_X1_init_6 (hi : i < n ∧ j < n ∧ (κ i).1 = 1 + 3) : Rn o d zX1_init 6 [a0, a1, a2] (.ref j :: .ref i :: st) (n, sl, κ, rf, m, lg) r = Rn o d zX1_init 9 [a0, a1, a2] (st) (n, sl, κ, ai_upR rf i 0 (some j), m, lg) r := rg_putR dX1_init_6 fl_RX1_9 rfl (by decide +kernel) hi
theorem e_X1_init_9 : Rn o d zX1_init 9 [.ref i, a1, a2] (st) w r = Rn o d zX1_init 10 [.ref i, a1, a2] (.ref i :: st) w r := rn_A (len := 1) dX1_init_9 rfl
theorem e_X1_init_10 : Rn o d zX1_init 10 [a0, a1, .ref i] (st) w r = Rn o d zX1_init 11 [a0, a1, .ref i] (.ref i :: st) w r := rn_A (len := 1) dX1_init_10 rfl
theorem e_X1_init_11 (hi : i < n ∧ j < n ∧ (κ i).1 = 1 + 3) : Rn o d zX1_init 11 [a0, a1, a2] (.ref j :: .ref i :: st) (n, sl, κ, rf, m, lg) r = Rn o d zX1_init 14 [a0, a1, a2] (st) (n, sl, κ, ai_upR rf i 1 (some j), m, lg) r := rg_putR dX1_init_11 fl_RX1_15 rfl (by decide +kernel) hi
theorem e_X1_init_14 : Rn o d zX1_init 14 [a0, a1, a2] [] w r = ((none, w) = r) := rn_R dX1_init_14 rfl
def zX0_init : ai_Mi := (yX0_init, cX0_init, 3, none)
theorem ev_X0_init {s0 : Nat} {v : Option Value} {w' : ai_W} : Ev o d zX0_init [.ref i, .ref s0] w v w' = Rn o d zX0_init 0 [.ref i, .ref s0, .null] [] w (v, w') := rfl
theorem e_X0_init_0 : Rn o d zX0_init 0 [.ref i, a1, a2] (st) w r = Rn o d zX0_init 1 [.ref i, a1, a2] (.ref i :: st) w r := rn_A (len := 1) dX0_init_0 rfl
theorem e_X0_init_1 {s0 : Nat} : Rn o (d + 1) zX0_init 1 [a0, a1, a2] ([.ref s0]) w r = Rn o (d + 1) zX0_init 4 [a0, a1, a2] ([]) w r := rn_objInit dX0_init_1 ml_RX0_3 oi_1 oi_2 (Nat.le_of_ble_eq_true rfl)
theorem e_X0_init_4 : Rn o d zX0_init 4 [.ref i, a1, a2] (st) w r = Rn o d zX0_init 5 [.ref i, a1, a2] (.ref i :: st) w r := rn_A (len := 1) dX0_init_4 rfl
theorem e_X0_init_5 : Rn o d zX0_init 5 [a0, a1, a2] (st) w r = Rn o d zX0_init 7 [a0, a1, a2] (.int (nI 14) :: st) w r := rn_int (len := 2) dX0_init_5 rfl (by decide)
theorem e_X0_init_7 {n9 s9 : Nat} (e1 : n + 1 = n9) (e2 : sl + j = s9) (hj : j ≤ 1000) (hn : n < 1000000) : Rn o d zX0_init 7 [a0, a1, a2] (.int (nI j) :: st) (n, sl, κ, rf, m, lg) r = Rn o d zX0_init 10 [a0, a1, a2] (.ref n :: st) (n9, s9, va_up κ n (2, j), va_up rf n (fun _ => none), va_up m n (fun _ => 0), va_up lg n (fun _ => 0)) r := by subst e1 e2; exact rg_newR dX0_init_7 ck_RX0_9 hj hn
theorem e_X0_init_10 (hi : i < n ∧ j < n ∧ (κ i).1 = 0 + 3) : Rn o d zX0_init 10 [a0, a1, a2] (.ref j :: .ref i :: st) (n, sl, κ, rf, m, lg) r = Rn o d zX0_init 13 [a0, a1, a2] (st) (n, sl, κ, ai_upR rf i 0 (some j), m, lg) r := rg_putR dX0_init_10 fl_RX0_11 rfl (by decide +kernel) hi
theorem e_X0_init_13 : Rn o d zX0_init 13 [.ref i, a1, a2] (st) w r = Rn o d zX0_init 14 [.ref i, a1, a2] (.ref i :: st) w r := rn_A (len := 1) dX0_init_13 rfl
theorem e_X0_init_14 : Rn o d zX0_init 14 [a0, a1, a2] (st) w r = Rn o d zX0_init 15 [a0, a1, a2] (.int (nI 0) :: st) w r := rn_int (len := 1) dX0_init_14 rfl (by decide)
theorem e_X0_init_15 (hi : i < n ∧ (κ i).1 = 0 + 3) : Rn o d zX0_init 15 [a0, a1, a2] (.int x :: .ref i :: st) (n, sl, κ, rf, m, lg) r = Rn o d zX0_init 18 [a0, a1, a2] (st) (n, sl, κ, rf, (ai_up m i 1 x), lg) r := rg_putI dX0_init_15 fl_RX0_17 rfl (by decide +kernel) hi
theorem e_X0_init_18 : Rn o d zX0_init 18 [.ref i, a1, a2] (st) w r = Rn o d zX0_init 19 [.ref i, a1, a2] (.ref i :: st) w r := rn_A (len := 1) dX0_init_18 rfl
theorem e_X0_init_19 : Rn o d zX0_init 19 [a0, a1, a2] (st) w r = Rn o d zX0_init 20 [a0, a1, a2] (.int (nI 0) :: st) w r := rn_int (len := 1) dX0_init_19 rfl (by decide)
theorem e_X0_init_20 (hi : i < n ∧ (κ i).1 = 0 + 3) : Rn o d zX0_init 20 [a0, a1, a2] (.int x :: .ref i :: st) (n, sl, κ, rf, m, lg) r = Rn o d zX0_init 23 [a0, a1, a2] (st) (n, sl, κ, rf, (ai_up m i 2 x), lg) r := rg_putI dX0_init_20 fl_RX0_21 rfl (by decide +kernel) hi
theorem e_X0_init_23 : Rn o d zX0_init 23 [a0, a1, a2] (st) w r = Rn o d zX0_init 24 [a0, a1, a2] (.int (nI 0) :: st) w r := rn_int (len := 1) dX0_init_23 rfl (by decide)
theorem e_X0_init_24 (h2 : ai_is2 (some a1) = false) : Rn o d zX0_init 24 [a0, a1, a2] (.int x :: st) w r = Rn o d zX0_init 25 [a0, a1, .int x] (st) w r := rn_sti0 (len := 1) (i := 2) dX0_init_24 rfl (Nat.le_of_ble_eq_true rfl) (Or.inr h2)
theorem e_X0_init_25 : Rn o d zX0_init 25 [a0, a1, .int x] (st) w r = Rn o d zX0_init 26 [a0, a1, .int x] (.int x :: st) w r := rn_A (len := 1) dX0_init_25 rfl
theorem e_X0_init_26 : Rn o d zX0_init 26 [a0, a1, a2] (st) w r = Rn o d zX0_init 28 [a0, a1, a2] (.int (nI 14) :: st) w r := rn_int (len := 2) dX0_init_26 rfl (by decide)
theorem e_X0_init_28 : Rn o d zX0_init 28 [a0, a1, a2] (.int y :: .int x :: st) w r = if y ≤ x then Rn o d zX0_init 51 [a0, a1, a2] st w r else Rn o d zX0_init 31 [a0, a1, a2] st w r := rn_br (off := 23) dX0_init_28 rfl (by decide)
theorem e_X0_init_31 : Rn o d zX0_init 31 [.ref i, a1, a2] (st) w r = Rn o d zX0_init 32 [.ref i, a1, a2] (.ref i :: st) w r := rn_A (len := 1) dX0_init_31 rfl
theorem e_X0_init_32 (hi : i < n ∧ (κ i).1 = 0 + 3) (hq : rf i 0 = some j) : Rn o d zX0_init 32 [a0, a1, a2] (.ref i :: st) (n, sl, κ, rf, m, lg) r = Rn o d zX0_init 35 [a0, a1, a2] (.ref j :: st) (n, sl, κ, rf, m, lg) r := rg_getR dX0_init_32 fl_RX0_11 rfl hi hq
theorem e_X0_init_35 : Rn o d zX0_init 35 [a0, a1, .int x] (st) w r = Rn o d zX0_init 36 [a0, a1, .int x] (.int x :: st) w r := rn_A (len := 1) dX0_init_35 rfl
theorem e_X0_init_36 {n9 s9 : Nat} (e1 : n + 1 = n9) (e2 : sl + 7 = s9) (hn : n < 1000000) : Rn o d zX0_init 36 [a0, a1, a2] (st) (n, sl, κ, rf, m, lg) r = Rn o d zX0_init 39 [a0, a1, a2] (.ref n :: st) (n9, s9, va_up κ n (2 + 3, 7), va_up rf n (fun _ => none), va_up m n (fun _ => 0), va_up lg n (fun _ => 0)) r := by subst e1 e2; exact rg_new (ci := 2) (q := (RX2, TX2, 7)) dX0_init_36 cs_RX0_9 rfl hn
theorem e_X0_init_39 : Rn o d zX0_init 39 [a0, a1, a2] (.ref i :: st) w r = Rn o d zX0_init 40 [a0, a1, a2] (.ref i :: .ref i :: st) w r := rn_A (len := 1) dX0_init_39 rfl
theorem e_X0_init_40 : Rn o d zX0_init 40 [a0, .ref i, a2] (st) w r = Rn o d zX0_init 41 [a0, .ref i, a2] (.ref i :: st) w r := rn_A (len := 1) dX0_init_40 rfl
theorem e_X0_init_41 {s0 : Nat} {t0 : Nat} {t1 : Int32} {t2 : Nat} {w' : ai_W} (hE : Ev o d zX2_init [.ref i, .ref s0] w none w') : Rn o (d + 1) zX0_init 41 [a0, a1, a2] ([.ref s0, .ref i, .ref t0, .int t1, .ref t2]) w r = Rn o (d + 1) zX0_init 44 [a0, a1, a2] ([.ref t0, .int t1, .ref t2]) w' r := rn_cI (n := 1) (b := i) (v := none) (As := [.ref s0]) (rest := [.ref t0, .int t1, .ref t2]) (zz := zX2_init) dX0_init_41 mn_RX0_24 cI_RX0_24 rfl (Nat.le_of_ble_eq_true rfl) hE
theorem e_X0_init_44 (hi : i < n ∧ k < n ∧ (κ k).1 = 5 ∧ (κ i).1 = 2) (hj : j < (κ i).2) (hj2 : j < 1000) : Rn o d zX0_init 44 [a0, a1, a2] (.ref k :: .int (nI j) :: .ref i :: st) (n, sl, κ, rf, m, lg) r = Rn o d zX0_init 45 [a0, a1, a2] (st) (n, sl, κ, ai_upR rf i j (some k), m, lg) r := rg_aastore dX0_init_44 hi hj hj2
theorem e_X0_init_45 (h2 : ai_is2 (some a1) = false) : Rn o d zX0_init 45 [a0, a1, .int x] (st) w r = Rn o d zX0_init 48 [a0, a1, .int (x + (nI 1))] (st) w r := rn_iinc (i := 2) (n := 1) (c := (nI 1)) dX0_init_45 rfl (by decide) (Nat.le_of_ble_eq_true rfl) (Or.inr h2)
theorem e_X0_init_48 : Rn o d zX0_init 48 [a0, a1, a2] (st) w r = Rn o d zX0_init 25 [a0, a1, a2] (st) w r := rn_goto dX0_init_48 (by decide)
theorem e_X0_init_51 : Rn o d zX0_init 51 [a0, a1, a2] [] w r = ((none, w) = r) := rn_R dX0_init_51 rfl
def zX7_init : ai_Mi := (yX7_init, cX7_init, 2, none)
theorem ev_X7_init  {v : Option Value} {w' : ai_W} : Ev o d zX7_init [.ref i] w v w' = Rn o d zX7_init 0 [.ref i, .null] [] w (v, w') := rfl
theorem e_X7_init_0 : Rn o d zX7_init 0 [.ref i, a1] (st) w r = Rn o d zX7_init 1 [.ref i, a1] (.ref i :: st) w r := rn_A (len := 1) dX7_init_0 rfl
theorem e_X7_init_1 {s0 : Nat} : Rn o (d + 1) zX7_init 1 [a0, a1] ([.ref s0]) w r = Rn o (d + 1) zX7_init 4 [a0, a1] ([]) w r := rn_objInit dX7_init_1 ml_RX7_1 oi_1 oi_2 (Nat.le_of_ble_eq_true rfl)
theorem e_X7_init_4 : Rn o d zX7_init 4 [.ref i, a1] (st) w r = Rn o d zX7_init 5 [.ref i, a1] (.ref i :: st) w r := rn_A (len := 1) dX7_init_4 rfl
theorem e_X7_init_5 {n9 s9 : Nat} (e1 : n + 1 = n9) (e2 : sl + 2 = s9) (hn : n < 1000000) : Rn o d zX7_init 5 [a0, a1] (st) (n, sl, κ, rf, m, lg) r = Rn o d zX7_init 8 [a0, a1] (.ref n :: st) (n9, s9, va_up κ n (5 + 3, 2), va_up rf n (fun _ => none), va_up m n (fun _ => 0), va_up lg n (fun _ => 0)) r := by subst e1 e2; exact rg_new (ci := 5) (q := (RX5, TX5, 2)) dX7_init_5 cs_RX7_7 rfl hn
theorem e_X7_init_8 : Rn o d zX7_init 8 [a0, a1] (.ref i :: st) w r = Rn o d zX7_init 9 [a0, a1] (.ref i :: .ref i :: st) w r := rn_A (len := 1) dX7_init_8 rfl
theorem e_X7_init_9 {t0 : Nat} {t1 : Nat} {w' : ai_W} (hE : Ev o d zX5_init [.ref i] w none w') : Rn o (d + 1) zX7_init 9 [a0, a1] ([.ref i, .ref t0, .ref t1]) w r = Rn o (d + 1) zX7_init 12 [a0, a1] ([.ref t0, .ref t1]) w' r := rn_cN (n := 0) (b := i) (v := none) (As := []) (rest := [.ref t0, .ref t1]) (zz := zX5_init) dX7_init_9 mn_RX7_9 c0_RX7_9 cN_RX7_9 rfl (Nat.le_of_ble_eq_true rfl) hE
theorem e_X7_init_12 (hi : i < n ∧ j < n ∧ (κ i).1 = 7 + 3) : Rn o d zX7_init 12 [a0, a1] (.ref j :: .ref i :: st) (n, sl, κ, rf, m, lg) r = Rn o d zX7_init 15 [a0, a1] (st) (n, sl, κ, ai_upR rf i 0 (some j), m, lg) r := rg_putR dX7_init_12 fl_RX7_10 rfl (by decide +kernel) hi
theorem e_X7_init_15 : Rn o d zX7_init 15 [.ref i, a1] (st) w r = Rn o d zX7_init 16 [.ref i, a1] (.ref i :: st) w r := rn_A (len := 1) dX7_init_15 rfl
theorem e_X7_init_16 {n9 s9 : Nat} (e1 : n + 1 = n9) (e2 : sl + 10 = s9) (hn : n < 1000000) : Rn o d zX7_init 16 [a0, a1] (st) (n, sl, κ, rf, m, lg) r = Rn o d zX7_init 19 [a0, a1] (.ref n :: st) (n9, s9, va_up κ n (6 + 3, 10), va_up rf n (fun _ => none), va_up m n (fun _ => 0), va_up lg n (fun _ => 0)) r := by subst e1 e2; exact rg_new (ci := 6) (q := (RX6, TX6, 10)) dX7_init_16 cs_RX7_16 rfl hn
theorem e_X7_init_19 : Rn o d zX7_init 19 [a0, a1] (.ref i :: st) w r = Rn o d zX7_init 20 [a0, a1] (.ref i :: .ref i :: st) w r := rn_A (len := 1) dX7_init_19 rfl
theorem e_X7_init_20 {t0 : Nat} {t1 : Nat} {w' : ai_W} (hE : Ev o d zX6_init [.ref i] w none w') : Rn o (d + 1) zX7_init 20 [a0, a1] ([.ref i, .ref t0, .ref t1]) w r = Rn o (d + 1) zX7_init 23 [a0, a1] ([.ref t0, .ref t1]) w' r := rn_cN (n := 0) (b := i) (v := none) (As := []) (rest := [.ref t0, .ref t1]) (zz := zX6_init) dX7_init_20 mn_RX7_18 c0_RX7_18 cN_RX7_18 rfl (Nat.le_of_ble_eq_true rfl) hE
theorem e_X7_init_23 (hi : i < n ∧ j < n ∧ (κ i).1 = 7 + 3) : Rn o d zX7_init 23 [a0, a1] (.ref j :: .ref i :: st) (n, sl, κ, rf, m, lg) r = Rn o d zX7_init 26 [a0, a1] (st) (n, sl, κ, ai_upR rf i 1 (some j), m, lg) r := rg_putR dX7_init_23 fl_RX7_19 rfl (by decide +kernel) hi
theorem e_X7_init_26 : Rn o d zX7_init 26 [.ref i, a1] (st) w r = Rn o d zX7_init 27 [.ref i, a1] (.ref i :: st) w r := rn_A (len := 1) dX7_init_26 rfl
theorem e_X7_init_27 {n9 s9 : Nat} (e1 : n + 1 = n9) (e2 : sl + 10 = s9) (hn : n < 1000000) : Rn o d zX7_init 27 [a0, a1] (st) (n, sl, κ, rf, m, lg) r = Rn o d zX7_init 30 [a0, a1] (.ref n :: st) (n9, s9, va_up κ n (6 + 3, 10), va_up rf n (fun _ => none), va_up m n (fun _ => 0), va_up lg n (fun _ => 0)) r := by subst e1 e2; exact rg_new (ci := 6) (q := (RX6, TX6, 10)) dX7_init_27 cs_RX7_16 rfl hn
theorem e_X7_init_30 : Rn o d zX7_init 30 [a0, a1] (.ref i :: st) w r = Rn o d zX7_init 31 [a0, a1] (.ref i :: .ref i :: st) w r := rn_A (len := 1) dX7_init_30 rfl
theorem e_X7_init_31 {t0 : Nat} {t1 : Nat} {w' : ai_W} (hE : Ev o d zX6_init [.ref i] w none w') : Rn o (d + 1) zX7_init 31 [a0, a1] ([.ref i, .ref t0, .ref t1]) w r = Rn o (d + 1) zX7_init 34 [a0, a1] ([.ref t0, .ref t1]) w' r := rn_cN (n := 0) (b := i) (v := none) (As := []) (rest := [.ref t0, .ref t1]) (zz := zX6_init) dX7_init_31 mn_RX7_18 c0_RX7_18 cN_RX7_18 rfl (Nat.le_of_ble_eq_true rfl) hE
theorem e_X7_init_34 (hi : i < n ∧ j < n ∧ (κ i).1 = 7 + 3) : Rn o d zX7_init 34 [a0, a1] (.ref j :: .ref i :: st) (n, sl, κ, rf, m, lg) r = Rn o d zX7_init 37 [a0, a1] (st) (n, sl, κ, ai_upR rf i 2 (some j), m, lg) r := rg_putR dX7_init_34 fl_RX7_23 rfl (by decide +kernel) hi
theorem e_X7_init_37 : Rn o d zX7_init 37 [.ref i, a1] (st) w r = Rn o d zX7_init 38 [.ref i, a1] (.ref i :: st) w r := rn_A (len := 1) dX7_init_37 rfl
theorem e_X7_init_38 {n9 s9 : Nat} (e1 : n + 1 = n9) (e2 : sl + 7 = s9) (hn : n < 1000000) : Rn o d zX7_init 38 [a0, a1] (st) (n, sl, κ, rf, m, lg) r = Rn o d zX7_init 41 [a0, a1] (.ref n :: st) (n9, s9, va_up κ n (2 + 3, 7), va_up rf n (fun _ => none), va_up m n (fun _ => 0), va_up lg n (fun _ => 0)) r := by subst e1 e2; exact rg_new (ci := 2) (q := (RX2, TX2, 7)) dX7_init_38 cs_RX7_26 rfl hn
theorem e_X7_init_41 : Rn o d zX7_init 41 [a0, a1] (.ref i :: st) w r = Rn o d zX7_init 42 [a0, a1] (.ref i :: .ref i :: st) w r := rn_A (len := 1) dX7_init_41 rfl
theorem e_X7_init_42 : Rn o d zX7_init 42 [.ref i, a1] (st) w r = Rn o d zX7_init 43 [.ref i, a1] (.ref i :: st) w r := rn_A (len := 1) dX7_init_42 rfl
theorem e_X7_init_43 (hi : i < n ∧ (κ i).1 = 7 + 3) (hq : rf i 1 = some j) : Rn o d zX7_init 43 [a0, a1] (.ref i :: st) (n, sl, κ, rf, m, lg) r = Rn o d zX7_init 46 [a0, a1] (.ref j :: st) (n, sl, κ, rf, m, lg) r := rg_getR dX7_init_43 fl_RX7_19 rfl hi hq
theorem e_X7_init_46 {s0 : Nat} {t0 : Nat} {t1 : Nat} {w' : ai_W} (hE : Ev o d zX2_init [.ref i, .ref s0] w none w') : Rn o (d + 1) zX7_init 46 [a0, a1] ([.ref s0, .ref i, .ref t0, .ref t1]) w r = Rn o (d + 1) zX7_init 49 [a0, a1] ([.ref t0, .ref t1]) w' r := rn_cI (n := 1) (b := i) (v := none) (As := [.ref s0]) (rest := [.ref t0, .ref t1]) (zz := zX2_init) dX7_init_46 mn_RX7_28 cI_RX7_28 rfl (Nat.le_of_ble_eq_true rfl) hE
theorem e_X7_init_49 (hi : i < n ∧ j < n ∧ (κ i).1 = 7 + 3) : Rn o d zX7_init 49 [a0, a1] (.ref j :: .ref i :: st) (n, sl, κ, rf, m, lg) r = Rn o d zX7_init 52 [a0, a1] (st) (n, sl, κ, ai_upR rf i 3 (some j), m, lg) r := rg_putR dX7_init_49 fl_RX7_31 rfl (by decide +kernel) hi
theorem e_X7_init_52 : Rn o d zX7_init 52 [.ref i, a1] (st) w r = Rn o d zX7_init 53 [.ref i, a1] (.ref i :: st) w r := rn_A (len := 1) dX7_init_52 rfl
theorem e_X7_init_53 {n9 s9 : Nat} (e1 : n + 1 = n9) (e2 : sl + 7 = s9) (hn : n < 1000000) : Rn o d zX7_init 53 [a0, a1] (st) (n, sl, κ, rf, m, lg) r = Rn o d zX7_init 56 [a0, a1] (.ref n :: st) (n9, s9, va_up κ n (2 + 3, 7), va_up rf n (fun _ => none), va_up m n (fun _ => 0), va_up lg n (fun _ => 0)) r := by subst e1 e2; exact rg_new (ci := 2) (q := (RX2, TX2, 7)) dX7_init_53 cs_RX7_26 rfl hn
theorem e_X7_init_56 : Rn o d zX7_init 56 [a0, a1] (.ref i :: st) w r = Rn o d zX7_init 57 [a0, a1] (.ref i :: .ref i :: st) w r := rn_A (len := 1) dX7_init_56 rfl
theorem e_X7_init_57 : Rn o d zX7_init 57 [.ref i, a1] (st) w r = Rn o d zX7_init 58 [.ref i, a1] (.ref i :: st) w r := rn_A (len := 1) dX7_init_57 rfl
theorem e_X7_init_58 (hi : i < n ∧ (κ i).1 = 7 + 3) (hq : rf i 1 = some j) : Rn o d zX7_init 58 [a0, a1] (.ref i :: st) (n, sl, κ, rf, m, lg) r = Rn o d zX7_init 61 [a0, a1] (.ref j :: st) (n, sl, κ, rf, m, lg) r := rg_getR dX7_init_58 fl_RX7_19 rfl hi hq
theorem e_X7_init_61 {s0 : Nat} {t0 : Nat} {t1 : Nat} {w' : ai_W} (hE : Ev o d zX2_init [.ref i, .ref s0] w none w') : Rn o (d + 1) zX7_init 61 [a0, a1] ([.ref s0, .ref i, .ref t0, .ref t1]) w r = Rn o (d + 1) zX7_init 64 [a0, a1] ([.ref t0, .ref t1]) w' r := rn_cI (n := 1) (b := i) (v := none) (As := [.ref s0]) (rest := [.ref t0, .ref t1]) (zz := zX2_init) dX7_init_61 mn_RX7_28 cI_RX7_28 rfl (Nat.le_of_ble_eq_true rfl) hE
theorem e_X7_init_64 (hi : i < n ∧ j < n ∧ (κ i).1 = 7 + 3) : Rn o d zX7_init 64 [a0, a1] (.ref j :: .ref i :: st) (n, sl, κ, rf, m, lg) r = Rn o d zX7_init 67 [a0, a1] (st) (n, sl, κ, ai_upR rf i 4 (some j), m, lg) r := rg_putR dX7_init_64 fl_RX7_35 rfl (by decide +kernel) hi
theorem e_X7_init_67 : Rn o d zX7_init 67 [.ref i, a1] (st) w r = Rn o d zX7_init 68 [.ref i, a1] (.ref i :: st) w r := rn_A (len := 1) dX7_init_67 rfl
theorem e_X7_init_68 {n9 s9 : Nat} (e1 : n + 1 = n9) (e2 : sl + 3 = s9) (hn : n < 1000000) : Rn o d zX7_init 68 [a0, a1] (st) (n, sl, κ, rf, m, lg) r = Rn o d zX7_init 71 [a0, a1] (.ref n :: st) (n9, s9, va_up κ n (0 + 3, 3), va_up rf n (fun _ => none), va_up m n (fun _ => 0), va_up lg n (fun _ => 0)) r := by subst e1 e2; exact rg_new (ci := 0) (q := (RX0, TX0, 3)) dX7_init_68 cs_RX7_38 rfl hn
theorem e_X7_init_71 : Rn o d zX7_init 71 [a0, a1] (.ref i :: st) w r = Rn o d zX7_init 72 [a0, a1] (.ref i :: .ref i :: st) w r := rn_A (len := 1) dX7_init_71 rfl
theorem e_X7_init_72 : Rn o d zX7_init 72 [.ref i, a1] (st) w r = Rn o d zX7_init 73 [.ref i, a1] (.ref i :: st) w r := rn_A (len := 1) dX7_init_72 rfl
theorem e_X7_init_73 (hi : i < n ∧ (κ i).1 = 7 + 3) (hq : rf i 1 = some j) : Rn o d zX7_init 73 [a0, a1] (.ref i :: st) (n, sl, κ, rf, m, lg) r = Rn o d zX7_init 76 [a0, a1] (.ref j :: st) (n, sl, κ, rf, m, lg) r := rg_getR dX7_init_73 fl_RX7_19 rfl hi hq
theorem e_X7_init_76 {s0 : Nat} {t0 : Nat} {t1 : Nat} {w' : ai_W} (hE : Ev o d zX0_init [.ref i, .ref s0] w none w') : Rn o (d + 1) zX7_init 76 [a0, a1] ([.ref s0, .ref i, .ref t0, .ref t1]) w r = Rn o (d + 1) zX7_init 79 [a0, a1] ([.ref t0, .ref t1]) w' r := rn_cI (n := 1) (b := i) (v := none) (As := [.ref s0]) (rest := [.ref t0, .ref t1]) (zz := zX0_init) dX7_init_76 mn_RX7_40 cI_RX7_40 rfl (Nat.le_of_ble_eq_true rfl) hE
theorem e_X7_init_79 (hi : i < n ∧ j < n ∧ (κ i).1 = 7 + 3) : Rn o d zX7_init 79 [a0, a1] (.ref j :: .ref i :: st) (n, sl, κ, rf, m, lg) r = Rn o d zX7_init 82 [a0, a1] (st) (n, sl, κ, ai_upR rf i 5 (some j), m, lg) r := rg_putR dX7_init_79 fl_RX7_41 rfl (by decide +kernel) hi
theorem e_X7_init_82 : Rn o d zX7_init 82 [.ref i, a1] (st) w r = Rn o d zX7_init 83 [.ref i, a1] (.ref i :: st) w r := rn_A (len := 1) dX7_init_82 rfl
theorem e_X7_init_83 {n9 s9 : Nat} (e1 : n + 1 = n9) (e2 : sl + 4 = s9) (hn : n < 1000000) : Rn o d zX7_init 83 [a0, a1] (st) (n, sl, κ, rf, m, lg) r = Rn o d zX7_init 86 [a0, a1] (.ref n :: st) (n9, s9, va_up κ n (4 + 3, 4), va_up rf n (fun _ => none), va_up m n (fun _ => 0), va_up lg n (fun _ => 0)) r := by subst e1 e2; exact rg_new (ci := 4) (q := (RX4, TX4, 4)) dX7_init_83 cs_RX7_45 rfl hn
theorem e_X7_init_86 : Rn o d zX7_init 86 [a0, a1] (.ref i :: st) w r = Rn o d zX7_init 87 [a0, a1] (.ref i :: .ref i :: st) w r := rn_A (len := 1) dX7_init_86 rfl
theorem e_X7_init_87 {t0 : Nat} {t1 : Nat} {w' : ai_W} (hE : Ev o d zX4_init [.ref i] w none w') : Rn o (d + 1) zX7_init 87 [a0, a1] ([.ref i, .ref t0, .ref t1]) w r = Rn o (d + 1) zX7_init 90 [a0, a1] ([.ref t0, .ref t1]) w' r := rn_cN (n := 0) (b := i) (v := none) (As := []) (rest := [.ref t0, .ref t1]) (zz := zX4_init) dX7_init_87 mn_RX7_47 c0_RX7_47 cN_RX7_47 rfl (Nat.le_of_ble_eq_true rfl) hE
theorem e_X7_init_90 (hi : i < n ∧ j < n ∧ (κ i).1 = 7 + 3) : Rn o d zX7_init 90 [a0, a1] (.ref j :: .ref i :: st) (n, sl, κ, rf, m, lg) r = Rn o d zX7_init 93 [a0, a1] (st) (n, sl, κ, ai_upR rf i 6 (some j), m, lg) r := rg_putR dX7_init_90 fl_RX7_48 rfl (by decide +kernel) hi
theorem e_X7_init_93 : Rn o d zX7_init 93 [.ref i, a1] (st) w r = Rn o d zX7_init 94 [.ref i, a1] (.ref i :: st) w r := rn_A (len := 1) dX7_init_93 rfl
theorem e_X7_init_94 {n9 s9 : Nat} (e1 : n + 1 = n9) (e2 : sl + 5 = s9) (hn : n < 1000000) : Rn o d zX7_init 94 [a0, a1] (st) (n, sl, κ, rf, m, lg) r = Rn o d zX7_init 97 [a0, a1] (.ref n :: st) (n9, s9, va_up κ n (3 + 3, 5), va_up rf n (fun _ => none), va_up m n (fun _ => 0), va_up lg n (fun _ => 0)) r := by subst e1 e2; exact rg_new (ci := 3) (q := (RX3, TX3, 5)) dX7_init_94 cs_RX7_52 rfl hn
theorem e_X7_init_97 : Rn o d zX7_init 97 [a0, a1] (.ref i :: st) w r = Rn o d zX7_init 98 [a0, a1] (.ref i :: .ref i :: st) w r := rn_A (len := 1) dX7_init_97 rfl
theorem e_X7_init_98 : Rn o d zX7_init 98 [.ref i, a1] (st) w r = Rn o d zX7_init 99 [.ref i, a1] (.ref i :: st) w r := rn_A (len := 1) dX7_init_98 rfl
theorem e_X7_init_99 (hi : i < n ∧ (κ i).1 = 7 + 3) (hq : rf i 1 = some j) : Rn o d zX7_init 99 [a0, a1] (.ref i :: st) (n, sl, κ, rf, m, lg) r = Rn o d zX7_init 102 [a0, a1] (.ref j :: st) (n, sl, κ, rf, m, lg) r := rg_getR dX7_init_99 fl_RX7_19 rfl hi hq
theorem e_X7_init_102 : Rn o d zX7_init 102 [.ref i, a1] (st) w r = Rn o d zX7_init 103 [.ref i, a1] (.ref i :: st) w r := rn_A (len := 1) dX7_init_102 rfl
theorem e_X7_init_103 (hi : i < n ∧ (κ i).1 = 7 + 3) (hq : rf i 4 = some j) : Rn o d zX7_init 103 [a0, a1] (.ref i :: st) (n, sl, κ, rf, m, lg) r = Rn o d zX7_init 106 [a0, a1] (.ref j :: st) (n, sl, κ, rf, m, lg) r := rg_getR dX7_init_103 fl_RX7_35 rfl hi hq
theorem e_X7_init_106 {s0 : Nat} {s1 : Nat} {t0 : Nat} {t1 : Nat} {w' : ai_W} (hE : Ev o d zX3_init [.ref i, .ref s0, .ref s1] w none w') : Rn o (d + 1) zX7_init 106 [a0, a1] ([.ref s1, .ref s0, .ref i, .ref t0, .ref t1]) w r = Rn o (d + 1) zX7_init 109 [a0, a1] ([.ref t0, .ref t1]) w' r := rn_cI (n := 2) (b := i) (v := none) (As := [.ref s0, .ref s1]) (rest := [.ref t0, .ref t1]) (zz := zX3_init) dX7_init_106 mn_RX7_54 cI_RX7_54 rfl (Nat.le_of_ble_eq_true rfl) hE
theorem e_X7_init_109 (hi : i < n ∧ j < n ∧ (κ i).1 = 7 + 3) : Rn o d zX7_init 109 [a0, a1] (.ref j :: .ref i :: st) (n, sl, κ, rf, m, lg) r = Rn o d zX7_init 112 [a0, a1] (st) (n, sl, κ, ai_upR rf i 7 (some j), m, lg) r := rg_putR dX7_init_109 fl_RX7_57 rfl (by decide +kernel) hi
theorem e_X7_init_112 : Rn o d zX7_init 112 [.ref i, a1] (st) w r = Rn o d zX7_init 113 [.ref i, a1] (.ref i :: st) w r := rn_A (len := 1) dX7_init_112 rfl
theorem e_X7_init_113 {n9 s9 : Nat} (e1 : n + 1 = n9) (e2 : sl + 2 = s9) (hn : n < 1000000) : Rn o d zX7_init 113 [a0, a1] (st) (n, sl, κ, rf, m, lg) r = Rn o d zX7_init 116 [a0, a1] (.ref n :: st) (n9, s9, va_up κ n (1 + 3, 2), va_up rf n (fun _ => none), va_up m n (fun _ => 0), va_up lg n (fun _ => 0)) r := by subst e1 e2; exact rg_new (ci := 1) (q := (RX1, TX1, 2)) dX7_init_113 cs_RX7_61 rfl hn
theorem e_X7_init_116 : Rn o d zX7_init 116 [a0, a1] (.ref i :: st) w r = Rn o d zX7_init 117 [a0, a1] (.ref i :: .ref i :: st) w r := rn_A (len := 1) dX7_init_116 rfl
theorem e_X7_init_117 : Rn o d zX7_init 117 [.ref i, a1] (st) w r = Rn o d zX7_init 118 [.ref i, a1] (.ref i :: st) w r := rn_A (len := 1) dX7_init_117 rfl
theorem e_X7_init_118 (hi : i < n ∧ (κ i).1 = 7 + 3) (hq : rf i 1 = some j) : Rn o d zX7_init 118 [a0, a1] (.ref i :: st) (n, sl, κ, rf, m, lg) r = Rn o d zX7_init 121 [a0, a1] (.ref j :: st) (n, sl, κ, rf, m, lg) r := rg_getR dX7_init_118 fl_RX7_19 rfl hi hq
theorem e_X7_init_121 : Rn o d zX7_init 121 [.ref i, a1] (st) w r = Rn o d zX7_init 122 [.ref i, a1] (.ref i :: st) w r := rn_A (len := 1) dX7_init_121 rfl
theorem e_X7_init_122 (hi : i < n ∧ (κ i).1 = 7 + 3) (hq : rf i 4 = some j) : Rn o d zX7_init 122 [a0, a1] (.ref i :: st) (n, sl, κ, rf, m, lg) r = Rn o d zX7_init 125 [a0, a1] (.ref j :: st) (n, sl, κ, rf, m, lg) r := rg_getR dX7_init_122 fl_RX7_35 rfl hi hq
theorem e_X7_init_125 {s0 : Nat} {s1 : Nat} {t0 : Nat} {t1 : Nat} {w' : ai_W} (hE : Ev o d zX1_init [.ref i, .ref s0, .ref s1] w none w') : Rn o (d + 1) zX7_init 125 [a0, a1] ([.ref s1, .ref s0, .ref i, .ref t0, .ref t1]) w r = Rn o (d + 1) zX7_init 128 [a0, a1] ([.ref t0, .ref t1]) w' r := rn_cI (n := 2) (b := i) (v := none) (As := [.ref s0, .ref s1]) (rest := [.ref t0, .ref t1]) (zz := zX1_init) dX7_init_125 mn_RX7_63 cI_RX7_63 rfl (Nat.le_of_ble_eq_true rfl) hE
theorem e_X7_init_128 (hi : i < n ∧ j < n ∧ (κ i).1 = 7 + 3) : Rn o d zX7_init 128 [a0, a1] (.ref j :: .ref i :: st) (n, sl, κ, rf, m, lg) r = Rn o d zX7_init 131 [a0, a1] (st) (n, sl, κ, ai_upR rf i 8 (some j), m, lg) r := rg_putR dX7_init_128 fl_RX7_64 rfl (by decide +kernel) hi
theorem e_X7_init_131 : Rn o d zX7_init 131 [.ref i, a1] (st) w r = Rn o d zX7_init 132 [.ref i, a1] (.ref i :: st) w r := rn_A (len := 1) dX7_init_131 rfl
theorem e_X7_init_132 : Rn o d zX7_init 132 [a0, a1] (st) w r = Rn o d zX7_init 133 [a0, a1] (.int (nI 2) :: st) w r := rn_int (len := 1) dX7_init_132 rfl (by decide)
theorem e_X7_init_133 {n9 s9 : Nat} (e1 : n + 1 = n9) (e2 : sl + j = s9) (hj : j ≤ 1000) (hn : n < 1000000) : Rn o d zX7_init 133 [a0, a1] (.int (nI j) :: st) (n, sl, κ, rf, m, lg) r = Rn o d zX7_init 136 [a0, a1] (.ref n :: st) (n9, s9, va_up κ n (2, j), va_up rf n (fun _ => none), va_up m n (fun _ => 0), va_up lg n (fun _ => 0)) r := by subst e1 e2; exact rg_newR dX7_init_133 ck_RX7_26 hj hn
theorem e_X7_init_136 (hi : i < n ∧ j < n ∧ (κ i).1 = 7 + 3) : Rn o d zX7_init 136 [a0, a1] (.ref j :: .ref i :: st) (n, sl, κ, rf, m, lg) r = Rn o d zX7_init 139 [a0, a1] (st) (n, sl, κ, ai_upR rf i 9 (some j), m, lg) r := rg_putR dX7_init_136 fl_RX7_68 rfl (by decide +kernel) hi
theorem e_X7_init_139 : Rn o d zX7_init 139 [.ref i, a1] (st) w r = Rn o d zX7_init 140 [.ref i, a1] (.ref i :: st) w r := rn_A (len := 1) dX7_init_139 rfl
theorem e_X7_init_140 : Rn o d zX7_init 140 [a0, a1] (st) w r = Rn o d zX7_init 141 [a0, a1] (.int (nI 2) :: st) w r := rn_int (len := 1) dX7_init_140 rfl (by decide)
theorem e_X7_init_141 {n9 s9 : Nat} (e1 : n + 1 = n9) (e2 : sl + j = s9) (hj : j ≤ 1000) (hn : n < 1000000) : Rn o d zX7_init 141 [a0, a1] (.int (nI j) :: st) (n, sl, κ, rf, m, lg) r = Rn o d zX7_init 143 [a0, a1] (.ref n :: st) (n9, s9, va_up κ n (1, j), va_up rf n (fun _ => none), va_up m n (fun _ => 0), va_up lg n (fun _ => 0)) r := by subst e1 e2; exact rg_newZ dX7_init_141 ac_1 hj hn
theorem e_X7_init_143 (hi : i < n ∧ j < n ∧ (κ i).1 = 7 + 3) : Rn o d zX7_init 143 [a0, a1] (.ref j :: .ref i :: st) (n, sl, κ, rf, m, lg) r = Rn o d zX7_init 146 [a0, a1] (st) (n, sl, κ, ai_upR rf i 10 (some j), m, lg) r := rg_putR dX7_init_143 fl_RX7_72 rfl (by decide +kernel) hi
theorem e_X7_init_146 : Rn o d zX7_init 146 [.ref i, a1] (st) w r = Rn o d zX7_init 147 [.ref i, a1] (.ref i :: st) w r := rn_A (len := 1) dX7_init_146 rfl
theorem e_X7_init_147 : Rn o d zX7_init 147 [a0, a1] (st) w r = Rn o d zX7_init 148 [a0, a1] (.long 0 :: st) w r := rn_A (len := 1) dX7_init_147 rfl
theorem e_X7_init_148 (hi : i < n ∧ (κ i).1 = 7 + 3) : Rn o d zX7_init 148 [a0, a1] (.long xl :: .ref i :: st) (n, sl, κ, rf, m, lg) r = Rn o d zX7_init 151 [a0, a1] (st) (n, sl, κ, rf, m, (ai_upL lg i 11 xl)) r := rg_putL dX7_init_148 fl_RX7_76 rfl (by decide +kernel) hi
theorem e_X7_init_151 : Rn o d zX7_init 151 [a0, a1] (st) w r = Rn o d zX7_init 152 [a0, a1] (.int (nI 0) :: st) w r := rn_int (len := 1) dX7_init_151 rfl (by decide)
theorem e_X7_init_152 (h2 : ai_is2 (some a0) = false) : Rn o d zX7_init 152 [a0, a1] (.int x :: st) w r = Rn o d zX7_init 153 [a0, .int x] (st) w r := rn_sti0 (len := 1) (i := 1) dX7_init_152 rfl (Nat.le_of_ble_eq_true rfl) (Or.inr h2)
theorem e_X7_init_153 : Rn o d zX7_init 153 [a0, .int x] (st) w r = Rn o d zX7_init 154 [a0, .int x] (.int x :: st) w r := rn_A (len := 1) dX7_init_153 rfl
theorem e_X7_init_154 : Rn o d zX7_init 154 [a0, a1] (st) w r = Rn o d zX7_init 155 [a0, a1] (.int (nI 2) :: st) w r := rn_int (len := 1) dX7_init_154 rfl (by decide)
theorem e_X7_init_155 : Rn o d zX7_init 155 [a0, a1] (.int y :: .int x :: st) w r = if y ≤ x then Rn o d zX7_init 181 [a0, a1] st w r else Rn o d zX7_init 158 [a0, a1] st w r := rn_br (off := 26) dX7_init_155 rfl (by decide)
theorem e_X7_init_158 : Rn o d zX7_init 158 [.ref i, a1] (st) w r = Rn o d zX7_init 159 [.ref i, a1] (.ref i :: st) w r := rn_A (len := 1) dX7_init_158 rfl
theorem e_X7_init_159 (hi : i < n ∧ (κ i).1 = 7 + 3) (hq : rf i 9 = some j) : Rn o d zX7_init 159 [a0, a1] (.ref i :: st) (n, sl, κ, rf, m, lg) r = Rn o d zX7_init 162 [a0, a1] (.ref j :: st) (n, sl, κ, rf, m, lg) r := rg_getR dX7_init_159 fl_RX7_68 rfl hi hq
theorem e_X7_init_162 : Rn o d zX7_init 162 [a0, .int x] (st) w r = Rn o d zX7_init 163 [a0, .int x] (.int x :: st) w r := rn_A (len := 1) dX7_init_162 rfl
theorem e_X7_init_163 {n9 s9 : Nat} (e1 : n + 1 = n9) (e2 : sl + 7 = s9) (hn : n < 1000000) : Rn o d zX7_init 163 [a0, a1] (st) (n, sl, κ, rf, m, lg) r = Rn o d zX7_init 166 [a0, a1] (.ref n :: st) (n9, s9, va_up κ n (2 + 3, 7), va_up rf n (fun _ => none), va_up m n (fun _ => 0), va_up lg n (fun _ => 0)) r := by subst e1 e2; exact rg_new (ci := 2) (q := (RX2, TX2, 7)) dX7_init_163 cs_RX7_26 rfl hn
theorem e_X7_init_166 : Rn o d zX7_init 166 [a0, a1] (.ref i :: st) w r = Rn o d zX7_init 167 [a0, a1] (.ref i :: .ref i :: st) w r := rn_A (len := 1) dX7_init_166 rfl
theorem e_X7_init_167 : Rn o d zX7_init 167 [.ref i, a1] (st) w r = Rn o d zX7_init 168 [.ref i, a1] (.ref i :: st) w r := rn_A (len := 1) dX7_init_167 rfl
theorem e_X7_init_168 (hi : i < n ∧ (κ i).1 = 7 + 3) (hq : rf i 1 = some j) : Rn o d zX7_init 168 [a0, a1] (.ref i :: st) (n, sl, κ, rf, m, lg) r = Rn o d zX7_init 171 [a0, a1] (.ref j :: st) (n, sl, κ, rf, m, lg) r := rg_getR dX7_init_168 fl_RX7_19 rfl hi hq
theorem e_X7_init_171 {s0 : Nat} {t0 : Nat} {t1 : Int32} {t2 : Nat} {w' : ai_W} (hE : Ev o d zX2_init [.ref i, .ref s0] w none w') : Rn o (d + 1) zX7_init 171 [a0, a1] ([.ref s0, .ref i, .ref t0, .int t1, .ref t2]) w r = Rn o (d + 1) zX7_init 174 [a0, a1] ([.ref t0, .int t1, .ref t2]) w' r := rn_cI (n := 1) (b := i) (v := none) (As := [.ref s0]) (rest := [.ref t0, .int t1, .ref t2]) (zz := zX2_init) dX7_init_171 mn_RX7_28 cI_RX7_28 rfl (Nat.le_of_ble_eq_true rfl) hE
theorem e_X7_init_174 (hi : i < n ∧ k < n ∧ (κ k).1 = 5 ∧ (κ i).1 = 2) (hj : j < (κ i).2) (hj2 : j < 1000) : Rn o d zX7_init 174 [a0, a1] (.ref k :: .int (nI j) :: .ref i :: st) (n, sl, κ, rf, m, lg) r = Rn o d zX7_init 175 [a0, a1] (st) (n, sl, κ, ai_upR rf i j (some k), m, lg) r := rg_aastore dX7_init_174 hi hj hj2
theorem e_X7_init_175 (h2 : ai_is2 (some a0) = false) : Rn o d zX7_init 175 [a0, .int x] (st) w r = Rn o d zX7_init 178 [a0, .int (x + (nI 1))] (st) w r := rn_iinc (i := 1) (n := 1) (c := (nI 1)) dX7_init_175 rfl (by decide) (Nat.le_of_ble_eq_true rfl) (Or.inr h2)
theorem e_X7_init_178 : Rn o d zX7_init 178 [a0, a1] (st) w r = Rn o d zX7_init 153 [a0, a1] (st) w r := rn_goto dX7_init_178 (by decide)
theorem e_X7_init_181 : Rn o d zX7_init 181 [a0, a1] [] w r = ((none, w) = r) := rn_R dX7_init_181 rfl
def zX8_init : ai_Mi := (yX8_init, cX8_init, 1, none)
theorem ev_X8_init  {v : Option Value} {w' : ai_W} : Ev o d zX8_init [.ref i] w v w' = Rn o d zX8_init 0 [.ref i] [] w (v, w') := rfl
theorem e_X8_init_0 : Rn o d zX8_init 0 [.ref i] (st) w r = Rn o d zX8_init 1 [.ref i] (.ref i :: st) w r := rn_A (len := 1) dX8_init_0 rfl
theorem e_X8_init_1 {s0 : Nat} : Rn o (d + 1) zX8_init 1 [a0] ([.ref s0]) w r = Rn o (d + 1) zX8_init 4 [a0] ([]) w r := rn_objInit dX8_init_1 ml_RX8_1 oi_1 oi_2 (Nat.le_of_ble_eq_true rfl)
theorem e_X8_init_4 : Rn o d zX8_init 4 [.ref i] (st) w r = Rn o d zX8_init 5 [.ref i] (.ref i :: st) w r := rn_A (len := 1) dX8_init_4 rfl
theorem e_X8_init_5 : Rn o d zX8_init 5 [a0] (st) w r = Rn o d zX8_init 7 [a0] (.int (nI 48) :: st) w r := rn_int (len := 2) dX8_init_5 rfl (by decide)
theorem e_X8_init_7 {n9 s9 : Nat} (e1 : n + 1 = n9) (e2 : sl + j = s9) (hj : j ≤ 1000) (hn : n < 1000000) : Rn o d zX8_init 7 [a0] (.int (nI j) :: st) (n, sl, κ, rf, m, lg) r = Rn o d zX8_init 9 [a0] (.ref n :: st) (n9, s9, va_up κ n (0, j), va_up rf n (fun _ => none), va_up m n (fun _ => 0), va_up lg n (fun _ => 0)) r := by subst e1 e2; exact rg_newI dX8_init_7 ac_0 hj hn
theorem e_X8_init_9 (hi : i < n ∧ j < n ∧ (κ i).1 = 8 + 3) : Rn o d zX8_init 9 [a0] (.ref j :: .ref i :: st) (n, sl, κ, rf, m, lg) r = Rn o d zX8_init 12 [a0] (st) (n, sl, κ, ai_upR rf i 1 (some j), m, lg) r := rg_putR dX8_init_9 fl_RX8_7 rfl (by decide +kernel) hi
theorem e_X8_init_12 : Rn o d zX8_init 12 [.ref i] (st) w r = Rn o d zX8_init 13 [.ref i] (.ref i :: st) w r := rn_A (len := 1) dX8_init_12 rfl
theorem e_X8_init_13 : Rn o d zX8_init 13 [a0] (st) w r = Rn o d zX8_init 14 [a0] (.int (nI 4) :: st) w r := rn_int (len := 1) dX8_init_13 rfl (by decide)
theorem e_X8_init_14 {n9 s9 : Nat} (e1 : n + 1 = n9) (e2 : sl + j = s9) (hj : j ≤ 1000) (hn : n < 1000000) : Rn o d zX8_init 14 [a0] (.int (nI j) :: st) (n, sl, κ, rf, m, lg) r = Rn o d zX8_init 16 [a0] (.ref n :: st) (n9, s9, va_up κ n (0, j), va_up rf n (fun _ => none), va_up m n (fun _ => 0), va_up lg n (fun _ => 0)) r := by subst e1 e2; exact rg_newI dX8_init_14 ac_0 hj hn
theorem e_X8_init_16 (hi : i < n ∧ j < n ∧ (κ i).1 = 8 + 3) : Rn o d zX8_init 16 [a0] (.ref j :: .ref i :: st) (n, sl, κ, rf, m, lg) r = Rn o d zX8_init 19 [a0] (st) (n, sl, κ, ai_upR rf i 5 (some j), m, lg) r := rg_putR dX8_init_16 fl_RX8_13 rfl (by decide +kernel) hi
theorem e_X8_init_19 : Rn o d zX8_init 19 [.ref i] (st) w r = Rn o d zX8_init 20 [.ref i] (.ref i :: st) w r := rn_A (len := 1) dX8_init_19 rfl
theorem e_X8_init_20 : Rn o d zX8_init 20 [a0] (st) w r = Rn o d zX8_init 21 [a0] (.int (nI 4) :: st) w r := rn_int (len := 1) dX8_init_20 rfl (by decide)
theorem e_X8_init_21 {n9 s9 : Nat} (e1 : n + 1 = n9) (e2 : sl + j = s9) (hj : j ≤ 1000) (hn : n < 1000000) : Rn o d zX8_init 21 [a0] (.int (nI j) :: st) (n, sl, κ, rf, m, lg) r = Rn o d zX8_init 23 [a0] (.ref n :: st) (n9, s9, va_up κ n (0, j), va_up rf n (fun _ => none), va_up m n (fun _ => 0), va_up lg n (fun _ => 0)) r := by subst e1 e2; exact rg_newI dX8_init_21 ac_0 hj hn
theorem e_X8_init_23 (hi : i < n ∧ j < n ∧ (κ i).1 = 8 + 3) : Rn o d zX8_init 23 [a0] (.ref j :: .ref i :: st) (n, sl, κ, rf, m, lg) r = Rn o d zX8_init 26 [a0] (st) (n, sl, κ, ai_upR rf i 7 (some j), m, lg) r := rg_putR dX8_init_23 fl_RX8_16 rfl (by decide +kernel) hi
theorem e_X8_init_26 : Rn o d zX8_init 26 [.ref i] (st) w r = Rn o d zX8_init 27 [.ref i] (.ref i :: st) w r := rn_A (len := 1) dX8_init_26 rfl
theorem e_X8_init_27 : Rn o d zX8_init 27 [a0] (st) w r = Rn o d zX8_init 28 [a0] (.int (nI 5) :: st) w r := rn_int (len := 1) dX8_init_27 rfl (by decide)
theorem e_X8_init_28 {n9 s9 : Nat} (e1 : n + 1 = n9) (e2 : sl + j = s9) (hj : j ≤ 1000) (hn : n < 1000000) : Rn o d zX8_init 28 [a0] (.int (nI j) :: st) (n, sl, κ, rf, m, lg) r = Rn o d zX8_init 30 [a0] (.ref n :: st) (n9, s9, va_up κ n (0, j), va_up rf n (fun _ => none), va_up m n (fun _ => 0), va_up lg n (fun _ => 0)) r := by subst e1 e2; exact rg_newI dX8_init_28 ac_0 hj hn
theorem e_X8_init_30 (hi : i < n ∧ j < n ∧ (κ i).1 = 8 + 3) : Rn o d zX8_init 30 [a0] (.ref j :: .ref i :: st) (n, sl, κ, rf, m, lg) r = Rn o d zX8_init 33 [a0] (st) (n, sl, κ, ai_upR rf i 9 (some j), m, lg) r := rg_putR dX8_init_30 fl_RX8_19 rfl (by decide +kernel) hi
theorem e_X8_init_33 : Rn o d zX8_init 33 [.ref i] (st) w r = Rn o d zX8_init 34 [.ref i] (.ref i :: st) w r := rn_A (len := 1) dX8_init_33 rfl
theorem e_X8_init_34 : Rn o d zX8_init 34 [a0] (st) w r = Rn o d zX8_init 35 [a0] (.int (nI 4) :: st) w r := rn_int (len := 1) dX8_init_34 rfl (by decide)
theorem e_X8_init_35 {n9 s9 : Nat} (e1 : n + 1 = n9) (e2 : sl + j = s9) (hj : j ≤ 1000) (hn : n < 1000000) : Rn o d zX8_init 35 [a0] (.int (nI j) :: st) (n, sl, κ, rf, m, lg) r = Rn o d zX8_init 37 [a0] (.ref n :: st) (n9, s9, va_up κ n (0, j), va_up rf n (fun _ => none), va_up m n (fun _ => 0), va_up lg n (fun _ => 0)) r := by subst e1 e2; exact rg_newI dX8_init_35 ac_0 hj hn
theorem e_X8_init_37 (hi : i < n ∧ j < n ∧ (κ i).1 = 8 + 3) : Rn o d zX8_init 37 [a0] (.ref j :: .ref i :: st) (n, sl, κ, rf, m, lg) r = Rn o d zX8_init 40 [a0] (st) (n, sl, κ, ai_upR rf i 11 (some j), m, lg) r := rg_putR dX8_init_37 fl_RX8_22 rfl (by decide +kernel) hi
theorem e_X8_init_40 : Rn o d zX8_init 40 [.ref i] (st) w r = Rn o d zX8_init 41 [.ref i] (.ref i :: st) w r := rn_A (len := 1) dX8_init_40 rfl
theorem e_X8_init_41 : Rn o d zX8_init 41 [a0] (st) w r = Rn o d zX8_init 43 [a0] (.int (nI 8) :: st) w r := rn_int (len := 2) dX8_init_41 rfl (by decide)
theorem e_X8_init_43 {n9 s9 : Nat} (e1 : n + 1 = n9) (e2 : sl + j = s9) (hj : j ≤ 1000) (hn : n < 1000000) : Rn o d zX8_init 43 [a0] (.int (nI j) :: st) (n, sl, κ, rf, m, lg) r = Rn o d zX8_init 45 [a0] (.ref n :: st) (n9, s9, va_up κ n (0, j), va_up rf n (fun _ => none), va_up m n (fun _ => 0), va_up lg n (fun _ => 0)) r := by subst e1 e2; exact rg_newI dX8_init_43 ac_0 hj hn
theorem e_X8_init_45 (hi : i < n ∧ j < n ∧ (κ i).1 = 8 + 3) : Rn o d zX8_init 45 [a0] (.ref j :: .ref i :: st) (n, sl, κ, rf, m, lg) r = Rn o d zX8_init 48 [a0] (st) (n, sl, κ, ai_upR rf i 13 (some j), m, lg) r := rg_putR dX8_init_45 fl_RX8_25 rfl (by decide +kernel) hi
theorem e_X8_init_48 : Rn o d zX8_init 48 [.ref i] (st) w r = Rn o d zX8_init 49 [.ref i] (.ref i :: st) w r := rn_A (len := 1) dX8_init_48 rfl
theorem e_X8_init_49 : Rn o d zX8_init 49 [a0] (st) w r = Rn o d zX8_init 51 [a0] (.int (nI 10) :: st) w r := rn_int (len := 2) dX8_init_49 rfl (by decide)
theorem e_X8_init_51 {n9 s9 : Nat} (e1 : n + 1 = n9) (e2 : sl + j = s9) (hj : j ≤ 1000) (hn : n < 1000000) : Rn o d zX8_init 51 [a0] (.int (nI j) :: st) (n, sl, κ, rf, m, lg) r = Rn o d zX8_init 53 [a0] (.ref n :: st) (n9, s9, va_up κ n (0, j), va_up rf n (fun _ => none), va_up m n (fun _ => 0), va_up lg n (fun _ => 0)) r := by subst e1 e2; exact rg_newI dX8_init_51 ac_0 hj hn
theorem e_X8_init_53 (hi : i < n ∧ j < n ∧ (κ i).1 = 8 + 3) : Rn o d zX8_init 53 [a0] (.ref j :: .ref i :: st) (n, sl, κ, rf, m, lg) r = Rn o d zX8_init 56 [a0] (st) (n, sl, κ, ai_upR rf i 15 (some j), m, lg) r := rg_putR dX8_init_53 fl_RX8_28 rfl (by decide +kernel) hi
theorem e_X8_init_56 : Rn o d zX8_init 56 [.ref i] (st) w r = Rn o d zX8_init 57 [.ref i] (.ref i :: st) w r := rn_A (len := 1) dX8_init_56 rfl
theorem e_X8_init_57 : Rn o d zX8_init 57 [a0] (st) w r = Rn o d zX8_init 59 [a0] (.int (nI 24) :: st) w r := rn_int (len := 2) dX8_init_57 rfl (by decide)
theorem e_X8_init_59 {n9 s9 : Nat} (e1 : n + 1 = n9) (e2 : sl + j = s9) (hj : j ≤ 1000) (hn : n < 1000000) : Rn o d zX8_init 59 [a0] (.int (nI j) :: st) (n, sl, κ, rf, m, lg) r = Rn o d zX8_init 61 [a0] (.ref n :: st) (n9, s9, va_up κ n (0, j), va_up rf n (fun _ => none), va_up m n (fun _ => 0), va_up lg n (fun _ => 0)) r := by subst e1 e2; exact rg_newI dX8_init_59 ac_0 hj hn
theorem e_X8_init_61 (hi : i < n ∧ j < n ∧ (κ i).1 = 8 + 3) : Rn o d zX8_init 61 [a0] (.ref j :: .ref i :: st) (n, sl, κ, rf, m, lg) r = Rn o d zX8_init 64 [a0] (st) (n, sl, κ, ai_upR rf i 16 (some j), m, lg) r := rg_putR dX8_init_61 fl_RX8_31 rfl (by decide +kernel) hi
theorem e_X8_init_64 : Rn o d zX8_init 64 [.ref i] (st) w r = Rn o d zX8_init 65 [.ref i] (.ref i :: st) w r := rn_A (len := 1) dX8_init_64 rfl
theorem e_X8_init_65 : Rn o d zX8_init 65 [a0] (st) w r = Rn o d zX8_init 67 [a0] (.int (nI 24) :: st) w r := rn_int (len := 2) dX8_init_65 rfl (by decide)
theorem e_X8_init_67 {n9 s9 : Nat} (e1 : n + 1 = n9) (e2 : sl + j = s9) (hj : j ≤ 1000) (hn : n < 1000000) : Rn o d zX8_init 67 [a0] (.int (nI j) :: st) (n, sl, κ, rf, m, lg) r = Rn o d zX8_init 69 [a0] (.ref n :: st) (n9, s9, va_up κ n (0, j), va_up rf n (fun _ => none), va_up m n (fun _ => 0), va_up lg n (fun _ => 0)) r := by subst e1 e2; exact rg_newI dX8_init_67 ac_0 hj hn
theorem e_X8_init_69 (hi : i < n ∧ j < n ∧ (κ i).1 = 8 + 3) : Rn o d zX8_init 69 [a0] (.ref j :: .ref i :: st) (n, sl, κ, rf, m, lg) r = Rn o d zX8_init 72 [a0] (st) (n, sl, κ, ai_upR rf i 17 (some j), m, lg) r := rg_putR dX8_init_69 fl_RX8_34 rfl (by decide +kernel) hi
theorem e_X8_init_72 : Rn o d zX8_init 72 [.ref i] (st) w r = Rn o d zX8_init 73 [.ref i] (.ref i :: st) w r := rn_A (len := 1) dX8_init_72 rfl
theorem e_X8_init_73 : Rn o d zX8_init 73 [a0] (st) w r = Rn o d zX8_init 76 [a0] (.int (nI 336) :: st) w r := rn_int (len := 3) dX8_init_73 rfl (by decide)
theorem e_X8_init_76 {n9 s9 : Nat} (e1 : n + 1 = n9) (e2 : sl + j = s9) (hj : j ≤ 1000) (hn : n < 1000000) : Rn o d zX8_init 76 [a0] (.int (nI j) :: st) (n, sl, κ, rf, m, lg) r = Rn o d zX8_init 78 [a0] (.ref n :: st) (n9, s9, va_up κ n (0, j), va_up rf n (fun _ => none), va_up m n (fun _ => 0), va_up lg n (fun _ => 0)) r := by subst e1 e2; exact rg_newI dX8_init_76 ac_0 hj hn
theorem e_X8_init_78 (hi : i < n ∧ j < n ∧ (κ i).1 = 8 + 3) : Rn o d zX8_init 78 [a0] (.ref j :: .ref i :: st) (n, sl, κ, rf, m, lg) r = Rn o d zX8_init 81 [a0] (st) (n, sl, κ, ai_upR rf i 18 (some j), m, lg) r := rg_putR dX8_init_78 fl_RX8_37 rfl (by decide +kernel) hi
theorem e_X8_init_81 : Rn o d zX8_init 81 [.ref i] (st) w r = Rn o d zX8_init 82 [.ref i] (.ref i :: st) w r := rn_A (len := 1) dX8_init_81 rfl
theorem e_X8_init_82 : Rn o d zX8_init 82 [a0] (st) w r = Rn o d zX8_init 84 [a0] (.int (nI 48) :: st) w r := rn_int (len := 2) dX8_init_82 rfl (by decide)
theorem e_X8_init_84 {n9 s9 : Nat} (e1 : n + 1 = n9) (e2 : sl + j = s9) (hj : j ≤ 1000) (hn : n < 1000000) : Rn o d zX8_init 84 [a0] (.int (nI j) :: st) (n, sl, κ, rf, m, lg) r = Rn o d zX8_init 86 [a0] (.ref n :: st) (n9, s9, va_up κ n (0, j), va_up rf n (fun _ => none), va_up m n (fun _ => 0), va_up lg n (fun _ => 0)) r := by subst e1 e2; exact rg_newI dX8_init_84 ac_0 hj hn
theorem e_X8_init_86 (hi : i < n ∧ j < n ∧ (κ i).1 = 8 + 3) : Rn o d zX8_init 86 [a0] (.ref j :: .ref i :: st) (n, sl, κ, rf, m, lg) r = Rn o d zX8_init 89 [a0] (st) (n, sl, κ, ai_upR rf i 20 (some j), m, lg) r := rg_putR dX8_init_86 fl_RX8_40 rfl (by decide +kernel) hi
theorem e_X8_init_89 : Rn o d zX8_init 89 [.ref i] (st) w r = Rn o d zX8_init 90 [.ref i] (.ref i :: st) w r := rn_A (len := 1) dX8_init_89 rfl
theorem e_X8_init_90 : Rn o d zX8_init 90 [a0] (st) w r = Rn o d zX8_init 91 [a0] (.int (nI 2) :: st) w r := rn_int (len := 1) dX8_init_90 rfl (by decide)
theorem e_X8_init_91 {n9 s9 : Nat} (e1 : n + 1 = n9) (e2 : sl + j = s9) (hj : j ≤ 1000) (hn : n < 1000000) : Rn o d zX8_init 91 [a0] (.int (nI j) :: st) (n, sl, κ, rf, m, lg) r = Rn o d zX8_init 93 [a0] (.ref n :: st) (n9, s9, va_up κ n (1, j), va_up rf n (fun _ => none), va_up m n (fun _ => 0), va_up lg n (fun _ => 0)) r := by subst e1 e2; exact rg_newZ dX8_init_91 ac_1 hj hn
theorem e_X8_init_93 (hi : i < n ∧ j < n ∧ (κ i).1 = 8 + 3) : Rn o d zX8_init 93 [a0] (.ref j :: .ref i :: st) (n, sl, κ, rf, m, lg) r = Rn o d zX8_init 96 [a0] (st) (n, sl, κ, ai_upR rf i 21 (some j), m, lg) r := rg_putR dX8_init_93 fl_RX8_43 rfl (by decide +kernel) hi
theorem e_X8_init_96 : Rn o d zX8_init 96 [.ref i] (st) w r = Rn o d zX8_init 97 [.ref i] (.ref i :: st) w r := rn_A (len := 1) dX8_init_96 rfl
theorem e_X8_init_97 : Rn o d zX8_init 97 [a0] (st) w r = Rn o d zX8_init 99 [a0] (.int (nI 6) :: st) w r := rn_int (len := 2) dX8_init_97 rfl (by decide)
theorem e_X8_init_99 {n9 s9 : Nat} (e1 : n + 1 = n9) (e2 : sl + j = s9) (hj : j ≤ 1000) (hn : n < 1000000) : Rn o d zX8_init 99 [a0] (.int (nI j) :: st) (n, sl, κ, rf, m, lg) r = Rn o d zX8_init 101 [a0] (.ref n :: st) (n9, s9, va_up κ n (0, j), va_up rf n (fun _ => none), va_up m n (fun _ => 0), va_up lg n (fun _ => 0)) r := by subst e1 e2; exact rg_newI dX8_init_99 ac_0 hj hn
theorem e_X8_init_101 (hi : i < n ∧ j < n ∧ (κ i).1 = 8 + 3) : Rn o d zX8_init 101 [a0] (.ref j :: .ref i :: st) (n, sl, κ, rf, m, lg) r = Rn o d zX8_init 104 [a0] (st) (n, sl, κ, ai_upR rf i 23 (some j), m, lg) r := rg_putR dX8_init_101 fl_RX8_47 rfl (by decide +kernel) hi
theorem e_X8_init_104 : Rn o d zX8_init 104 [.ref i] (st) w r = Rn o d zX8_init 105 [.ref i] (.ref i :: st) w r := rn_A (len := 1) dX8_init_104 rfl
theorem e_X8_init_105 : Rn o d zX8_init 105 [a0] (st) w r = Rn o d zX8_init 107 [a0] (.int (nI 6) :: st) w r := rn_int (len := 2) dX8_init_105 rfl (by decide)
theorem e_X8_init_107 {n9 s9 : Nat} (e1 : n + 1 = n9) (e2 : sl + j = s9) (hj : j ≤ 1000) (hn : n < 1000000) : Rn o d zX8_init 107 [a0] (.int (nI j) :: st) (n, sl, κ, rf, m, lg) r = Rn o d zX8_init 109 [a0] (.ref n :: st) (n9, s9, va_up κ n (0, j), va_up rf n (fun _ => none), va_up m n (fun _ => 0), va_up lg n (fun _ => 0)) r := by subst e1 e2; exact rg_newI dX8_init_107 ac_0 hj hn
theorem e_X8_init_109 (hi : i < n ∧ j < n ∧ (κ i).1 = 8 + 3) : Rn o d zX8_init 109 [a0] (.ref j :: .ref i :: st) (n, sl, κ, rf, m, lg) r = Rn o d zX8_init 112 [a0] (st) (n, sl, κ, ai_upR rf i 24 (some j), m, lg) r := rg_putR dX8_init_109 fl_RX8_50 rfl (by decide +kernel) hi
theorem e_X8_init_112 : Rn o d zX8_init 112 [.ref i] (st) w r = Rn o d zX8_init 113 [.ref i] (.ref i :: st) w r := rn_A (len := 1) dX8_init_112 rfl
theorem e_X8_init_113 : Rn o d zX8_init 113 [a0] (st) w r = Rn o d zX8_init 115 [a0] (.int (nI 6) :: st) w r := rn_int (len := 2) dX8_init_113 rfl (by decide)
theorem e_X8_init_115 {n9 s9 : Nat} (e1 : n + 1 = n9) (e2 : sl + j = s9) (hj : j ≤ 1000) (hn : n < 1000000) : Rn o d zX8_init 115 [a0] (.int (nI j) :: st) (n, sl, κ, rf, m, lg) r = Rn o d zX8_init 117 [a0] (.ref n :: st) (n9, s9, va_up κ n (0, j), va_up rf n (fun _ => none), va_up m n (fun _ => 0), va_up lg n (fun _ => 0)) r := by subst e1 e2; exact rg_newI dX8_init_115 ac_0 hj hn
theorem e_X8_init_117 (hi : i < n ∧ j < n ∧ (κ i).1 = 8 + 3) : Rn o d zX8_init 117 [a0] (.ref j :: .ref i :: st) (n, sl, κ, rf, m, lg) r = Rn o d zX8_init 120 [a0] (st) (n, sl, κ, ai_upR rf i 25 (some j), m, lg) r := rg_putR dX8_init_117 fl_RX8_53 rfl (by decide +kernel) hi
theorem e_X8_init_120 : Rn o d zX8_init 120 [.ref i] (st) w r = Rn o d zX8_init 121 [.ref i] (.ref i :: st) w r := rn_A (len := 1) dX8_init_120 rfl
theorem e_X8_init_121 : Rn o d zX8_init 121 [a0] (st) w r = Rn o d zX8_init 123 [a0] (.int (nI 50) :: st) w r := rn_int (len := 2) dX8_init_121 rfl (by decide)
theorem e_X8_init_123 {n9 s9 : Nat} (e1 : n + 1 = n9) (e2 : sl + j = s9) (hj : j ≤ 1000) (hn : n < 1000000) : Rn o d zX8_init 123 [a0] (.int (nI j) :: st) (n, sl, κ, rf, m, lg) r = Rn o d zX8_init 125 [a0] (.ref n :: st) (n9, s9, va_up κ n (0, j), va_up rf n (fun _ => none), va_up m n (fun _ => 0), va_up lg n (fun _ => 0)) r := by subst e1 e2; exact rg_newI dX8_init_123 ac_0 hj hn
theorem e_X8_init_125 (hi : i < n ∧ j < n ∧ (κ i).1 = 8 + 3) : Rn o d zX8_init 125 [a0] (.ref j :: .ref i :: st) (n, sl, κ, rf, m, lg) r = Rn o d zX8_init 128 [a0] (st) (n, sl, κ, ai_upR rf i 35 (some j), m, lg) r := rg_putR dX8_init_125 fl_RX8_56 rfl (by decide +kernel) hi
theorem e_X8_init_128 : Rn o d zX8_init 128 [.ref i] (st) w r = Rn o d zX8_init 129 [.ref i] (.ref i :: st) w r := rn_A (len := 1) dX8_init_128 rfl
theorem e_X8_init_129 : Rn o d zX8_init 129 [a0] (st) w r = Rn o d zX8_init 131 [a0] (.int (nI 16) :: st) w r := rn_int (len := 2) dX8_init_129 rfl (by decide)
theorem e_X8_init_131 {n9 s9 : Nat} (e1 : n + 1 = n9) (e2 : sl + j = s9) (hj : j ≤ 1000) (hn : n < 1000000) : Rn o d zX8_init 131 [a0] (.int (nI j) :: st) (n, sl, κ, rf, m, lg) r = Rn o d zX8_init 133 [a0] (.ref n :: st) (n9, s9, va_up κ n (0, j), va_up rf n (fun _ => none), va_up m n (fun _ => 0), va_up lg n (fun _ => 0)) r := by subst e1 e2; exact rg_newI dX8_init_131 ac_0 hj hn
theorem e_X8_init_133 (hi : i < n ∧ j < n ∧ (κ i).1 = 8 + 3) : Rn o d zX8_init 133 [a0] (.ref j :: .ref i :: st) (n, sl, κ, rf, m, lg) r = Rn o d zX8_init 136 [a0] (st) (n, sl, κ, ai_upR rf i 36 (some j), m, lg) r := rg_putR dX8_init_133 fl_RX8_59 rfl (by decide +kernel) hi
theorem e_X8_init_136 : Rn o d zX8_init 136 [a0] [] w r = ((none, w) = r) := rn_R dX8_init_136 rfl
end EQC
end
section
section CTG
variable {o : ai_S} {d : Nat} {st : List Value} {w : ai_W} {r : Option Value × ai_W} {x y : Int32} {xl yl : Int64} {i j k n sl : Nat} {κ : Nat → Nat × Nat} {rf : Nat → Nat → Option Nat} {m : Nat → Nat → Int32} {lg : Nat → Nat → Int64} {a0 a1 a2 a3 a4 a5 a6 a7 a8 a9 a10 a11 a12 : Value}
theorem c_X5_init {b  : Nat} (hb : b < n)  (hk : (κ b).1 = 5 + 3) (hn : n < 900000) : Ev o (d + 1) zX5_init [.ref b] (n, sl, κ, rf, m, lg) none ((n + 1), (sl + 48), (va_up κ n (0, 48)), (ai_upR (va_up rf n (fun _ => none)) b 0 (some n)), (ai_up (va_up m n (fun _ => 0)) b 1 (nI 0)), (va_up lg n (fun _ => 0))) := by
  rw [ev_X5_init]
  rw [e_X5_init_0, e_X5_init_1, e_X5_init_4, e_X5_init_5, e_X5_init_7 (n9 := (n + 1)) (s9 := (sl + 48)) (by first | rfl | omega) (by first | rfl | omega) (by decide) (by first | decide | omega), e_X5_init_9 ⟨(by omega), (by omega), (by (try simp only [va_up]); (repeat rw [if_neg (by omega)]); exact hk)⟩, e_X5_init_12, e_X5_init_13, e_X5_init_14 ⟨(by omega), (by (try simp only [va_up]); (repeat rw [if_neg (by omega)]); exact hk)⟩, e_X5_init_17]
theorem c_X6_init {b  : Nat} (hb : b < n)  (hk : (κ b).1 = 6 + 3) (hn : n < 900000) : Ev o (d + 1) zX6_init [.ref b] (n, sl, κ, rf, m, lg) none ((n + 5), (sl + 22), (va_up (va_up (va_up (va_up (va_up κ n (0, 4)) (n + 1) (0, 4)) (n + 2) (0, 4)) (n + 3) (0, 5)) (n + 4) (0, 5)), (ai_upR (va_up (ai_upR (va_up (ai_upR (va_up (ai_upR (va_up (ai_upR (va_up rf n (fun _ => none)) b 0 (some n)) (n + 1) (fun _ => none)) b 1 (some (n + 1))) (n + 2) (fun _ => none)) b 2 (some (n + 2))) (n + 3) (fun _ => none)) b 3 (some (n + 3))) (n + 4) (fun _ => none)) b 4 (some (n + 4))), (ai_up (ai_up (ai_up (ai_up (ai_up (va_up (va_up (va_up (va_up (va_up m n (fun _ => 0)) (n + 1) (fun _ => 0)) (n + 2) (fun _ => 0)) (n + 3) (fun _ => 0)) (n + 4) (fun _ => 0)) b 5 (nI 0)) b 6 (nI 0)) b 7 (nI 0)) b 8 (nI 0)) b 9 (-9)), (va_up (va_up (va_up (va_up (va_up lg n (fun _ => 0)) (n + 1) (fun _ => 0)) (n + 2) (fun _ => 0)) (n + 3) (fun _ => 0)) (n + 4) (fun _ => 0))) := by
  rw [ev_X6_init]
  rw [e_X6_init_0, e_X6_init_1, e_X6_init_4, e_X6_init_5, e_X6_init_6 (n9 := (n + 1)) (s9 := (sl + 4)) (by first | rfl | omega) (by first | rfl | omega) (by decide) (by first | decide | omega), e_X6_init_8 ⟨(by omega), (by omega), (by (try simp only [va_up]); (repeat rw [if_neg (by omega)]); exact hk)⟩, e_X6_init_11, e_X6_init_12, e_X6_init_13 (n9 := (n + 2)) (s9 := (sl + 8)) (by first | rfl | omega) (by first | rfl | omega) (by decide) (by first | decide | omega), e_X6_init_15 ⟨(by omega), (by omega), (by (try simp only [va_up]); (repeat rw [if_neg (by omega)]); exact hk)⟩, e_X6_init_18, e_X6_init_19]
  rw [e_X6_init_20 (n9 := (n + 3)) (s9 := (sl + 12)) (by first | rfl | omega) (by first | rfl | omega) (by decide) (by first | decide | omega), e_X6_init_22 ⟨(by omega), (by omega), (by (try simp only [va_up]); (repeat rw [if_neg (by omega)]); exact hk)⟩, e_X6_init_25, e_X6_init_26, e_X6_init_27 (n9 := (n + 4)) (s9 := (sl + 17)) (by first | rfl | omega) (by first | rfl | omega) (by decide) (by first | decide | omega), e_X6_init_29 ⟨(by omega), (by omega), (by (try simp only [va_up]); (repeat rw [if_neg (by omega)]); exact hk)⟩, e_X6_init_32, e_X6_init_33, e_X6_init_34 (n9 := (n + 5)) (s9 := (sl + 22)) (by first | rfl | omega) (by first | rfl | omega) (by decide) (by first | decide | omega), e_X6_init_36 ⟨(by omega), (by omega), (by (try simp only [va_up]); (repeat rw [if_neg (by omega)]); exact hk)⟩, e_X6_init_39, e_X6_init_40]
  rw [e_X6_init_41 ⟨(by omega), (by (try simp only [va_up]); (repeat rw [if_neg (by omega)]); exact hk)⟩, e_X6_init_44, e_X6_init_45, e_X6_init_46 ⟨(by omega), (by (try simp only [va_up]); (repeat rw [if_neg (by omega)]); exact hk)⟩, e_X6_init_49, e_X6_init_50, e_X6_init_51 ⟨(by omega), (by (try simp only [va_up]); (repeat rw [if_neg (by omega)]); exact hk)⟩, e_X6_init_54, e_X6_init_55, e_X6_init_56 ⟨(by omega), (by (try simp only [va_up]); (repeat rw [if_neg (by omega)]); exact hk)⟩, e_X6_init_59, e_X6_init_60]
  rw [e_X6_init_62 ⟨(by omega), (by (try simp only [va_up]); (repeat rw [if_neg (by omega)]); exact hk)⟩, e_X6_init_65]
theorem c_X2_init {b t0 : Nat} (hb : b < n) (ht0 : t0 < n) (hk : (κ b).1 = 2 + 3) (hn : n < 900000) : Ev o (d + 1) zX2_init [.ref b, .ref t0] (n, sl, κ, rf, m, lg) none ((n + 5), (sl + 23), (va_up (va_up (va_up (va_up (va_up κ n (0, 5)) (n + 1) (0, 5)) (n + 2) (0, 5)) (n + 3) (0, 4)) (n + 4) (0, 4)), (ai_upR (ai_upR (va_up (ai_upR (va_up (ai_upR (va_up (ai_upR (va_up (ai_upR (va_up rf n (fun _ => none)) b 1 (some n)) (n + 1) (fun _ => none)) b 2 (some (n + 1))) (n + 2) (fun _ => none)) b 3 (some (n + 2))) (n + 3) (fun _ => none)) b 4 (some (n + 3))) (n + 4) (fun _ => none)) b 5 (some (n + 4))) b 0 (some t0)), (ai_up (va_up (va_up (va_up (va_up (va_up m n (fun _ => 0)) (n + 1) (fun _ => 0)) (n + 2) (fun _ => 0)) (n + 3) (fun _ => 0)) (n + 4) (fun _ => 0)) b 6 (nI 0)), (va_up (va_up (va_up (va_up (va_up lg n (fun _ => 0)) (n + 1) (fun _ => 0)) (n + 2) (fun _ => 0)) (n + 3) (fun _ => 0)) (n + 4) (fun _ => 0))) := by
  rw [ev_X2_init]
  rw [e_X2_init_0, e_X2_init_1, e_X2_init_4, e_X2_init_5, e_X2_init_6 (n9 := (n + 1)) (s9 := (sl + 5)) (by first | rfl | omega) (by first | rfl | omega) (by decide) (by first | decide | omega), e_X2_init_8 ⟨(by omega), (by omega), (by (try simp only [va_up]); (repeat rw [if_neg (by omega)]); exact hk)⟩, e_X2_init_11, e_X2_init_12, e_X2_init_13 (n9 := (n + 2)) (s9 := (sl + 10)) (by first | rfl | omega) (by first | rfl | omega) (by decide) (by first | decide | omega), e_X2_init_15 ⟨(by omega), (by omega), (by (try simp only [va_up]); (repeat rw [if_neg (by omega)]); exact hk)⟩, e_X2_init_18, e_X2_init_19]
  rw [e_X2_init_20 (n9 := (n + 3)) (s9 := (sl + 15)) (by first | rfl | omega) (by first | rfl | omega) (by decide) (by first | decide | omega), e_X2_init_22 ⟨(by omega), (by omega), (by (try simp only [va_up]); (repeat rw [if_neg (by omega)]); exact hk)⟩, e_X2_init_25, e_X2_init_26, e_X2_init_27 (n9 := (n + 4)) (s9 := (sl + 19)) (by first | rfl | omega) (by first | rfl | omega) (by decide) (by first | decide | omega), e_X2_init_29 ⟨(by omega), (by omega), (by (try simp only [va_up]); (repeat rw [if_neg (by omega)]); exact hk)⟩, e_X2_init_32, e_X2_init_33, e_X2_init_34 (n9 := (n + 5)) (s9 := (sl + 23)) (by first | rfl | omega) (by first | rfl | omega) (by decide) (by first | decide | omega), e_X2_init_36 ⟨(by omega), (by omega), (by (try simp only [va_up]); (repeat rw [if_neg (by omega)]); exact hk)⟩, e_X2_init_39, e_X2_init_40]
  rw [e_X2_init_41 ⟨(by omega), (by (try simp only [va_up]); (repeat rw [if_neg (by omega)]); exact hk)⟩, e_X2_init_44, e_X2_init_45, e_X2_init_46 ⟨(by omega), (by omega), (by (try simp only [va_up]); (repeat rw [if_neg (by omega)]); exact hk)⟩, e_X2_init_49]
theorem c_X4_init {b  : Nat} (hb : b < n)  (hk : (κ b).1 = 4 + 3) (hn : n < 900000) : Ev o (d + 1) zX4_init [.ref b] (n, sl, κ, rf, m, lg) none ((n + 3), (sl + 18), (va_up (va_up (va_up κ n (0, 6)) (n + 1) (0, 6)) (n + 2) (1, 6)), (ai_upR (va_up (ai_upR (va_up (ai_upR (va_up rf n (fun _ => none)) b 0 (some n)) (n + 1) (fun _ => none)) b 1 (some (n + 1))) (n + 2) (fun _ => none)) b 2 (some (n + 2))), (ai_up (va_up (va_up (va_up m n (fun _ => 0)) (n + 1) (fun _ => 0)) (n + 2) (fun _ => 0)) b 3 (nI 0)), (va_up (va_up (va_up lg n (fun _ => 0)) (n + 1) (fun _ => 0)) (n + 2) (fun _ => 0))) := by
  rw [ev_X4_init]
  rw [e_X4_init_0, e_X4_init_1, e_X4_init_4, e_X4_init_5, e_X4_init_7 (n9 := (n + 1)) (s9 := (sl + 6)) (by first | rfl | omega) (by first | rfl | omega) (by decide) (by first | decide | omega), e_X4_init_9 ⟨(by omega), (by omega), (by (try simp only [va_up]); (repeat rw [if_neg (by omega)]); exact hk)⟩, e_X4_init_12, e_X4_init_13, e_X4_init_15 (n9 := (n + 2)) (s9 := (sl + 12)) (by first | rfl | omega) (by first | rfl | omega) (by decide) (by first | decide | omega), e_X4_init_17 ⟨(by omega), (by omega), (by (try simp only [va_up]); (repeat rw [if_neg (by omega)]); exact hk)⟩, e_X4_init_20, e_X4_init_21]
  rw [e_X4_init_23 (n9 := (n + 3)) (s9 := (sl + 18)) (by first | rfl | omega) (by first | rfl | omega) (by decide) (by first | decide | omega), e_X4_init_25 ⟨(by omega), (by omega), (by (try simp only [va_up]); (repeat rw [if_neg (by omega)]); exact hk)⟩, e_X4_init_28, e_X4_init_29, e_X4_init_30 ⟨(by omega), (by (try simp only [va_up]); (repeat rw [if_neg (by omega)]); exact hk)⟩, e_X4_init_33]
theorem c_X3_init {b t0 t1 : Nat} (hb : b < n) (ht0 : t0 < n) (ht1 : t1 < n) (hk : (κ b).1 = 3 + 3) (hn : n < 900000) : Ev o (d + 1) zX3_init [.ref b, .ref t0, .ref t1] (n, sl, κ, rf, m, lg) none (n, sl, κ, (ai_upR (ai_upR rf b 0 (some t0)) b 1 (some t1)), (ai_up (ai_up (ai_up m b 2 (nI 0)) b 3 (nI 0)) b 4 (nI 0)), lg) := by
  rw [ev_X3_init]
  rw [e_X3_init_0, e_X3_init_1, e_X3_init_4, e_X3_init_5, e_X3_init_6 ⟨(by omega), (by (try simp only [va_up]); (repeat rw [if_neg (by omega)]); exact hk)⟩, e_X3_init_9, e_X3_init_10, e_X3_init_11 ⟨(by omega), (by (try simp only [va_up]); (repeat rw [if_neg (by omega)]); exact hk)⟩, e_X3_init_14, e_X3_init_15, e_X3_init_16 ⟨(by omega), (by (try simp only [va_up]); (repeat rw [if_neg (by omega)]); exact hk)⟩, e_X3_init_19]
  rw [e_X3_init_20, e_X3_init_21 ⟨(by omega), (by omega), (by (try simp only [va_up]); (repeat rw [if_neg (by omega)]); exact hk)⟩, e_X3_init_24, e_X3_init_25, e_X3_init_26 ⟨(by omega), (by omega), (by (try simp only [va_up]); (repeat rw [if_neg (by omega)]); exact hk)⟩, e_X3_init_29]
theorem c_X1_init {b t0 t1 : Nat} (hb : b < n) (ht0 : t0 < n) (ht1 : t1 < n) (hk : (κ b).1 = 1 + 3) (hn : n < 900000) : Ev o (d + 1) zX1_init [.ref b, .ref t0, .ref t1] (n, sl, κ, rf, m, lg) none (n, sl, κ, (ai_upR (ai_upR rf b 0 (some t0)) b 1 (some t1)), m, lg) := by
  rw [ev_X1_init]
  rw [e_X1_init_0, e_X1_init_1, e_X1_init_4, e_X1_init_5, e_X1_init_6 ⟨(by omega), (by omega), (by (try simp only [va_up]); (repeat rw [if_neg (by omega)]); exact hk)⟩, e_X1_init_9, e_X1_init_10, e_X1_init_11 ⟨(by omega), (by omega), (by (try simp only [va_up]); (repeat rw [if_neg (by omega)]); exact hk)⟩, e_X1_init_14]
end CTG
end
section
section CTC
variable {o : ai_S} {d : Nat} {st : List Value} {w : ai_W} {r : Option Value × ai_W} {x y : Int32} {xl yl : Int64} {i j k n sl : Nat} {κ : Nat → Nat × Nat} {rf : Nat → Nat → Option Nat} {m : Nat → Nat → Int32} {lg : Nat → Nat → Int64} {a0 a1 a2 a3 a4 a5 a6 a7 a8 a9 a10 a11 a12 : Value}
def cs_k : Nat → Nat × Nat := (va_up (fun _ => (0, 0)) 0 (7 + 3, 12))
def cs_rf : Nat → Nat → Option Nat := (va_up (fun _ _ => none) 0 (fun _ => none))
def cs_m : Nat → Nat → Int32 := (va_up (fun _ _ => 0) 0 (fun _ => 0))
def cs_lg : Nat → Nat → Int64 := (va_up (fun _ _ => 0) 0 (fun _ => 0))
def ca_k : Nat → Nat × Nat := (va_up (va_up (va_up (va_up (va_up (va_up (va_up (va_up (va_up (va_up (va_up (va_up (va_up (va_up (va_up (va_up (va_up (va_up (va_up (va_up (va_up (va_up (va_up (va_up (va_up (va_up (va_up cs_k 1 (5 + 3, 2)) 2 (0, 48)) 3 (6 + 3, 10)) 4 (0, 4)) 5 (0, 4)) 6 (0, 4)) 7 (0, 5)) 8 (0, 5)) 9 (6 + 3, 10)) 10 (0, 4)) 11 (0, 4)) 12 (0, 4)) 13 (0, 5)) 14 (0, 5)) 15 (2 + 3, 7)) 16 (0, 5)) 17 (0, 5)) 18 (0, 5)) 19 (0, 4)) 20 (0, 4)) 21 (2 + 3, 7)) 22 (0, 5)) 23 (0, 5)) 24 (0, 5)) 25 (0, 4)) 26 (0, 4)) 27 (0 + 3, 3))
def ca_rf : Nat → Nat → Option Nat := (va_up (ai_upR (ai_upR (ai_upR (va_up (ai_upR (va_up (ai_upR (va_up (ai_upR (va_up (ai_upR (va_up (va_up (ai_upR (ai_upR (ai_upR (va_up (ai_upR (va_up (ai_upR (va_up (ai_upR (va_up (ai_upR (va_up (va_up (ai_upR (ai_upR (va_up (ai_upR (va_up (ai_upR (va_up (ai_upR (va_up (ai_upR (va_up (va_up (ai_upR (ai_upR (va_up (ai_upR (va_up (ai_upR (va_up (ai_upR (va_up (ai_upR (va_up (va_up (ai_upR (ai_upR (va_up (va_up cs_rf 1 (fun _ => none)) 2 (fun _ => none)) 1 0 (some 2)) 0 0 (some 1)) 3 (fun _ => none)) 4 (fun _ => none)) 3 0 (some 4)) 5 (fun _ => none)) 3 1 (some 5)) 6 (fun _ => none)) 3 2 (some 6)) 7 (fun _ => none)) 3 3 (some 7)) 8 (fun _ => none)) 3 4 (some 8)) 0 1 (some 3)) 9 (fun _ => none)) 10 (fun _ => none)) 9 0 (some 10)) 11 (fun _ => none)) 9 1 (some 11)) 12 (fun _ => none)) 9 2 (some 12)) 13 (fun _ => none)) 9 3 (some 13)) 14 (fun _ => none)) 9 4 (some 14)) 0 2 (some 9)) 15 (fun _ => none)) 16 (fun _ => none)) 15 1 (some 16)) 17 (fun _ => none)) 15 2 (some 17)) 18 (fun _ => none)) 15 3 (some 18)) 19 (fun _ => none)) 15 4 (some 19)) 20 (fun _ => none)) 15 5 (some 20)) 15 0 (some 3)) 0 3 (some 15)) 21 (fun _ => none)) 22 (fun _ => none)) 21 1 (some 22)) 23 (fun _ => none)) 21 2 (some 23)) 24 (fun _ => none)) 21 3 (some 24)) 25 (fun _ => none)) 21 4 (some 25)) 26 (fun _ => none)) 21 5 (some 26)) 21 0 (some 3)) 0 4 (some 21)) 27 (fun _ => none))
def ca_m : Nat → Nat → Int32 := (va_up (ai_up (va_up (va_up (va_up (va_up (va_up (va_up (ai_up (va_up (va_up (va_up (va_up (va_up (va_up (ai_up (ai_up (ai_up (ai_up (ai_up (va_up (va_up (va_up (va_up (va_up (va_up (ai_up (ai_up (ai_up (ai_up (ai_up (va_up (va_up (va_up (va_up (va_up (va_up (ai_up (va_up (va_up cs_m 1 (fun _ => 0)) 2 (fun _ => 0)) 1 1 (nI 0)) 3 (fun _ => 0)) 4 (fun _ => 0)) 5 (fun _ => 0)) 6 (fun _ => 0)) 7 (fun _ => 0)) 8 (fun _ => 0)) 3 5 (nI 0)) 3 6 (nI 0)) 3 7 (nI 0)) 3 8 (nI 0)) 3 9 (-9)) 9 (fun _ => 0)) 10 (fun _ => 0)) 11 (fun _ => 0)) 12 (fun _ => 0)) 13 (fun _ => 0)) 14 (fun _ => 0)) 9 5 (nI 0)) 9 6 (nI 0)) 9 7 (nI 0)) 9 8 (nI 0)) 9 9 (-9)) 15 (fun _ => 0)) 16 (fun _ => 0)) 17 (fun _ => 0)) 18 (fun _ => 0)) 19 (fun _ => 0)) 20 (fun _ => 0)) 15 6 (nI 0)) 21 (fun _ => 0)) 22 (fun _ => 0)) 23 (fun _ => 0)) 24 (fun _ => 0)) 25 (fun _ => 0)) 26 (fun _ => 0)) 21 6 (nI 0)) 27 (fun _ => 0))
def ca_lg : Nat → Nat → Int64 := (va_up (va_up (va_up (va_up (va_up (va_up (va_up (va_up (va_up (va_up (va_up (va_up (va_up (va_up (va_up (va_up (va_up (va_up (va_up (va_up (va_up (va_up (va_up (va_up (va_up (va_up (va_up cs_lg 1 (fun _ => 0)) 2 (fun _ => 0)) 3 (fun _ => 0)) 4 (fun _ => 0)) 5 (fun _ => 0)) 6 (fun _ => 0)) 7 (fun _ => 0)) 8 (fun _ => 0)) 9 (fun _ => 0)) 10 (fun _ => 0)) 11 (fun _ => 0)) 12 (fun _ => 0)) 13 (fun _ => 0)) 14 (fun _ => 0)) 15 (fun _ => 0)) 16 (fun _ => 0)) 17 (fun _ => 0)) 18 (fun _ => 0)) 19 (fun _ => 0)) 20 (fun _ => 0)) 21 (fun _ => 0)) 22 (fun _ => 0)) 23 (fun _ => 0)) 24 (fun _ => 0)) 25 (fun _ => 0)) 26 (fun _ => 0)) 27 (fun _ => 0))
def cb_k : Nat → Nat × Nat := (va_up (va_up (va_up (va_up (va_up (va_up (va_up (va_up (va_up (va_up (va_up (va_up (va_up (va_up (va_up (va_up (va_up (va_up (va_up (va_up (va_up (va_up (va_up (va_up (va_up (va_up (va_up (va_up (va_up (va_up (va_up (va_up (va_up (va_up (va_up (va_up (va_up (va_up (va_up (va_up (va_up (va_up (va_up (va_up (va_up (va_up (va_up (va_up (va_up (va_up (va_up (va_up (va_up (va_up (va_up (va_up (va_up (va_up (va_up (va_up (va_up (va_up (va_up (va_up (va_up (va_up (va_up (va_up (va_up (va_up (va_up (va_up (va_up (va_up (va_up (va_up (va_up (va_up (va_up (va_up (va_up (va_up (va_up (va_up (va_up ca_k 28 (2, 14)) 29 (2 + 3, 7)) 30 (0, 5)) 31 (0, 5)) 32 (0, 5)) 33 (0, 4)) 34 (0, 4)) 35 (2 + 3, 7)) 36 (0, 5)) 37 (0, 5)) 38 (0, 5)) 39 (0, 4)) 40 (0, 4)) 41 (2 + 3, 7)) 42 (0, 5)) 43 (0, 5)) 44 (0, 5)) 45 (0, 4)) 46 (0, 4)) 47 (2 + 3, 7)) 48 (0, 5)) 49 (0, 5)) 50 (0, 5)) 51 (0, 4)) 52 (0, 4)) 53 (2 + 3, 7)) 54 (0, 5)) 55 (0, 5)) 56 (0, 5)) 57 (0, 4)) 58 (0, 4)) 59 (2 + 3, 7)) 60 (0, 5)) 61 (0, 5)) 62 (0, 5)) 63 (0, 4)) 64 (0, 4)) 65 (2 + 3, 7)) 66 (0, 5)) 67 (0, 5)) 68 (0, 5)) 69 (0, 4)) 70 (0, 4)) 71 (2 + 3, 7)) 72 (0, 5)) 73 (0, 5)) 74 (0, 5)) 75 (0, 4)) 76 (0, 4)) 77 (2 + 3, 7)) 78 (0, 5)) 79 (0, 5)) 80 (0, 5)) 81 (0, 4)) 82 (0, 4)) 83 (2 + 3, 7)) 84 (0, 5)) 85 (0, 5)) 86 (0, 5)) 87 (0, 4)) 88 (0, 4)) 89 (2 + 3, 7)) 90 (0, 5)) 91 (0, 5)) 92 (0, 5)) 93 (0, 4)) 94 (0, 4)) 95 (2 + 3, 7)) 96 (0, 5)) 97 (0, 5)) 98 (0, 5)) 99 (0, 4)) 100 (0, 4)) 101 (2 + 3, 7)) 102 (0, 5)) 103 (0, 5)) 104 (0, 5)) 105 (0, 4)) 106 (0, 4)) 107 (2 + 3, 7)) 108 (0, 5)) 109 (0, 5)) 110 (0, 5)) 111 (0, 4)) 112 (0, 4))
def cb_rf : Nat → Nat → Option Nat := (ai_upR (ai_upR (ai_upR (va_up (ai_upR (va_up (ai_upR (va_up (ai_upR (va_up (ai_upR (va_up (va_up (ai_upR (ai_upR (ai_upR (va_up (ai_upR (va_up (ai_upR (va_up (ai_upR (va_up (ai_upR (va_up (va_up (ai_upR (ai_upR (ai_upR (va_up (ai_upR (va_up (ai_upR (va_up (ai_upR (va_up (ai_upR (va_up (va_up (ai_upR (ai_upR (ai_upR (va_up (ai_upR (va_up (ai_upR (va_up (ai_upR (va_up (ai_upR (va_up (va_up (ai_upR (ai_upR (ai_upR (va_up (ai_upR (va_up (ai_upR (va_up (ai_upR (va_up (ai_upR (va_up (va_up (ai_upR (ai_upR (ai_upR (va_up (ai_upR (va_up (ai_upR (va_up (ai_upR (va_up (ai_upR (va_up (va_up (ai_upR (ai_upR (ai_upR (va_up (ai_upR (va_up (ai_upR (va_up (ai_upR (va_up (ai_upR (va_up (va_up (ai_upR (ai_upR (ai_upR (va_up (ai_upR (va_up (ai_upR (va_up (ai_upR (va_up (ai_upR (va_up (va_up (ai_upR (ai_upR (ai_upR (va_up (ai_upR (va_up (ai_upR (va_up (ai_upR (va_up (ai_upR (va_up (va_up (ai_upR (ai_upR (ai_upR (va_up (ai_upR (va_up (ai_upR (va_up (ai_upR (va_up (ai_upR (va_up (va_up (ai_upR (ai_upR (ai_upR (va_up (ai_upR (va_up (ai_upR (va_up (ai_upR (va_up (ai_upR (va_up (va_up (ai_upR (ai_upR (ai_upR (va_up (ai_upR (va_up (ai_upR (va_up (ai_upR (va_up (ai_upR (va_up (va_up (ai_upR (ai_upR (ai_upR (va_up (ai_upR (va_up (ai_upR (va_up (ai_upR (va_up (ai_upR (va_up (va_up (ai_upR (ai_upR (ai_upR (va_up (ai_upR (va_up (ai_upR (va_up (ai_upR (va_up (ai_upR (va_up (va_up (ai_upR (va_up ca_rf 28 (fun _ => none)) 27 0 (some 28)) 29 (fun _ => none)) 30 (fun _ => none)) 29 1 (some 30)) 31 (fun _ => none)) 29 2 (some 31)) 32 (fun _ => none)) 29 3 (some 32)) 33 (fun _ => none)) 29 4 (some 33)) 34 (fun _ => none)) 29 5 (some 34)) 29 0 (some 3)) 28 0 (some 29)) 35 (fun _ => none)) 36 (fun _ => none)) 35 1 (some 36)) 37 (fun _ => none)) 35 2 (some 37)) 38 (fun _ => none)) 35 3 (some 38)) 39 (fun _ => none)) 35 4 (some 39)) 40 (fun _ => none)) 35 5 (some 40)) 35 0 (some 3)) 28 1 (some 35)) 41 (fun _ => none)) 42 (fun _ => none)) 41 1 (some 42)) 43 (fun _ => none)) 41 2 (some 43)) 44 (fun _ => none)) 41 3 (some 44)) 45 (fun _ => none)) 41 4 (some 45)) 46 (fun _ => none)) 41 5 (some 46)) 41 0 (some 3)) 28 2 (some 41)) 47 (fun _ => none)) 48 (fun _ => none)) 47 1 (some 48)) 49 (fun _ => none)) 47 2 (some 49)) 50 (fun _ => none)) 47 3 (some 50)) 51 (fun _ => none)) 47 4 (some 51)) 52 (fun _ => none)) 47 5 (some 52)) 47 0 (some 3)) 28 3 (some 47)) 53 (fun _ => none)) 54 (fun _ => none)) 53 1 (some 54)) 55 (fun _ => none)) 53 2 (some 55)) 56 (fun _ => none)) 53 3 (some 56)) 57 (fun _ => none)) 53 4 (some 57)) 58 (fun _ => none)) 53 5 (some 58)) 53 0 (some 3)) 28 4 (some 53)) 59 (fun _ => none)) 60 (fun _ => none)) 59 1 (some 60)) 61 (fun _ => none)) 59 2 (some 61)) 62 (fun _ => none)) 59 3 (some 62)) 63 (fun _ => none)) 59 4 (some 63)) 64 (fun _ => none)) 59 5 (some 64)) 59 0 (some 3)) 28 5 (some 59)) 65 (fun _ => none)) 66 (fun _ => none)) 65 1 (some 66)) 67 (fun _ => none)) 65 2 (some 67)) 68 (fun _ => none)) 65 3 (some 68)) 69 (fun _ => none)) 65 4 (some 69)) 70 (fun _ => none)) 65 5 (some 70)) 65 0 (some 3)) 28 6 (some 65)) 71 (fun _ => none)) 72 (fun _ => none)) 71 1 (some 72)) 73 (fun _ => none)) 71 2 (some 73)) 74 (fun _ => none)) 71 3 (some 74)) 75 (fun _ => none)) 71 4 (some 75)) 76 (fun _ => none)) 71 5 (some 76)) 71 0 (some 3)) 28 7 (some 71)) 77 (fun _ => none)) 78 (fun _ => none)) 77 1 (some 78)) 79 (fun _ => none)) 77 2 (some 79)) 80 (fun _ => none)) 77 3 (some 80)) 81 (fun _ => none)) 77 4 (some 81)) 82 (fun _ => none)) 77 5 (some 82)) 77 0 (some 3)) 28 8 (some 77)) 83 (fun _ => none)) 84 (fun _ => none)) 83 1 (some 84)) 85 (fun _ => none)) 83 2 (some 85)) 86 (fun _ => none)) 83 3 (some 86)) 87 (fun _ => none)) 83 4 (some 87)) 88 (fun _ => none)) 83 5 (some 88)) 83 0 (some 3)) 28 9 (some 83)) 89 (fun _ => none)) 90 (fun _ => none)) 89 1 (some 90)) 91 (fun _ => none)) 89 2 (some 91)) 92 (fun _ => none)) 89 3 (some 92)) 93 (fun _ => none)) 89 4 (some 93)) 94 (fun _ => none)) 89 5 (some 94)) 89 0 (some 3)) 28 10 (some 89)) 95 (fun _ => none)) 96 (fun _ => none)) 95 1 (some 96)) 97 (fun _ => none)) 95 2 (some 97)) 98 (fun _ => none)) 95 3 (some 98)) 99 (fun _ => none)) 95 4 (some 99)) 100 (fun _ => none)) 95 5 (some 100)) 95 0 (some 3)) 28 11 (some 95)) 101 (fun _ => none)) 102 (fun _ => none)) 101 1 (some 102)) 103 (fun _ => none)) 101 2 (some 103)) 104 (fun _ => none)) 101 3 (some 104)) 105 (fun _ => none)) 101 4 (some 105)) 106 (fun _ => none)) 101 5 (some 106)) 101 0 (some 3)) 28 12 (some 101)) 107 (fun _ => none)) 108 (fun _ => none)) 107 1 (some 108)) 109 (fun _ => none)) 107 2 (some 109)) 110 (fun _ => none)) 107 3 (some 110)) 111 (fun _ => none)) 107 4 (some 111)) 112 (fun _ => none)) 107 5 (some 112)) 107 0 (some 3)) 28 13 (some 107))
def cb_m : Nat → Nat → Int32 := (ai_up (va_up (va_up (va_up (va_up (va_up (va_up (ai_up (va_up (va_up (va_up (va_up (va_up (va_up (ai_up (va_up (va_up (va_up (va_up (va_up (va_up (ai_up (va_up (va_up (va_up (va_up (va_up (va_up (ai_up (va_up (va_up (va_up (va_up (va_up (va_up (ai_up (va_up (va_up (va_up (va_up (va_up (va_up (ai_up (va_up (va_up (va_up (va_up (va_up (va_up (ai_up (va_up (va_up (va_up (va_up (va_up (va_up (ai_up (va_up (va_up (va_up (va_up (va_up (va_up (ai_up (va_up (va_up (va_up (va_up (va_up (va_up (ai_up (va_up (va_up (va_up (va_up (va_up (va_up (ai_up (va_up (va_up (va_up (va_up (va_up (va_up (ai_up (va_up (va_up (va_up (va_up (va_up (va_up (ai_up (va_up (va_up (va_up (va_up (va_up (va_up (ai_up (ai_up (va_up ca_m 28 (fun _ => 0)) 27 1 (nI 0)) 27 2 (nI 0)) 29 (fun _ => 0)) 30 (fun _ => 0)) 31 (fun _ => 0)) 32 (fun _ => 0)) 33 (fun _ => 0)) 34 (fun _ => 0)) 29 6 (nI 0)) 35 (fun _ => 0)) 36 (fun _ => 0)) 37 (fun _ => 0)) 38 (fun _ => 0)) 39 (fun _ => 0)) 40 (fun _ => 0)) 35 6 (nI 0)) 41 (fun _ => 0)) 42 (fun _ => 0)) 43 (fun _ => 0)) 44 (fun _ => 0)) 45 (fun _ => 0)) 46 (fun _ => 0)) 41 6 (nI 0)) 47 (fun _ => 0)) 48 (fun _ => 0)) 49 (fun _ => 0)) 50 (fun _ => 0)) 51 (fun _ => 0)) 52 (fun _ => 0)) 47 6 (nI 0)) 53 (fun _ => 0)) 54 (fun _ => 0)) 55 (fun _ => 0)) 56 (fun _ => 0)) 57 (fun _ => 0)) 58 (fun _ => 0)) 53 6 (nI 0)) 59 (fun _ => 0)) 60 (fun _ => 0)) 61 (fun _ => 0)) 62 (fun _ => 0)) 63 (fun _ => 0)) 64 (fun _ => 0)) 59 6 (nI 0)) 65 (fun _ => 0)) 66 (fun _ => 0)) 67 (fun _ => 0)) 68 (fun _ => 0)) 69 (fun _ => 0)) 70 (fun _ => 0)) 65 6 (nI 0)) 71 (fun _ => 0)) 72 (fun _ => 0)) 73 (fun _ => 0)) 74 (fun _ => 0)) 75 (fun _ => 0)) 76 (fun _ => 0)) 71 6 (nI 0)) 77 (fun _ => 0)) 78 (fun _ => 0)) 79 (fun _ => 0)) 80 (fun _ => 0)) 81 (fun _ => 0)) 82 (fun _ => 0)) 77 6 (nI 0)) 83 (fun _ => 0)) 84 (fun _ => 0)) 85 (fun _ => 0)) 86 (fun _ => 0)) 87 (fun _ => 0)) 88 (fun _ => 0)) 83 6 (nI 0)) 89 (fun _ => 0)) 90 (fun _ => 0)) 91 (fun _ => 0)) 92 (fun _ => 0)) 93 (fun _ => 0)) 94 (fun _ => 0)) 89 6 (nI 0)) 95 (fun _ => 0)) 96 (fun _ => 0)) 97 (fun _ => 0)) 98 (fun _ => 0)) 99 (fun _ => 0)) 100 (fun _ => 0)) 95 6 (nI 0)) 101 (fun _ => 0)) 102 (fun _ => 0)) 103 (fun _ => 0)) 104 (fun _ => 0)) 105 (fun _ => 0)) 106 (fun _ => 0)) 101 6 (nI 0)) 107 (fun _ => 0)) 108 (fun _ => 0)) 109 (fun _ => 0)) 110 (fun _ => 0)) 111 (fun _ => 0)) 112 (fun _ => 0)) 107 6 (nI 0))
def cb_lg : Nat → Nat → Int64 := (va_up (va_up (va_up (va_up (va_up (va_up (va_up (va_up (va_up (va_up (va_up (va_up (va_up (va_up (va_up (va_up (va_up (va_up (va_up (va_up (va_up (va_up (va_up (va_up (va_up (va_up (va_up (va_up (va_up (va_up (va_up (va_up (va_up (va_up (va_up (va_up (va_up (va_up (va_up (va_up (va_up (va_up (va_up (va_up (va_up (va_up (va_up (va_up (va_up (va_up (va_up (va_up (va_up (va_up (va_up (va_up (va_up (va_up (va_up (va_up (va_up (va_up (va_up (va_up (va_up (va_up (va_up (va_up (va_up (va_up (va_up (va_up (va_up (va_up (va_up (va_up (va_up (va_up (va_up (va_up (va_up (va_up (va_up (va_up (va_up ca_lg 28 (fun _ => 0)) 29 (fun _ => 0)) 30 (fun _ => 0)) 31 (fun _ => 0)) 32 (fun _ => 0)) 33 (fun _ => 0)) 34 (fun _ => 0)) 35 (fun _ => 0)) 36 (fun _ => 0)) 37 (fun _ => 0)) 38 (fun _ => 0)) 39 (fun _ => 0)) 40 (fun _ => 0)) 41 (fun _ => 0)) 42 (fun _ => 0)) 43 (fun _ => 0)) 44 (fun _ => 0)) 45 (fun _ => 0)) 46 (fun _ => 0)) 47 (fun _ => 0)) 48 (fun _ => 0)) 49 (fun _ => 0)) 50 (fun _ => 0)) 51 (fun _ => 0)) 52 (fun _ => 0)) 53 (fun _ => 0)) 54 (fun _ => 0)) 55 (fun _ => 0)) 56 (fun _ => 0)) 57 (fun _ => 0)) 58 (fun _ => 0)) 59 (fun _ => 0)) 60 (fun _ => 0)) 61 (fun _ => 0)) 62 (fun _ => 0)) 63 (fun _ => 0)) 64 (fun _ => 0)) 65 (fun _ => 0)) 66 (fun _ => 0)) 67 (fun _ => 0)) 68 (fun _ => 0)) 69 (fun _ => 0)) 70 (fun _ => 0)) 71 (fun _ => 0)) 72 (fun _ => 0)) 73 (fun _ => 0)) 74 (fun _ => 0)) 75 (fun _ => 0)) 76 (fun _ => 0)) 77 (fun _ => 0)) 78 (fun _ => 0)) 79 (fun _ => 0)) 80 (fun _ => 0)) 81 (fun _ => 0)) 82 (fun _ => 0)) 83 (fun _ => 0)) 84 (fun _ => 0)) 85 (fun _ => 0)) 86 (fun _ => 0)) 87 (fun _ => 0)) 88 (fun _ => 0)) 89 (fun _ => 0)) 90 (fun _ => 0)) 91 (fun _ => 0)) 92 (fun _ => 0)) 93 (fun _ => 0)) 94 (fun _ => 0)) 95 (fun _ => 0)) 96 (fun _ => 0)) 97 (fun _ => 0)) 98 (fun _ => 0)) 99 (fun _ => 0)) 100 (fun _ => 0)) 101 (fun _ => 0)) 102 (fun _ => 0)) 103 (fun _ => 0)) 104 (fun _ => 0)) 105 (fun _ => 0)) 106 (fun _ => 0)) 107 (fun _ => 0)) 108 (fun _ => 0)) 109 (fun _ => 0)) 110 (fun _ => 0)) 111 (fun _ => 0)) 112 (fun _ => 0))
def ce_k : Nat → Nat × Nat := (va_up (va_up (va_up (va_up (va_up (va_up (va_up (va_up (va_up (va_up (va_up (va_up (va_up (va_up (va_up (va_up (va_up (va_up (va_up (va_up cb_k 113 (4 + 3, 4)) 114 (0, 6)) 115 (0, 6)) 116 (1, 6)) 117 (3 + 3, 5)) 118 (1 + 3, 2)) 119 (2, 2)) 120 (1, 2)) 121 (2 + 3, 7)) 122 (0, 5)) 123 (0, 5)) 124 (0, 5)) 125 (0, 4)) 126 (0, 4)) 127 (2 + 3, 7)) 128 (0, 5)) 129 (0, 5)) 130 (0, 5)) 131 (0, 4)) 132 (0, 4))
def ce_rf : Nat → Nat → Option Nat := (ai_upR (ai_upR (ai_upR (va_up (ai_upR (va_up (ai_upR (va_up (ai_upR (va_up (ai_upR (va_up (va_up (ai_upR (ai_upR (ai_upR (va_up (ai_upR (va_up (ai_upR (va_up (ai_upR (va_up (ai_upR (va_up (va_up (ai_upR (va_up (ai_upR (va_up (ai_upR (ai_upR (ai_upR (va_up (ai_upR (ai_upR (ai_upR (va_up (ai_upR (ai_upR (va_up (ai_upR (va_up (ai_upR (va_up (va_up (ai_upR cb_rf 0 5 (some 27)) 113 (fun _ => none)) 114 (fun _ => none)) 113 0 (some 114)) 115 (fun _ => none)) 113 1 (some 115)) 116 (fun _ => none)) 113 2 (some 116)) 0 6 (some 113)) 117 (fun _ => none)) 117 0 (some 3)) 117 1 (some 21)) 0 7 (some 117)) 118 (fun _ => none)) 118 0 (some 3)) 118 1 (some 21)) 0 8 (some 118)) 119 (fun _ => none)) 0 9 (some 119)) 120 (fun _ => none)) 0 10 (some 120)) 121 (fun _ => none)) 122 (fun _ => none)) 121 1 (some 122)) 123 (fun _ => none)) 121 2 (some 123)) 124 (fun _ => none)) 121 3 (some 124)) 125 (fun _ => none)) 121 4 (some 125)) 126 (fun _ => none)) 121 5 (some 126)) 121 0 (some 3)) 119 0 (some 121)) 127 (fun _ => none)) 128 (fun _ => none)) 127 1 (some 128)) 129 (fun _ => none)) 127 2 (some 129)) 130 (fun _ => none)) 127 3 (some 130)) 131 (fun _ => none)) 127 4 (some 131)) 132 (fun _ => none)) 127 5 (some 132)) 127 0 (some 3)) 119 1 (some 127))
def ce_m : Nat → Nat → Int32 := (ai_up (va_up (va_up (va_up (va_up (va_up (va_up (ai_up (va_up (va_up (va_up (va_up (va_up (va_up (va_up (va_up (va_up (ai_up (ai_up (ai_up (va_up (ai_up (va_up (va_up (va_up (va_up cb_m 113 (fun _ => 0)) 114 (fun _ => 0)) 115 (fun _ => 0)) 116 (fun _ => 0)) 113 3 (nI 0)) 117 (fun _ => 0)) 117 2 (nI 0)) 117 3 (nI 0)) 117 4 (nI 0)) 118 (fun _ => 0)) 119 (fun _ => 0)) 120 (fun _ => 0)) 121 (fun _ => 0)) 122 (fun _ => 0)) 123 (fun _ => 0)) 124 (fun _ => 0)) 125 (fun _ => 0)) 126 (fun _ => 0)) 121 6 (nI 0)) 127 (fun _ => 0)) 128 (fun _ => 0)) 129 (fun _ => 0)) 130 (fun _ => 0)) 131 (fun _ => 0)) 132 (fun _ => 0)) 127 6 (nI 0))
def ce_lg : Nat → Nat → Int64 := (va_up (va_up (va_up (va_up (va_up (va_up (va_up (va_up (va_up (va_up (va_up (va_up (ai_upL (va_up (va_up (va_up (va_up (va_up (va_up (va_up (va_up cb_lg 113 (fun _ => 0)) 114 (fun _ => 0)) 115 (fun _ => 0)) 116 (fun _ => 0)) 117 (fun _ => 0)) 118 (fun _ => 0)) 119 (fun _ => 0)) 120 (fun _ => 0)) 0 11 0) 121 (fun _ => 0)) 122 (fun _ => 0)) 123 (fun _ => 0)) 124 (fun _ => 0)) 125 (fun _ => 0)) 126 (fun _ => 0)) 127 (fun _ => 0)) 128 (fun _ => 0)) 129 (fun _ => 0)) 130 (fun _ => 0)) 131 (fun _ => 0)) 132 (fun _ => 0))
def cm_k : Nat → Nat × Nat := (va_up ce_k 133 (8 + 3, 37))
def cm_rf : Nat → Nat → Option Nat := (va_up ce_rf 133 (fun _ => none))
def cm_m : Nat → Nat → Int32 := (va_up ce_m 133 (fun _ => 0))
def cm_lg : Nat → Nat → Int64 := (va_up ce_lg 133 (fun _ => 0))
def cz_k : Nat → Nat × Nat := (va_up (va_up (va_up (va_up (va_up (va_up (va_up (va_up (va_up (va_up (va_up (va_up (va_up (va_up (va_up (va_up (va_up cm_k 134 (0, 48)) 135 (0, 4)) 136 (0, 4)) 137 (0, 5)) 138 (0, 4)) 139 (0, 8)) 140 (0, 10)) 141 (0, 24)) 142 (0, 24)) 143 (0, 336)) 144 (0, 48)) 145 (1, 2)) 146 (0, 6)) 147 (0, 6)) 148 (0, 6)) 149 (0, 50)) 150 (0, 16))
def cz_rf : Nat → Nat → Option Nat := (ai_upR (va_up (ai_upR (va_up (ai_upR (va_up (ai_upR (va_up (ai_upR (va_up (ai_upR (va_up (ai_upR (va_up (ai_upR (va_up (ai_upR (va_up (ai_upR (va_up (ai_upR (va_up (ai_upR (va_up (ai_upR (va_up (ai_upR (va_up (ai_upR (va_up (ai_upR (va_up (ai_upR (va_up cm_rf 134 (fun _ => none)) 133 1 (some 134)) 135 (fun _ => none)) 133 5 (some 135)) 136 (fun _ => none)) 133 7 (some 136)) 137 (fun _ => none)) 133 9 (some 137)) 138 (fun _ => none)) 133 11 (some 138)) 139 (fun _ => none)) 133 13 (some 139)) 140 (fun _ => none)) 133 15 (some 140)) 141 (fun _ => none)) 133 16 (some 141)) 142 (fun _ => none)) 133 17 (some 142)) 143 (fun _ => none)) 133 18 (some 143)) 144 (fun _ => none)) 133 20 (some 144)) 145 (fun _ => none)) 133 21 (some 145)) 146 (fun _ => none)) 133 23 (some 146)) 147 (fun _ => none)) 133 24 (some 147)) 148 (fun _ => none)) 133 25 (some 148)) 149 (fun _ => none)) 133 35 (some 149)) 150 (fun _ => none)) 133 36 (some 150))
def cz_m : Nat → Nat → Int32 := (va_up (va_up (va_up (va_up (va_up (va_up (va_up (va_up (va_up (va_up (va_up (va_up (va_up (va_up (va_up (va_up (va_up cm_m 134 (fun _ => 0)) 135 (fun _ => 0)) 136 (fun _ => 0)) 137 (fun _ => 0)) 138 (fun _ => 0)) 139 (fun _ => 0)) 140 (fun _ => 0)) 141 (fun _ => 0)) 142 (fun _ => 0)) 143 (fun _ => 0)) 144 (fun _ => 0)) 145 (fun _ => 0)) 146 (fun _ => 0)) 147 (fun _ => 0)) 148 (fun _ => 0)) 149 (fun _ => 0)) 150 (fun _ => 0))
def cz_lg : Nat → Nat → Int64 := (va_up (va_up (va_up (va_up (va_up (va_up (va_up (va_up (va_up (va_up (va_up (va_up (va_up (va_up (va_up (va_up (va_up cm_lg 134 (fun _ => 0)) 135 (fun _ => 0)) 136 (fun _ => 0)) 137 (fun _ => 0)) 138 (fun _ => 0)) 139 (fun _ => 0)) 140 (fun _ => 0)) 141 (fun _ => 0)) 142 (fun _ => 0)) 143 (fun _ => 0)) 144 (fun _ => 0)) 145 (fun _ => 0)) 146 (fun _ => 0)) 147 (fun _ => 0)) 148 (fun _ => 0)) 149 (fun _ => 0)) 150 (fun _ => 0))
set_option maxHeartbeats 4000000 in
set_option maxRecDepth 20000 in
theorem c_X0_init : Ev o (d + 2) zX0_init [.ref 27, .ref 3] (28, 189, ca_k, ca_rf, ca_m, ca_lg) none (113, 623, cb_k, cb_rf, cb_m, cb_lg) := by
  rw [ev_X0_init]
  rw [e_X0_init_0, e_X0_init_1, e_X0_init_4, e_X0_init_5, e_X0_init_7 (n9 := 29) (s9 := 203) (by first | rfl | omega) (by first | rfl | omega) (by decide) (by first | decide | omega), e_X0_init_10 ⟨(by first | decide | omega), (by first | decide | omega), (by first | rfl | (simp [va_up]; done) | (simp [va_up, *]; done) | (simp [va_up]; omega))⟩, e_X0_init_13, e_X0_init_14, e_X0_init_15 ⟨(by first | decide | omega), (by first | rfl | (simp [va_up]; done) | (simp [va_up, *]; done) | (simp [va_up]; omega))⟩, e_X0_init_18, e_X0_init_19, e_X0_init_20 ⟨(by first | decide | omega), (by first | rfl | (simp [va_up]; done) | (simp [va_up, *]; done) | (simp [va_up]; omega))⟩]
  rw [e_X0_init_23, e_X0_init_24 (by rfl), e_X0_init_25, e_X0_init_26, e_X0_init_28, if_neg (by decide), e_X0_init_31, e_X0_init_32 (j := 28) ⟨(by first | decide | omega), (by first | rfl | (simp [va_up]; done) | (simp [va_up, *]; done) | (simp [va_up]; omega))⟩ (by first | rfl | decide), e_X0_init_35, e_X0_init_36 (n9 := 30) (s9 := 210) (by first | rfl | omega) (by first | rfl | omega) (by first | decide | omega), e_X0_init_39, e_X0_init_40]
  rw [e_X0_init_41 (hE := c_X2_init (by decide) (by decide) (by rfl) (by decide))]
  try simp only [Nat.reduceAdd]
  rw [e_X0_init_44 ⟨(by first | decide | omega), (by first | decide | omega), (by first | decide | omega), (by first | rfl | (simp [va_up]; done) | (simp [va_up, *]; done) | (simp [va_up]; omega))⟩ (by first | rfl | decide) (by decide), e_X0_init_45 (by rfl), nI_add, e_X0_init_48, e_X0_init_25, e_X0_init_26, e_X0_init_28, if_neg (by decide), e_X0_init_31, e_X0_init_32 (j := 28) ⟨(by first | decide | omega), (by first | rfl | (simp [va_up]; done) | (simp [va_up, *]; done) | (simp [va_up]; omega))⟩ (by first | rfl | decide), e_X0_init_35, e_X0_init_36 (n9 := 36) (s9 := 240) (by first | rfl | omega) (by first | rfl | omega) (by first | decide | omega)]
  rw [e_X0_init_39, e_X0_init_40, e_X0_init_41 (hE := c_X2_init (by decide) (by decide) (by rfl) (by decide))]
  try simp only [Nat.reduceAdd]
  rw [e_X0_init_44 ⟨(by first | decide | omega), (by first | decide | omega), (by first | decide | omega), (by first | rfl | (simp [va_up]; done) | (simp [va_up, *]; done) | (simp [va_up]; omega))⟩ (by first | rfl | decide) (by decide), e_X0_init_45 (by rfl), nI_add, e_X0_init_48, e_X0_init_25, e_X0_init_26, e_X0_init_28, if_neg (by decide), e_X0_init_31, e_X0_init_32 (j := 28) ⟨(by first | decide | omega), (by first | rfl | (simp [va_up]; done) | (simp [va_up, *]; done) | (simp [va_up]; omega))⟩ (by first | rfl | decide), e_X0_init_35, e_X0_init_36 (n9 := 42) (s9 := 270) (by first | rfl | omega) (by first | rfl | omega) (by first | decide | omega)]
  rw [e_X0_init_39, e_X0_init_40, e_X0_init_41 (hE := c_X2_init (by decide) (by decide) (by rfl) (by decide))]
  try simp only [Nat.reduceAdd]
  rw [e_X0_init_44 ⟨(by first | decide | omega), (by first | decide | omega), (by first | decide | omega), (by first | rfl | (simp [va_up]; done) | (simp [va_up, *]; done) | (simp [va_up]; omega))⟩ (by first | rfl | decide) (by decide), e_X0_init_45 (by rfl), nI_add, e_X0_init_48, e_X0_init_25, e_X0_init_26, e_X0_init_28, if_neg (by decide), e_X0_init_31, e_X0_init_32 (j := 28) ⟨(by first | decide | omega), (by first | rfl | (simp [va_up]; done) | (simp [va_up, *]; done) | (simp [va_up]; omega))⟩ (by first | rfl | decide), e_X0_init_35, e_X0_init_36 (n9 := 48) (s9 := 300) (by first | rfl | omega) (by first | rfl | omega) (by first | decide | omega)]
  rw [e_X0_init_39, e_X0_init_40, e_X0_init_41 (hE := c_X2_init (by decide) (by decide) (by rfl) (by decide))]
  try simp only [Nat.reduceAdd]
  rw [e_X0_init_44 ⟨(by first | decide | omega), (by first | decide | omega), (by first | decide | omega), (by first | rfl | (simp [va_up]; done) | (simp [va_up, *]; done) | (simp [va_up]; omega))⟩ (by first | rfl | decide) (by decide), e_X0_init_45 (by rfl), nI_add, e_X0_init_48, e_X0_init_25, e_X0_init_26, e_X0_init_28, if_neg (by decide), e_X0_init_31, e_X0_init_32 (j := 28) ⟨(by first | decide | omega), (by first | rfl | (simp [va_up]; done) | (simp [va_up, *]; done) | (simp [va_up]; omega))⟩ (by first | rfl | decide), e_X0_init_35, e_X0_init_36 (n9 := 54) (s9 := 330) (by first | rfl | omega) (by first | rfl | omega) (by first | decide | omega)]
  rw [e_X0_init_39, e_X0_init_40, e_X0_init_41 (hE := c_X2_init (by decide) (by decide) (by rfl) (by decide))]
  try simp only [Nat.reduceAdd]
  rw [e_X0_init_44 ⟨(by first | decide | omega), (by first | decide | omega), (by first | decide | omega), (by first | rfl | (simp [va_up]; done) | (simp [va_up, *]; done) | (simp [va_up]; omega))⟩ (by first | rfl | decide) (by decide), e_X0_init_45 (by rfl), nI_add, e_X0_init_48, e_X0_init_25, e_X0_init_26, e_X0_init_28, if_neg (by decide), e_X0_init_31, e_X0_init_32 (j := 28) ⟨(by first | decide | omega), (by first | rfl | (simp [va_up]; done) | (simp [va_up, *]; done) | (simp [va_up]; omega))⟩ (by first | rfl | decide), e_X0_init_35, e_X0_init_36 (n9 := 60) (s9 := 360) (by first | rfl | omega) (by first | rfl | omega) (by first | decide | omega)]
  rw [e_X0_init_39, e_X0_init_40, e_X0_init_41 (hE := c_X2_init (by decide) (by decide) (by rfl) (by decide))]
  try simp only [Nat.reduceAdd]
  rw [e_X0_init_44 ⟨(by first | decide | omega), (by first | decide | omega), (by first | decide | omega), (by first | rfl | (simp [va_up]; done) | (simp [va_up, *]; done) | (simp [va_up]; omega))⟩ (by first | rfl | decide) (by decide), e_X0_init_45 (by rfl), nI_add, e_X0_init_48, e_X0_init_25, e_X0_init_26, e_X0_init_28, if_neg (by decide), e_X0_init_31, e_X0_init_32 (j := 28) ⟨(by first | decide | omega), (by first | rfl | (simp [va_up]; done) | (simp [va_up, *]; done) | (simp [va_up]; omega))⟩ (by first | rfl | decide), e_X0_init_35, e_X0_init_36 (n9 := 66) (s9 := 390) (by first | rfl | omega) (by first | rfl | omega) (by first | decide | omega)]
  rw [e_X0_init_39, e_X0_init_40, e_X0_init_41 (hE := c_X2_init (by decide) (by decide) (by rfl) (by decide))]
  try simp only [Nat.reduceAdd]
  rw [e_X0_init_44 ⟨(by first | decide | omega), (by first | decide | omega), (by first | decide | omega), (by first | rfl | (simp [va_up]; done) | (simp [va_up, *]; done) | (simp [va_up]; omega))⟩ (by first | rfl | decide) (by decide), e_X0_init_45 (by rfl), nI_add, e_X0_init_48, e_X0_init_25, e_X0_init_26, e_X0_init_28, if_neg (by decide), e_X0_init_31, e_X0_init_32 (j := 28) ⟨(by first | decide | omega), (by first | rfl | (simp [va_up]; done) | (simp [va_up, *]; done) | (simp [va_up]; omega))⟩ (by first | rfl | decide), e_X0_init_35, e_X0_init_36 (n9 := 72) (s9 := 420) (by first | rfl | omega) (by first | rfl | omega) (by first | decide | omega)]
  rw [e_X0_init_39, e_X0_init_40, e_X0_init_41 (hE := c_X2_init (by decide) (by decide) (by rfl) (by decide))]
  try simp only [Nat.reduceAdd]
  rw [e_X0_init_44 ⟨(by first | decide | omega), (by first | decide | omega), (by first | decide | omega), (by first | rfl | (simp [va_up]; done) | (simp [va_up, *]; done) | (simp [va_up]; omega))⟩ (by first | rfl | decide) (by decide), e_X0_init_45 (by rfl), nI_add, e_X0_init_48, e_X0_init_25, e_X0_init_26, e_X0_init_28, if_neg (by decide), e_X0_init_31, e_X0_init_32 (j := 28) ⟨(by first | decide | omega), (by first | rfl | (simp [va_up]; done) | (simp [va_up, *]; done) | (simp [va_up]; omega))⟩ (by first | rfl | decide), e_X0_init_35, e_X0_init_36 (n9 := 78) (s9 := 450) (by first | rfl | omega) (by first | rfl | omega) (by first | decide | omega)]
  rw [e_X0_init_39, e_X0_init_40, e_X0_init_41 (hE := c_X2_init (by decide) (by decide) (by rfl) (by decide))]
  try simp only [Nat.reduceAdd]
  rw [e_X0_init_44 ⟨(by first | decide | omega), (by first | decide | omega), (by first | decide | omega), (by first | rfl | (simp [va_up]; done) | (simp [va_up, *]; done) | (simp [va_up]; omega))⟩ (by first | rfl | decide) (by decide), e_X0_init_45 (by rfl), nI_add, e_X0_init_48, e_X0_init_25, e_X0_init_26, e_X0_init_28, if_neg (by decide), e_X0_init_31, e_X0_init_32 (j := 28) ⟨(by first | decide | omega), (by first | rfl | (simp [va_up]; done) | (simp [va_up, *]; done) | (simp [va_up]; omega))⟩ (by first | rfl | decide), e_X0_init_35, e_X0_init_36 (n9 := 84) (s9 := 480) (by first | rfl | omega) (by first | rfl | omega) (by first | decide | omega)]
  rw [e_X0_init_39, e_X0_init_40, e_X0_init_41 (hE := c_X2_init (by decide) (by decide) (by rfl) (by decide))]
  try simp only [Nat.reduceAdd]
  rw [e_X0_init_44 ⟨(by first | decide | omega), (by first | decide | omega), (by first | decide | omega), (by first | rfl | (simp [va_up]; done) | (simp [va_up, *]; done) | (simp [va_up]; omega))⟩ (by first | rfl | decide) (by decide), e_X0_init_45 (by rfl), nI_add, e_X0_init_48, e_X0_init_25, e_X0_init_26, e_X0_init_28, if_neg (by decide), e_X0_init_31, e_X0_init_32 (j := 28) ⟨(by first | decide | omega), (by first | rfl | (simp [va_up]; done) | (simp [va_up, *]; done) | (simp [va_up]; omega))⟩ (by first | rfl | decide), e_X0_init_35, e_X0_init_36 (n9 := 90) (s9 := 510) (by first | rfl | omega) (by first | rfl | omega) (by first | decide | omega)]
  rw [e_X0_init_39, e_X0_init_40, e_X0_init_41 (hE := c_X2_init (by decide) (by decide) (by rfl) (by decide))]
  try simp only [Nat.reduceAdd]
  rw [e_X0_init_44 ⟨(by first | decide | omega), (by first | decide | omega), (by first | decide | omega), (by first | rfl | (simp [va_up]; done) | (simp [va_up, *]; done) | (simp [va_up]; omega))⟩ (by first | rfl | decide) (by decide), e_X0_init_45 (by rfl), nI_add, e_X0_init_48, e_X0_init_25, e_X0_init_26, e_X0_init_28, if_neg (by decide), e_X0_init_31, e_X0_init_32 (j := 28) ⟨(by first | decide | omega), (by first | rfl | (simp [va_up]; done) | (simp [va_up, *]; done) | (simp [va_up]; omega))⟩ (by first | rfl | decide), e_X0_init_35, e_X0_init_36 (n9 := 96) (s9 := 540) (by first | rfl | omega) (by first | rfl | omega) (by first | decide | omega)]
  rw [e_X0_init_39, e_X0_init_40, e_X0_init_41 (hE := c_X2_init (by decide) (by decide) (by rfl) (by decide))]
  try simp only [Nat.reduceAdd]
  rw [e_X0_init_44 ⟨(by first | decide | omega), (by first | decide | omega), (by first | decide | omega), (by first | rfl | (simp [va_up]; done) | (simp [va_up, *]; done) | (simp [va_up]; omega))⟩ (by first | rfl | decide) (by decide), e_X0_init_45 (by rfl), nI_add, e_X0_init_48, e_X0_init_25, e_X0_init_26, e_X0_init_28, if_neg (by decide), e_X0_init_31, e_X0_init_32 (j := 28) ⟨(by first | decide | omega), (by first | rfl | (simp [va_up]; done) | (simp [va_up, *]; done) | (simp [va_up]; omega))⟩ (by first | rfl | decide), e_X0_init_35, e_X0_init_36 (n9 := 102) (s9 := 570) (by first | rfl | omega) (by first | rfl | omega) (by first | decide | omega)]
  rw [e_X0_init_39, e_X0_init_40, e_X0_init_41 (hE := c_X2_init (by decide) (by decide) (by rfl) (by decide))]
  try simp only [Nat.reduceAdd]
  rw [e_X0_init_44 ⟨(by first | decide | omega), (by first | decide | omega), (by first | decide | omega), (by first | rfl | (simp [va_up]; done) | (simp [va_up, *]; done) | (simp [va_up]; omega))⟩ (by first | rfl | decide) (by decide), e_X0_init_45 (by rfl), nI_add, e_X0_init_48, e_X0_init_25, e_X0_init_26, e_X0_init_28, if_neg (by decide), e_X0_init_31, e_X0_init_32 (j := 28) ⟨(by first | decide | omega), (by first | rfl | (simp [va_up]; done) | (simp [va_up, *]; done) | (simp [va_up]; omega))⟩ (by first | rfl | decide), e_X0_init_35, e_X0_init_36 (n9 := 108) (s9 := 600) (by first | rfl | omega) (by first | rfl | omega) (by first | decide | omega)]
  rw [e_X0_init_39, e_X0_init_40, e_X0_init_41 (hE := c_X2_init (by decide) (by decide) (by rfl) (by decide))]
  try simp only [Nat.reduceAdd]
  rw [e_X0_init_44 ⟨(by first | decide | omega), (by first | decide | omega), (by first | decide | omega), (by first | rfl | (simp [va_up]; done) | (simp [va_up, *]; done) | (simp [va_up]; omega))⟩ (by first | rfl | decide) (by decide), e_X0_init_45 (by rfl), nI_add, e_X0_init_48, e_X0_init_25, e_X0_init_26, e_X0_init_28, if_pos (by decide), e_X0_init_51]
  rfl
set_option maxHeartbeats 4000000 in
set_option maxRecDepth 20000 in
theorem c_X7_init : Ev o (d + 3) zX7_init [.ref 0] (1, 12, cs_k, cs_rf, cs_m, cs_lg) none (133, 716, ce_k, ce_rf, ce_m, ce_lg) := by
  rw [ev_X7_init]
  rw [e_X7_init_0, e_X7_init_1, e_X7_init_4, e_X7_init_5 (n9 := 2) (s9 := 14) (by first | rfl | omega) (by first | rfl | omega) (by first | decide | omega), e_X7_init_8, e_X7_init_9 (hE := c_X5_init (by decide)  (by rfl) (by decide))]
  try simp only [Nat.reduceAdd]
  rw [e_X7_init_12 ⟨(by first | decide | omega), (by first | decide | omega), (by first | rfl | (simp [va_up]; done) | (simp [va_up, *]; done) | (simp [va_up]; omega))⟩, e_X7_init_15, e_X7_init_16 (n9 := 4) (s9 := 72) (by first | rfl | omega) (by first | rfl | omega) (by first | decide | omega), e_X7_init_19, e_X7_init_20 (hE := c_X6_init (by decide)  (by rfl) (by decide))]
  try simp only [Nat.reduceAdd]
  rw [e_X7_init_23 ⟨(by first | decide | omega), (by first | decide | omega), (by first | rfl | (simp [va_up]; done) | (simp [va_up, *]; done) | (simp [va_up]; omega))⟩, e_X7_init_26, e_X7_init_27 (n9 := 10) (s9 := 104) (by first | rfl | omega) (by first | rfl | omega) (by first | decide | omega), e_X7_init_30, e_X7_init_31 (hE := c_X6_init (by decide)  (by rfl) (by decide))]
  try simp only [Nat.reduceAdd]
  rw [e_X7_init_34 ⟨(by first | decide | omega), (by first | decide | omega), (by first | rfl | (simp [va_up]; done) | (simp [va_up, *]; done) | (simp [va_up]; omega))⟩, e_X7_init_37, e_X7_init_38 (n9 := 16) (s9 := 133) (by first | rfl | omega) (by first | rfl | omega) (by first | decide | omega), e_X7_init_41, e_X7_init_42, e_X7_init_43 (j := 3) ⟨(by first | decide | omega), (by first | rfl | (simp [va_up]; done) | (simp [va_up, *]; done) | (simp [va_up]; omega))⟩ (by first | rfl | decide), e_X7_init_46 (hE := c_X2_init (by decide) (by decide) (by rfl) (by decide))]
  try simp only [Nat.reduceAdd]
  rw [e_X7_init_49 ⟨(by first | decide | omega), (by first | decide | omega), (by first | rfl | (simp [va_up]; done) | (simp [va_up, *]; done) | (simp [va_up]; omega))⟩, e_X7_init_52, e_X7_init_53 (n9 := 22) (s9 := 163) (by first | rfl | omega) (by first | rfl | omega) (by first | decide | omega), e_X7_init_56, e_X7_init_57, e_X7_init_58 (j := 3) ⟨(by first | decide | omega), (by first | rfl | (simp [va_up]; done) | (simp [va_up, *]; done) | (simp [va_up]; omega))⟩ (by first | rfl | decide), e_X7_init_61 (hE := c_X2_init (by decide) (by decide) (by rfl) (by decide))]
  try simp only [Nat.reduceAdd]
  rw [e_X7_init_64 ⟨(by first | decide | omega), (by first | decide | omega), (by first | rfl | (simp [va_up]; done) | (simp [va_up, *]; done) | (simp [va_up]; omega))⟩, e_X7_init_67, e_X7_init_68 (n9 := 28) (s9 := 189) (by first | rfl | omega) (by first | rfl | omega) (by first | decide | omega), e_X7_init_71, e_X7_init_72, e_X7_init_73 (j := 3) ⟨(by first | decide | omega), (by first | rfl | (simp [va_up]; done) | (simp [va_up, *]; done) | (simp [va_up]; omega))⟩ (by first | rfl | decide)]
  change Rn _ _ _ _ _ _ (28, 189, ca_k, ca_rf, ca_m, ca_lg) _
  rw [e_X7_init_76 (hE := c_X0_init)]
  try simp only [Nat.reduceAdd]
  rw [e_X7_init_79 ⟨(by first | decide | omega), (by first | decide | omega), (by first | rfl | (simp [va_up]; done) | (simp [va_up, *]; done) | (simp [va_up]; omega))⟩, e_X7_init_82, e_X7_init_83 (n9 := 114) (s9 := 627) (by first | rfl | omega) (by first | rfl | omega) (by first | decide | omega), e_X7_init_86, e_X7_init_87 (hE := c_X4_init (by decide)  (by rfl) (by decide))]
  try simp only [Nat.reduceAdd]
  rw [e_X7_init_90 ⟨(by first | decide | omega), (by first | decide | omega), (by first | rfl | (simp [va_up]; done) | (simp [va_up, *]; done) | (simp [va_up]; omega))⟩, e_X7_init_93, e_X7_init_94 (n9 := 118) (s9 := 650) (by first | rfl | omega) (by first | rfl | omega) (by first | decide | omega), e_X7_init_97, e_X7_init_98, e_X7_init_99 (j := 3) ⟨(by first | decide | omega), (by first | rfl | (simp [va_up]; done) | (simp [va_up, *]; done) | (simp [va_up]; omega))⟩ (by first | rfl | decide), e_X7_init_102, e_X7_init_103 (j := 21) ⟨(by first | decide | omega), (by first | rfl | (simp [va_up]; done) | (simp [va_up, *]; done) | (simp [va_up]; omega))⟩ (by first | rfl | decide), e_X7_init_106 (hE := c_X3_init (by decide) (by decide) (by decide) (by rfl) (by decide))]
  try simp only [Nat.reduceAdd]
  rw [e_X7_init_109 ⟨(by first | decide | omega), (by first | decide | omega), (by first | rfl | (simp [va_up]; done) | (simp [va_up, *]; done) | (simp [va_up]; omega))⟩, e_X7_init_112, e_X7_init_113 (n9 := 119) (s9 := 652) (by first | rfl | omega) (by first | rfl | omega) (by first | decide | omega), e_X7_init_116, e_X7_init_117, e_X7_init_118 (j := 3) ⟨(by first | decide | omega), (by first | rfl | (simp [va_up]; done) | (simp [va_up, *]; done) | (simp [va_up]; omega))⟩ (by first | rfl | decide), e_X7_init_121, e_X7_init_122 (j := 21) ⟨(by first | decide | omega), (by first | rfl | (simp [va_up]; done) | (simp [va_up, *]; done) | (simp [va_up]; omega))⟩ (by first | rfl | decide), e_X7_init_125 (hE := c_X1_init (by decide) (by decide) (by decide) (by rfl) (by decide))]
  try simp only [Nat.reduceAdd]
  rw [e_X7_init_128 ⟨(by first | decide | omega), (by first | decide | omega), (by first | rfl | (simp [va_up]; done) | (simp [va_up, *]; done) | (simp [va_up]; omega))⟩, e_X7_init_131, e_X7_init_132, e_X7_init_133 (n9 := 120) (s9 := 654) (by first | rfl | omega) (by first | rfl | omega) (by decide) (by first | decide | omega), e_X7_init_136 ⟨(by first | decide | omega), (by first | decide | omega), (by first | rfl | (simp [va_up]; done) | (simp [va_up, *]; done) | (simp [va_up]; omega))⟩, e_X7_init_139, e_X7_init_140, e_X7_init_141 (n9 := 121) (s9 := 656) (by first | rfl | omega) (by first | rfl | omega) (by decide) (by first | decide | omega), e_X7_init_143 ⟨(by first | decide | omega), (by first | decide | omega), (by first | rfl | (simp [va_up]; done) | (simp [va_up, *]; done) | (simp [va_up]; omega))⟩, e_X7_init_146, e_X7_init_147, e_X7_init_148 ⟨(by first | decide | omega), (by first | rfl | (simp [va_up]; done) | (simp [va_up, *]; done) | (simp [va_up]; omega))⟩]
  rw [e_X7_init_151, e_X7_init_152 (by rfl), e_X7_init_153, e_X7_init_154, e_X7_init_155, if_neg (by decide), e_X7_init_158, e_X7_init_159 (j := 119) ⟨(by first | decide | omega), (by first | rfl | (simp [va_up]; done) | (simp [va_up, *]; done) | (simp [va_up]; omega))⟩ (by first | rfl | decide), e_X7_init_162, e_X7_init_163 (n9 := 122) (s9 := 663) (by first | rfl | omega) (by first | rfl | omega) (by first | decide | omega), e_X7_init_166, e_X7_init_167]
  rw [e_X7_init_168 (j := 3) ⟨(by first | decide | omega), (by first | rfl | (simp [va_up]; done) | (simp [va_up, *]; done) | (simp [va_up]; omega))⟩ (by first | rfl | decide), e_X7_init_171 (hE := c_X2_init (by decide) (by decide) (by rfl) (by decide))]
  try simp only [Nat.reduceAdd]
  rw [e_X7_init_174 ⟨(by first | decide | omega), (by first | decide | omega), (by first | decide | omega), (by first | rfl | (simp [va_up]; done) | (simp [va_up, *]; done) | (simp [va_up]; omega))⟩ (by first | rfl | decide) (by decide), e_X7_init_175 (by rfl), nI_add, e_X7_init_178, e_X7_init_153, e_X7_init_154, e_X7_init_155, if_neg (by decide), e_X7_init_158, e_X7_init_159 (j := 119) ⟨(by first | decide | omega), (by first | rfl | (simp [va_up]; done) | (simp [va_up, *]; done) | (simp [va_up]; omega))⟩ (by first | rfl | decide), e_X7_init_162, e_X7_init_163 (n9 := 128) (s9 := 693) (by first | rfl | omega) (by first | rfl | omega) (by first | decide | omega)]
  rw [e_X7_init_166, e_X7_init_167, e_X7_init_168 (j := 3) ⟨(by first | decide | omega), (by first | rfl | (simp [va_up]; done) | (simp [va_up, *]; done) | (simp [va_up]; omega))⟩ (by first | rfl | decide), e_X7_init_171 (hE := c_X2_init (by decide) (by decide) (by rfl) (by decide))]
  try simp only [Nat.reduceAdd]
  rw [e_X7_init_174 ⟨(by first | decide | omega), (by first | decide | omega), (by first | decide | omega), (by first | rfl | (simp [va_up]; done) | (simp [va_up, *]; done) | (simp [va_up]; omega))⟩ (by first | rfl | decide) (by decide), e_X7_init_175 (by rfl), nI_add, e_X7_init_178, e_X7_init_153, e_X7_init_154, e_X7_init_155, if_pos (by decide), e_X7_init_181]
  rfl
set_option maxHeartbeats 4000000 in
set_option maxRecDepth 20000 in
theorem c_X8_init : Ev o (d + 1) zX8_init [.ref 133] (134, 753, cm_k, cm_rf, cm_m, cm_lg) none (151, 1354, cz_k, cz_rf, cz_m, cz_lg) := by
  rw [ev_X8_init]
  rw [e_X8_init_0, e_X8_init_1, e_X8_init_4, e_X8_init_5, e_X8_init_7 (n9 := 135) (s9 := 801) (by first | rfl | omega) (by first | rfl | omega) (by decide) (by first | decide | omega), e_X8_init_9 ⟨(by first | decide | omega), (by first | decide | omega), (by first | rfl | (simp [va_up]; done) | (simp [va_up, *]; done) | (simp [va_up]; omega))⟩, e_X8_init_12, e_X8_init_13, e_X8_init_14 (n9 := 136) (s9 := 805) (by first | rfl | omega) (by first | rfl | omega) (by decide) (by first | decide | omega), e_X8_init_16 ⟨(by first | decide | omega), (by first | decide | omega), (by first | rfl | (simp [va_up]; done) | (simp [va_up, *]; done) | (simp [va_up]; omega))⟩, e_X8_init_19, e_X8_init_20]
  rw [e_X8_init_21 (n9 := 137) (s9 := 809) (by first | rfl | omega) (by first | rfl | omega) (by decide) (by first | decide | omega), e_X8_init_23 ⟨(by first | decide | omega), (by first | decide | omega), (by first | rfl | (simp [va_up]; done) | (simp [va_up, *]; done) | (simp [va_up]; omega))⟩, e_X8_init_26, e_X8_init_27, e_X8_init_28 (n9 := 138) (s9 := 814) (by first | rfl | omega) (by first | rfl | omega) (by decide) (by first | decide | omega), e_X8_init_30 ⟨(by first | decide | omega), (by first | decide | omega), (by first | rfl | (simp [va_up]; done) | (simp [va_up, *]; done) | (simp [va_up]; omega))⟩, e_X8_init_33, e_X8_init_34, e_X8_init_35 (n9 := 139) (s9 := 818) (by first | rfl | omega) (by first | rfl | omega) (by decide) (by first | decide | omega), e_X8_init_37 ⟨(by first | decide | omega), (by first | decide | omega), (by first | rfl | (simp [va_up]; done) | (simp [va_up, *]; done) | (simp [va_up]; omega))⟩, e_X8_init_40, e_X8_init_41]
  rw [e_X8_init_43 (n9 := 140) (s9 := 826) (by first | rfl | omega) (by first | rfl | omega) (by decide) (by first | decide | omega), e_X8_init_45 ⟨(by first | decide | omega), (by first | decide | omega), (by first | rfl | (simp [va_up]; done) | (simp [va_up, *]; done) | (simp [va_up]; omega))⟩, e_X8_init_48, e_X8_init_49, e_X8_init_51 (n9 := 141) (s9 := 836) (by first | rfl | omega) (by first | rfl | omega) (by decide) (by first | decide | omega), e_X8_init_53 ⟨(by first | decide | omega), (by first | decide | omega), (by first | rfl | (simp [va_up]; done) | (simp [va_up, *]; done) | (simp [va_up]; omega))⟩, e_X8_init_56, e_X8_init_57, e_X8_init_59 (n9 := 142) (s9 := 860) (by first | rfl | omega) (by first | rfl | omega) (by decide) (by first | decide | omega), e_X8_init_61 ⟨(by first | decide | omega), (by first | decide | omega), (by first | rfl | (simp [va_up]; done) | (simp [va_up, *]; done) | (simp [va_up]; omega))⟩, e_X8_init_64, e_X8_init_65]
  rw [e_X8_init_67 (n9 := 143) (s9 := 884) (by first | rfl | omega) (by first | rfl | omega) (by decide) (by first | decide | omega), e_X8_init_69 ⟨(by first | decide | omega), (by first | decide | omega), (by first | rfl | (simp [va_up]; done) | (simp [va_up, *]; done) | (simp [va_up]; omega))⟩, e_X8_init_72, e_X8_init_73, e_X8_init_76 (n9 := 144) (s9 := 1220) (by first | rfl | omega) (by first | rfl | omega) (by decide) (by first | decide | omega), e_X8_init_78 ⟨(by first | decide | omega), (by first | decide | omega), (by first | rfl | (simp [va_up]; done) | (simp [va_up, *]; done) | (simp [va_up]; omega))⟩, e_X8_init_81, e_X8_init_82, e_X8_init_84 (n9 := 145) (s9 := 1268) (by first | rfl | omega) (by first | rfl | omega) (by decide) (by first | decide | omega), e_X8_init_86 ⟨(by first | decide | omega), (by first | decide | omega), (by first | rfl | (simp [va_up]; done) | (simp [va_up, *]; done) | (simp [va_up]; omega))⟩, e_X8_init_89, e_X8_init_90]
  rw [e_X8_init_91 (n9 := 146) (s9 := 1270) (by first | rfl | omega) (by first | rfl | omega) (by decide) (by first | decide | omega), e_X8_init_93 ⟨(by first | decide | omega), (by first | decide | omega), (by first | rfl | (simp [va_up]; done) | (simp [va_up, *]; done) | (simp [va_up]; omega))⟩, e_X8_init_96, e_X8_init_97, e_X8_init_99 (n9 := 147) (s9 := 1276) (by first | rfl | omega) (by first | rfl | omega) (by decide) (by first | decide | omega), e_X8_init_101 ⟨(by first | decide | omega), (by first | decide | omega), (by first | rfl | (simp [va_up]; done) | (simp [va_up, *]; done) | (simp [va_up]; omega))⟩, e_X8_init_104, e_X8_init_105, e_X8_init_107 (n9 := 148) (s9 := 1282) (by first | rfl | omega) (by first | rfl | omega) (by decide) (by first | decide | omega), e_X8_init_109 ⟨(by first | decide | omega), (by first | decide | omega), (by first | rfl | (simp [va_up]; done) | (simp [va_up, *]; done) | (simp [va_up]; omega))⟩, e_X8_init_112, e_X8_init_113]
  rw [e_X8_init_115 (n9 := 149) (s9 := 1288) (by first | rfl | omega) (by first | rfl | omega) (by decide) (by first | decide | omega), e_X8_init_117 ⟨(by first | decide | omega), (by first | decide | omega), (by first | rfl | (simp [va_up]; done) | (simp [va_up, *]; done) | (simp [va_up]; omega))⟩, e_X8_init_120, e_X8_init_121, e_X8_init_123 (n9 := 150) (s9 := 1338) (by first | rfl | omega) (by first | rfl | omega) (by decide) (by first | decide | omega), e_X8_init_125 ⟨(by first | decide | omega), (by first | decide | omega), (by first | rfl | (simp [va_up]; done) | (simp [va_up, *]; done) | (simp [va_up]; omega))⟩, e_X8_init_128, e_X8_init_129, e_X8_init_131 (n9 := 151) (s9 := 1354) (by first | rfl | omega) (by first | rfl | omega) (by decide) (by first | decide | omega), e_X8_init_133 ⟨(by first | decide | omega), (by first | decide | omega), (by first | rfl | (simp [va_up]; done) | (simp [va_up, *]; done) | (simp [va_up]; omega))⟩, e_X8_init_136]
  rfl
end CTC
end
section
/-! the world behind the two constructors: which cell is what stays so -/
def ai_w (m : Nat → Nat → Int32) (lg : Nat → Nat → Int64) : ai_W := (151, 1354, cz_k, cz_rf, m, lg)
abbrev ai_rf : Nat → Nat → Option Nat := cz_rf
def ai_len (i : Nat) : Nat := (cz_k i).2
def ai_a0 (i : Nat) : Bool := decide (i < 151) && decide ((cz_k i).1 = 0)
def ai_a1 (i : Nat) : Bool := decide (i < 151) && decide ((cz_k i).1 = 1)
def ai_a2 (i : Nat) : Bool := decide (i < 151) && decide ((cz_k i).1 = 2)
/-- a Harbour: its arrays follow it -/
def ai_H (b : Nat) : Prop := (b < 151 ∧ (cz_k b).1 = 2 + 3) ∧ cz_rf b 0 = some 3 ∧ cz_rf b 1 = some (b + 1) ∧ cz_rf b 2 = some (b + 2) ∧ cz_rf b 3 = some (b + 3) ∧ cz_rf b 4 = some (b + 4) ∧ cz_rf b 5 = some (b + 5) ∧
  (ai_a0 (b + 1) = true ∧ ai_len (b + 1) = 5) ∧ (ai_a0 (b + 2) = true ∧ ai_len (b + 2) = 5) ∧ (ai_a0 (b + 3) = true ∧ ai_len (b + 3) = 5) ∧ (ai_a0 (b + 4) = true ∧ ai_len (b + 4) = 4) ∧ ai_a0 (b + 5) = true ∧ ai_len (b + 5) = 4
/-- a Told, likewise -/
def ai_T (b : Nat) : Prop := (b < 151 ∧ (cz_k b).1 = 6 + 3) ∧ cz_rf b 0 = some (b + 1) ∧ cz_rf b 1 = some (b + 2) ∧ cz_rf b 2 = some (b + 3) ∧ cz_rf b 3 = some (b + 4) ∧ cz_rf b 4 = some (b + 5) ∧
  (ai_a0 (b + 1) = true ∧ ai_len (b + 1) = 4) ∧ (ai_a0 (b + 2) = true ∧ ai_len (b + 2) = 4) ∧ (ai_a0 (b + 3) = true ∧ ai_len (b + 3) = 4) ∧ (ai_a0 (b + 4) = true ∧ ai_len (b + 4) = 5) ∧ ai_a0 (b + 5) = true ∧ ai_len (b + 5) = 5
section SHAPE
variable {b : Nat}
theorem ai_Hr0 (h : ai_H b) : cz_rf b 0 = some 3 := h.2.1
theorem ai_Hr1 (h : ai_H b) : cz_rf b 1 = some (b + 1) := h.2.2.1
theorem ai_Hr2 (h : ai_H b) : cz_rf b 2 = some (b + 2) := h.2.2.2.1
theorem ai_Hr3 (h : ai_H b) : cz_rf b 3 = some (b + 3) := h.2.2.2.2.1
theorem ai_Hr4 (h : ai_H b) : cz_rf b 4 = some (b + 4) := h.2.2.2.2.2.1
theorem ai_Hr5 (h : ai_H b) : cz_rf b 5 = some (b + 5) := h.2.2.2.2.2.2.1
theorem ai_Tr0 (h : ai_T b) : cz_rf b 0 = some (b + 1) := h.2.1
theorem ai_Tr1 (h : ai_T b) : cz_rf b 1 = some (b + 2) := h.2.2.1
theorem ai_Tr2 (h : ai_T b) : cz_rf b 2 = some (b + 3) := h.2.2.2.1
theorem ai_Tr3 (h : ai_T b) : cz_rf b 3 = some (b + 4) := h.2.2.2.2.1
theorem ai_Tr4 (h : ai_T b) : cz_rf b 4 = some (b + 5) := h.2.2.2.2.2.1
theorem hA1 (h : ai_H b) : ai_a0 (b + 1) = true := h.2.2.2.2.2.2.2.1.1
theorem hA2 (h : ai_H b) : ai_a0 (b + 2) = true := h.2.2.2.2.2.2.2.2.1.1
theorem hA3 (h : ai_H b) : ai_a0 (b + 3) = true := h.2.2.2.2.2.2.2.2.2.1.1
theorem hA4 (h : ai_H b) : ai_a0 (b + 4) = true := h.2.2.2.2.2.2.2.2.2.2.1.1
theorem hA5 (h : ai_H b) : ai_a0 (b + 5) = true := h.2.2.2.2.2.2.2.2.2.2.2.1
theorem hL1 (h : ai_H b) : ai_len (b + 1) = 5 := h.2.2.2.2.2.2.2.1.2
theorem hL2 (h : ai_H b) : ai_len (b + 2) = 5 := h.2.2.2.2.2.2.2.2.1.2
theorem hL3 (h : ai_H b) : ai_len (b + 3) = 5 := h.2.2.2.2.2.2.2.2.2.1.2
theorem hL4 (h : ai_H b) : ai_len (b + 4) = 4 := h.2.2.2.2.2.2.2.2.2.2.1.2
theorem hL5 (h : ai_H b) : ai_len (b + 5) = 4 := h.2.2.2.2.2.2.2.2.2.2.2.2
theorem tA1 (h : ai_T b) : ai_a0 (b + 1) = true := h.2.2.2.2.2.2.1.1
theorem tA2 (h : ai_T b) : ai_a0 (b + 2) = true := h.2.2.2.2.2.2.2.1.1
theorem tA3 (h : ai_T b) : ai_a0 (b + 3) = true := h.2.2.2.2.2.2.2.2.1.1
theorem tA4 (h : ai_T b) : ai_a0 (b + 4) = true := h.2.2.2.2.2.2.2.2.2.1.1
theorem tA5 (h : ai_T b) : ai_a0 (b + 5) = true := h.2.2.2.2.2.2.2.2.2.2.1
theorem tL1 (h : ai_T b) : ai_len (b + 1) = 4 := h.2.2.2.2.2.2.1.2
theorem tL2 (h : ai_T b) : ai_len (b + 2) = 4 := h.2.2.2.2.2.2.2.1.2
theorem tL3 (h : ai_T b) : ai_len (b + 3) = 4 := h.2.2.2.2.2.2.2.2.1.2
theorem tL4 (h : ai_T b) : ai_len (b + 4) = 5 := h.2.2.2.2.2.2.2.2.2.1.2
theorem tL5 (h : ai_T b) : ai_len (b + 5) = 5 := h.2.2.2.2.2.2.2.2.2.2.2
end SHAPE
theorem ai_H15 : ai_H 15 := by unfold ai_H; decide +kernel
theorem ai_H21 : ai_H 21 := by unfold ai_H; decide +kernel
theorem ai_H121 : ai_H 121 := by unfold ai_H; decide +kernel
theorem ai_H127 : ai_H 127 := by unfold ai_H; decide +kernel
theorem ai_Hact : ∀ i, i < 14 → ai_H (29 + 6 * i) := by unfold ai_H; decide +kernel
theorem ai_act : ∀ i, i < 14 → cz_rf 28 i = some (29 + 6 * i) := by decide +kernel
theorem ai_T3 : ai_T 3 := by unfold ai_T; decide +kernel
theorem ai_T9 : ai_T 9 := by unfold ai_T; decide +kernel
theorem ai_lens : ∀ i, i < 151 → (cz_k i).2 ≤ 1000 := by decide +kernel
theorem ai_lt_a0 {i : Nat} (h : ai_a0 i = true) : i < 151 ∧ (cz_k i).1 = 0 := by simpa [ai_a0] using h
theorem ai_lt_a1 {i : Nat} (h : ai_a1 i = true) : i < 151 ∧ (cz_k i).1 = 1 := by simpa [ai_a1] using h
theorem ai_lt_a2 {i : Nat} (h : ai_a2 i = true) : i < 151 ∧ (cz_k i).1 = 2 := by simpa [ai_a2] using h
section RF
variable {o : ai_S} {d : Nat} {z : ai_Mi} {pc : Nat} {L st : List Value} {r : Option Value × ai_W} {x y v : Int32} {i j k idx : Nat} {m : Nat → Nat → Int32} {lg : Nat → Nat → Int64}
theorem ai_ix {n j : Nat} (hj : j < n) (hn : n ≤ 1000) : ¬ (nI j < 0 ∨ n ≤ (nI j).toNatClampNeg) ∧ (nI j).toNatClampNeg = j := by
  have h2 := nI_clamp (n := j) (by omega)
  refine ⟨fun h => ?_, h2⟩
  rw [h2] at h
  exact h.elim (nI_pos (by omega)) (by omega)
theorem rf_ald0 (hd : decode z.2.1 pc = .ok (.iaload, 1)) (hk : ai_a0 i = true) (hj : j < ai_len i) : Rn o d z pc L (.int (nI j) :: .ref i :: st) (ai_w m lg) r = Rn o d z (pc + 1) L (.int (m i j) :: st) (ai_w m lg) r := rn_M hd (by
  obtain ⟨h1, h2⟩ := ai_lt_a0 hk
  obtain ⟨h3, h4⟩ := ai_ix hj (ai_lens i h1)
  unfold ai_len at h3
  rw [h4] at h3
  simp only [ai_M, ai_ald, ai_w, ai_keep, h1, h2, h3, h4, if_pos, not_false_eq_true, and_self])
theorem rf_ald1 (hd : decode z.2.1 pc = .ok (.baload, 1)) (hk : ai_a1 i = true) (hj : j < ai_len i) : Rn o d z pc L (.int (nI j) :: .ref i :: st) (ai_w m lg) r = Rn o d z (pc + 1) L (.int (m i j) :: st) (ai_w m lg) r := rn_M hd (by
  obtain ⟨h1, h2⟩ := ai_lt_a1 hk
  obtain ⟨h3, h4⟩ := ai_ix hj (ai_lens i h1)
  unfold ai_len at h3
  rw [h4] at h3
  simp only [ai_M, ai_ald, ai_w, ai_keep, h1, h2, h3, h4, if_pos, not_false_eq_true, and_self])
theorem rf_aldO (hd : decode z.2.1 pc = .ok (.iaload, 1)) (hk : k < 2) (hj : j < o.1 k) (hl : o.1 k ≤ 1000) : Rn o d z pc L (.int (nI j) :: .ref (ai_O + k) :: st) (ai_w m lg) r = Rn o d z (pc + 1) L (.int (o.2 k j) :: st) (ai_w m lg) r := rn_M hd (by
  obtain ⟨h3, h4⟩ := ai_ix hj hl
  rw [h4] at h3
  have e1 : ¬ (ai_O + k < 151) := by
    have : ai_O = 1000000000 := rfl
    omega
  have e2 : ai_O + k - ai_O = k := Nat.add_sub_cancel_left _ _
  have e3 : ai_O ≤ ai_O + k := Nat.le_add_right _ _
  have e4 : ai_O + k < ai_O + 2 := Nat.add_lt_add_left hk _
  simp only [ai_M, ai_ald, ai_w, ai_keep, e1, e2, e3, e4, h3, h4, if_pos, if_false, not_false_eq_true, and_self])
theorem rf_ast0 (hd : decode z.2.1 pc = .ok (.iastore, 1)) (hk : ai_a0 i = true) (hj : j < ai_len i) : Rn o d z pc L (.int x :: .int (nI j) :: .ref i :: st) (ai_w m lg) r = Rn o d z (pc + 1) L st (ai_w (ai_up m i j x) lg) r := rn_M hd (by
  obtain ⟨h1, h2⟩ := ai_lt_a0 hk
  obtain ⟨h3, h4⟩ := ai_ix hj (ai_lens i h1)
  unfold ai_len at h3
  rw [h4] at h3
  simp only [ai_M, ai_ast, ai_w, h1, h2, h3, h4, if_pos, not_false_eq_true, and_self])
theorem rf_ast1 (hd : decode z.2.1 pc = .ok (.bastore, 1)) (hk : ai_a1 i = true) (hj : j < ai_len i) : Rn o d z pc L (.int x :: .int (nI j) :: .ref i :: st) (ai_w m lg) r = Rn o d z (pc + 1) L st (ai_w (ai_up m i j (vp_nar .boolean x)) lg) r := rn_M hd (by
  obtain ⟨h1, h2⟩ := ai_lt_a1 hk
  obtain ⟨h3, h4⟩ := ai_ix hj (ai_lens i h1)
  unfold ai_len at h3
  rw [h4] at h3
  simp only [ai_M, ai_ast, ai_w, h1, h2, h3, h4, if_pos, not_false_eq_true, and_self])
theorem rf_aldR (hd : decode z.2.1 pc = .ok (.aaload, 1)) (hk : ai_a2 i = true) (hj : j < ai_len i) (hq : ai_rf i j = some k) : Rn o d z pc L (.int (nI j) :: .ref i :: st) (ai_w m lg) r = Rn o d z (pc + 1) L (.ref k :: st) (ai_w m lg) r := rn_M hd (by
  obtain ⟨h1, h2⟩ := ai_lt_a2 hk
  obtain ⟨h3, h4⟩ := ai_ix hj (ai_lens i h1)
  unfold ai_len at h3
  rw [h4] at h3
  simp only [ai_M, ai_aldR, ai_w, ai_keep, h1, h2, h3, h4, hq, if_pos, not_false_eq_true, and_self])
theorem rf_copy (hd : decode z.2.1 pc = .ok (.invokestatic idx, 3)) (hl : ai_mlk z.1.cls idx = some arraycopyName) (y1 : Cond.native arraycopyName ∈ ai_tb) (y2 : Cond.static arraycopyName ∈ ai_tb) (y3 : Cond.initialized "java/lang/System" ∈ ai_tb) (hi : ai_a0 i = true) (hj : ai_a0 j = true) (h1 : k ≤ ai_len i) (h2 : k ≤ ai_len j) : Rn o (d + 1) z pc L [.int (nI k), .int (nI 0), .ref j, .int (nI 0), .ref i] (ai_w m lg) r = Rn o (d + 1) z (pc + 3) L [] (ai_w (va_up m j (va_cpy (m i) (m j) 0 0 k)) lg) r := rn_M hd (by
  obtain ⟨a1, a2⟩ := ai_lt_a0 hi
  obtain ⟨b1, b2⟩ := ai_lt_a0 hj
  have l1 := ai_lens i a1
  have l2 := ai_lens j b1
  unfold ai_len at h1 h2
  have c1 := nI_clamp (n := k) (by omega)
  have c2 : (nI 0).toNatClampNeg = 0 := nI_clamp (by omega)
  have p1 : ¬ nI k < 0 := nI_pos (by omega)
  have p2 : ¬ nI 0 < 0 := nI_pos (by omega)
  simp only [ai_M, hl, y1, y2, y3, Nat.zero_lt_succ, and_self, if_pos, ai_cpy, ai_w, a1, b1, a2, b2, c1, c2, p1, p2, Nat.zero_add, h1, h2, not_false_eq_true, List.map_nil, List.sum_nil, Nat.zero_le])
end RF
end
