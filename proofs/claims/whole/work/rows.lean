section
-- ===== PART A: goes FIRST, ahead of the names: the tables' words, and 'selects' of the private methods out of them =====
/-- a private method of a class that the tables say can be made, by its rows of tables_1 -/
def lw_okq (q : MethodName × Nat) : Prop := (q.1.cls ≠ "java/lang/invoke/MethodHandle" ∧ q.1.cls ≠ "java/lang/invoke/VarHandle") ∧ Cond.instantiable q.1.cls q.2 ∈ tables_1 ∧ Cond.privateMethod q.1 ∈ tables_1 ∧ Cond.instanceMethod q.1 ∈ tables_1
theorem lw_p0 : lw_okq (⟨"DrumSlits", "stripAt", "(I)LDrumSlits$Strip;"⟩, 12) := ⟨⟨by decide +kernel, by decide +kernel⟩, List.mem_of_getElem? (i := 18) (by decide +kernel), List.mem_of_getElem? (i := 257) (by decide +kernel), List.mem_of_getElem? (i := 258) (by decide +kernel)⟩
theorem lw_p1 : lw_okq (⟨"DrumSlits$Strip", "parse", "()V"⟩, 6) := ⟨⟨by decide +kernel, by decide +kernel⟩, List.mem_of_getElem? (i := 26) (by decide +kernel), List.mem_of_getElem? (i := 268) (by decide +kernel), List.mem_of_getElem? (i := 269) (by decide +kernel)⟩
theorem lw_p2 : lw_okq (⟨"DrumSlits$Strip", "firstFault", "()I"⟩, 6) := ⟨⟨by decide +kernel, by decide +kernel⟩, List.mem_of_getElem? (i := 26) (by decide +kernel), List.mem_of_getElem? (i := 272) (by decide +kernel), List.mem_of_getElem? (i := 273) (by decide +kernel)⟩
theorem lw_p3 : lw_okq (⟨"DrumSlits$Strip", "behind", "(I)I"⟩, 6) := ⟨⟨by decide +kernel, by decide +kernel⟩, List.mem_of_getElem? (i := 26) (by decide +kernel), List.mem_of_getElem? (i := 327) (by decide +kernel), List.mem_of_getElem? (i := 328) (by decide +kernel)⟩
theorem lw_p4 : lw_okq (⟨"DrumSlits", "lookAt", "(I)LDrumSlits$Look;"⟩, 12) := ⟨⟨by decide +kernel, by decide +kernel⟩, List.mem_of_getElem? (i := 18) (by decide +kernel), List.mem_of_getElem? (i := 440) (by decide +kernel), List.mem_of_getElem? (i := 441) (by decide +kernel)⟩
theorem lw_p5 : lw_okq (⟨"DrumSlits", "sheetAt", "(I)LDrumSlits$Sheet;"⟩, 12) := ⟨⟨by decide +kernel, by decide +kernel⟩, List.mem_of_getElem? (i := 18) (by decide +kernel), List.mem_of_getElem? (i := 453) (by decide +kernel), List.mem_of_getElem? (i := 454) (by decide +kernel)⟩
theorem lw_p6 : lw_okq (⟨"DrumSlits", "finding", "(I)I"⟩, 12) := ⟨⟨by decide +kernel, by decide +kernel⟩, List.mem_of_getElem? (i := 18) (by decide +kernel), List.mem_of_getElem? (i := 457) (by decide +kernel), List.mem_of_getElem? (i := 458) (by decide +kernel)⟩
theorem lw_p7 : lw_okq (⟨"DrumSlits$Joining", "settle", "(I)V"⟩, 11) := ⟨⟨by decide +kernel, by decide +kernel⟩, List.mem_of_getElem? (i := 99) (by decide +kernel), List.mem_of_getElem? (i := 500) (by decide +kernel), List.mem_of_getElem? (i := 501) (by decide +kernel)⟩
theorem lw_p8 : lw_okq (⟨"DrumSlits$Joining", "weigh", "(III)V"⟩, 11) := ⟨⟨by decide +kernel, by decide +kernel⟩, List.mem_of_getElem? (i := 99) (by decide +kernel), List.mem_of_getElem? (i := 510) (by decide +kernel), List.mem_of_getElem? (i := 511) (by decide +kernel)⟩
theorem lw_p9 : lw_okq (⟨"DrumSlits$Joining", "joinRow", "()V"⟩, 11) := ⟨⟨by decide +kernel, by decide +kernel⟩, List.mem_of_getElem? (i := 99) (by decide +kernel), List.mem_of_getElem? (i := 514) (by decide +kernel), List.mem_of_getElem? (i := 515) (by decide +kernel)⟩
theorem lw_p10 : lw_okq (⟨"DrumSlits$Joining", "firstBest", "(II)I"⟩, 11) := ⟨⟨by decide +kernel, by decide +kernel⟩, List.mem_of_getElem? (i := 99) (by decide +kernel), List.mem_of_getElem? (i := 518) (by decide +kernel), List.mem_of_getElem? (i := 519) (by decide +kernel)⟩
theorem lw_p11 : lw_okq (⟨"DrumSlits$LooseRow", "settle", "(II)V"⟩, 5) := ⟨⟨by decide +kernel, by decide +kernel⟩, List.mem_of_getElem? (i := 140) (by decide +kernel), List.mem_of_getElem? (i := 578) (by decide +kernel), List.mem_of_getElem? (i := 579) (by decide +kernel)⟩
theorem lw_p12 : lw_okq (⟨"DrumSlits$LooseRow", "sumBy", "(III)I"⟩, 5) := ⟨⟨by decide +kernel, by decide +kernel⟩, List.mem_of_getElem? (i := 140) (by decide +kernel), List.mem_of_getElem? (i := 582) (by decide +kernel), List.mem_of_getElem? (i := 583) (by decide +kernel)⟩
theorem lw_p13 : lw_okq (⟨"DrumSlits$LooseRow", "layRow", "()V"⟩, 5) := ⟨⟨by decide +kernel, by decide +kernel⟩, List.mem_of_getElem? (i := 140) (by decide +kernel), List.mem_of_getElem? (i := 586) (by decide +kernel), List.mem_of_getElem? (i := 587) (by decide +kernel)⟩
theorem lw_p14 : lw_okq (⟨"DrumSlits$LooseRow", "firstBest", "(II)I"⟩, 5) := ⟨⟨by decide +kernel, by decide +kernel⟩, List.mem_of_getElem? (i := 140) (by decide +kernel), List.mem_of_getElem? (i := 590) (by decide +kernel), List.mem_of_getElem? (i := 591) (by decide +kernel)⟩
theorem lw_p15 : lw_okq (⟨"DrumSlits$Strip", "findNear", "(II)V"⟩, 6) := ⟨⟨by decide +kernel, by decide +kernel⟩, List.mem_of_getElem? (i := 26) (by decide +kernel), List.mem_of_getElem? (i := 641) (by decide +kernel), List.mem_of_getElem? (i := 642) (by decide +kernel)⟩
def lw_privs_1 : List (MethodName × Nat) := [(⟨"DrumSlits", "stripAt", "(I)LDrumSlits$Strip;"⟩, 12), (⟨"DrumSlits$Strip", "parse", "()V"⟩, 6), (⟨"DrumSlits$Strip", "firstFault", "()I"⟩, 6), (⟨"DrumSlits$Strip", "behind", "(I)I"⟩, 6), (⟨"DrumSlits", "lookAt", "(I)LDrumSlits$Look;"⟩, 12), (⟨"DrumSlits", "sheetAt", "(I)LDrumSlits$Sheet;"⟩, 12), (⟨"DrumSlits", "finding", "(I)I"⟩, 12), (⟨"DrumSlits$Joining", "settle", "(I)V"⟩, 11), (⟨"DrumSlits$Joining", "weigh", "(III)V"⟩, 11), (⟨"DrumSlits$Joining", "joinRow", "()V"⟩, 11), (⟨"DrumSlits$Joining", "firstBest", "(II)I"⟩, 11), (⟨"DrumSlits$LooseRow", "settle", "(II)V"⟩, 5), (⟨"DrumSlits$LooseRow", "sumBy", "(III)I"⟩, 5), (⟨"DrumSlits$LooseRow", "layRow", "()V"⟩, 5), (⟨"DrumSlits$LooseRow", "firstBest", "(II)I"⟩, 5), (⟨"DrumSlits$Strip", "findNear", "(II)V"⟩, 6)]
theorem lw_r1 : ∀ q ∈ lw_privs_1, lw_okq q := List.forall_mem_cons.mpr ⟨lw_p0, List.forall_mem_cons.mpr ⟨lw_p1, List.forall_mem_cons.mpr ⟨lw_p2, List.forall_mem_cons.mpr ⟨lw_p3, List.forall_mem_cons.mpr ⟨lw_p4, List.forall_mem_cons.mpr ⟨lw_p5, List.forall_mem_cons.mpr ⟨lw_p6, List.forall_mem_cons.mpr ⟨lw_p7, List.forall_mem_cons.mpr ⟨lw_p8, List.forall_mem_cons.mpr ⟨lw_p9, List.forall_mem_cons.mpr ⟨lw_p10, List.forall_mem_cons.mpr ⟨lw_p11, List.forall_mem_cons.mpr ⟨lw_p12, List.forall_mem_cons.mpr ⟨lw_p13, List.forall_mem_cons.mpr ⟨lw_p14, List.forall_mem_cons.mpr ⟨lw_p15, fun _ h => absurd h List.not_mem_nil⟩⟩⟩⟩⟩⟩⟩⟩⟩⟩⟩⟩⟩⟩⟩⟩
theorem lw_p16 : lw_okq (⟨"DrumSlits$Strip", "reaches", "(I)Z"⟩, 6) := ⟨⟨by decide +kernel, by decide +kernel⟩, List.mem_of_getElem? (i := 26) (by decide +kernel), List.mem_of_getElem? (i := 646) (by decide +kernel), List.mem_of_getElem? (i := 647) (by decide +kernel)⟩
theorem lw_p17 : lw_okq (⟨"DrumSlits$Blade", "unbend", "(LDrumSlits$Sheet;I)V"⟩, 4) := ⟨⟨by decide +kernel, by decide +kernel⟩, List.mem_of_getElem? (i := 194) (by decide +kernel), List.mem_of_getElem? (i := 684) (by decide +kernel), List.mem_of_getElem? (i := 685) (by decide +kernel)⟩
theorem lw_p18 : lw_okq (⟨"DrumSlits$Blade", "weighStarts", "(II)V"⟩, 4) := ⟨⟨by decide +kernel, by decide +kernel⟩, List.mem_of_getElem? (i := 194) (by decide +kernel), List.mem_of_getElem? (i := 693) (by decide +kernel), List.mem_of_getElem? (i := 694) (by decide +kernel)⟩
theorem lw_p19 : lw_okq (⟨"DrumSlits$Blade", "rowsAhead", "()I"⟩, 4) := ⟨⟨by decide +kernel, by decide +kernel⟩, List.mem_of_getElem? (i := 194) (by decide +kernel), List.mem_of_getElem? (i := 697) (by decide +kernel), List.mem_of_getElem? (i := 698) (by decide +kernel)⟩
theorem lw_p20 : lw_okq (⟨"DrumSlits$Blade", "sumFromZero", "()I"⟩, 4) := ⟨⟨by decide +kernel, by decide +kernel⟩, List.mem_of_getElem? (i := 194) (by decide +kernel), List.mem_of_getElem? (i := 701) (by decide +kernel), List.mem_of_getElem? (i := 702) (by decide +kernel)⟩
theorem lw_p21 : lw_okq (⟨"DrumSlits", "mixedStrip", "(JI)J"⟩, 12) := ⟨⟨by decide +kernel, by decide +kernel⟩, List.mem_of_getElem? (i := 18) (by decide +kernel), List.mem_of_getElem? (i := 769) (by decide +kernel), List.mem_of_getElem? (i := 770) (by decide +kernel)⟩
theorem lw_p22 : lw_okq (⟨"DrumSlits", "mixedLook", "(JI)J"⟩, 12) := ⟨⟨by decide +kernel, by decide +kernel⟩, List.mem_of_getElem? (i := 18) (by decide +kernel), List.mem_of_getElem? (i := 782) (by decide +kernel), List.mem_of_getElem? (i := 783) (by decide +kernel)⟩
theorem lw_p23 : lw_okq (⟨"DrumSlitsModel", "faultNow", "(I)I"⟩, 24) := ⟨⟨by decide +kernel, by decide +kernel⟩, List.mem_of_getElem? (i := 789) (by decide +kernel), List.mem_of_getElem? (i := 887) (by decide +kernel), List.mem_of_getElem? (i := 888) (by decide +kernel)⟩
theorem lw_p24 : lw_okq (⟨"DrumSlitsModel", "byteAt", "(II)I"⟩, 24) := ⟨⟨by decide +kernel, by decide +kernel⟩, List.mem_of_getElem? (i := 789) (by decide +kernel), List.mem_of_getElem? (i := 891) (by decide +kernel), List.mem_of_getElem? (i := 892) (by decide +kernel)⟩
theorem lw_p25 : lw_okq (⟨"DrumSlitsModel", "pictures", "(I)I"⟩, 24) := ⟨⟨by decide +kernel, by decide +kernel⟩, List.mem_of_getElem? (i := 789) (by decide +kernel), List.mem_of_getElem? (i := 899) (by decide +kernel), List.mem_of_getElem? (i := 900) (by decide +kernel)⟩
theorem lw_p26 : lw_okq (⟨"DrumSlitsModel", "stepOf", "(III)I"⟩, 24) := ⟨⟨by decide +kernel, by decide +kernel⟩, List.mem_of_getElem? (i := 789) (by decide +kernel), List.mem_of_getElem? (i := 907) (by decide +kernel), List.mem_of_getElem? (i := 908) (by decide +kernel)⟩
theorem lw_p27 : lw_okq (⟨"DrumSlitsModel", "stepBy", "(II)I"⟩, 24) := ⟨⟨by decide +kernel, by decide +kernel⟩, List.mem_of_getElem? (i := 789) (by decide +kernel), List.mem_of_getElem? (i := 911) (by decide +kernel), List.mem_of_getElem? (i := 912) (by decide +kernel)⟩
theorem lw_p28 : lw_okq (⟨"DrumSlitsModel", "wholeNow", "(I)I"⟩, 24) := ⟨⟨by decide +kernel, by decide +kernel⟩, List.mem_of_getElem? (i := 789) (by decide +kernel), List.mem_of_getElem? (i := 922) (by decide +kernel), List.mem_of_getElem? (i := 923) (by decide +kernel)⟩
theorem lw_p29 : lw_okq (⟨"DrumSlitsModel", "seenNow", "(III)I"⟩, 24) := ⟨⟨by decide +kernel, by decide +kernel⟩, List.mem_of_getElem? (i := 789) (by decide +kernel), List.mem_of_getElem? (i := 961) (by decide +kernel), List.mem_of_getElem? (i := 962) (by decide +kernel)⟩
theorem lw_p30 : lw_okq (⟨"DrumSlitsModel", "dotMore", "(III)I"⟩, 24) := ⟨⟨by decide +kernel, by decide +kernel⟩, List.mem_of_getElem? (i := 789) (by decide +kernel), List.mem_of_getElem? (i := 994) (by decide +kernel), List.mem_of_getElem? (i := 995) (by decide +kernel)⟩
theorem lw_p31 : lw_okq (⟨"DrumSlitsModel", "meets", "(I)I"⟩, 24) := ⟨⟨by decide +kernel, by decide +kernel⟩, List.mem_of_getElem? (i := 789) (by decide +kernel), List.mem_of_getElem? (i := 1005) (by decide +kernel), List.mem_of_getElem? (i := 1006) (by decide +kernel)⟩
def lw_privs_2 : List (MethodName × Nat) := [(⟨"DrumSlits$Strip", "reaches", "(I)Z"⟩, 6), (⟨"DrumSlits$Blade", "unbend", "(LDrumSlits$Sheet;I)V"⟩, 4), (⟨"DrumSlits$Blade", "weighStarts", "(II)V"⟩, 4), (⟨"DrumSlits$Blade", "rowsAhead", "()I"⟩, 4), (⟨"DrumSlits$Blade", "sumFromZero", "()I"⟩, 4), (⟨"DrumSlits", "mixedStrip", "(JI)J"⟩, 12), (⟨"DrumSlits", "mixedLook", "(JI)J"⟩, 12), (⟨"DrumSlitsModel", "faultNow", "(I)I"⟩, 24), (⟨"DrumSlitsModel", "byteAt", "(II)I"⟩, 24), (⟨"DrumSlitsModel", "pictures", "(I)I"⟩, 24), (⟨"DrumSlitsModel", "stepOf", "(III)I"⟩, 24), (⟨"DrumSlitsModel", "stepBy", "(II)I"⟩, 24), (⟨"DrumSlitsModel", "wholeNow", "(I)I"⟩, 24), (⟨"DrumSlitsModel", "seenNow", "(III)I"⟩, 24), (⟨"DrumSlitsModel", "dotMore", "(III)I"⟩, 24), (⟨"DrumSlitsModel", "meets", "(I)I"⟩, 24)]
theorem lw_r2 : ∀ q ∈ lw_privs_2, lw_okq q := List.forall_mem_cons.mpr ⟨lw_p16, List.forall_mem_cons.mpr ⟨lw_p17, List.forall_mem_cons.mpr ⟨lw_p18, List.forall_mem_cons.mpr ⟨lw_p19, List.forall_mem_cons.mpr ⟨lw_p20, List.forall_mem_cons.mpr ⟨lw_p21, List.forall_mem_cons.mpr ⟨lw_p22, List.forall_mem_cons.mpr ⟨lw_p23, List.forall_mem_cons.mpr ⟨lw_p24, List.forall_mem_cons.mpr ⟨lw_p25, List.forall_mem_cons.mpr ⟨lw_p26, List.forall_mem_cons.mpr ⟨lw_p27, List.forall_mem_cons.mpr ⟨lw_p28, List.forall_mem_cons.mpr ⟨lw_p29, List.forall_mem_cons.mpr ⟨lw_p30, List.forall_mem_cons.mpr ⟨lw_p31, fun _ h => absurd h List.not_mem_nil⟩⟩⟩⟩⟩⟩⟩⟩⟩⟩⟩⟩⟩⟩⟩⟩
theorem lw_p32 : lw_okq (⟨"DrumSlitsModel", "joinNow", "(I)I"⟩, 24) := ⟨⟨by decide +kernel, by decide +kernel⟩, List.mem_of_getElem? (i := 789) (by decide +kernel), List.mem_of_getElem? (i := 1017) (by decide +kernel), List.mem_of_getElem? (i := 1018) (by decide +kernel)⟩
theorem lw_p33 : lw_okq (⟨"DrumSlitsModel", "joins", "()V"⟩, 24) := ⟨⟨by decide +kernel, by decide +kernel⟩, List.mem_of_getElem? (i := 789) (by decide +kernel), List.mem_of_getElem? (i := 1021) (by decide +kernel), List.mem_of_getElem? (i := 1022) (by decide +kernel)⟩
theorem lw_p34 : lw_okq (⟨"DrumSlitsModel", "netNow", "()I"⟩, 24) := ⟨⟨by decide +kernel, by decide +kernel⟩, List.mem_of_getElem? (i := 789) (by decide +kernel), List.mem_of_getElem? (i := 1036) (by decide +kernel), List.mem_of_getElem? (i := 1037) (by decide +kernel)⟩
theorem lw_p35 : lw_okq (⟨"DrumSlitsModel", "joinedNow", "(II)I"⟩, 24) := ⟨⟨by decide +kernel, by decide +kernel⟩, List.mem_of_getElem? (i := 789) (by decide +kernel), List.mem_of_getElem? (i := 1044) (by decide +kernel), List.mem_of_getElem? (i := 1045) (by decide +kernel)⟩
theorem lw_p36 : lw_okq (⟨"DrumSlitsModel", "puts", "(I)I"⟩, 24) := ⟨⟨by decide +kernel, by decide +kernel⟩, List.mem_of_getElem? (i := 789) (by decide +kernel), List.mem_of_getElem? (i := 1067) (by decide +kernel), List.mem_of_getElem? (i := 1068) (by decide +kernel)⟩
theorem lw_p37 : lw_okq (⟨"DrumSlitsModel", "turns", "(I)Z"⟩, 24) := ⟨⟨by decide +kernel, by decide +kernel⟩, List.mem_of_getElem? (i := 789) (by decide +kernel), List.mem_of_getElem? (i := 1071) (by decide +kernel), List.mem_of_getElem? (i := 1072) (by decide +kernel)⟩
theorem lw_p38 : lw_okq (⟨"DrumSlitsModel", "ordersNow", "(I)I"⟩, 24) := ⟨⟨by decide +kernel, by decide +kernel⟩, List.mem_of_getElem? (i := 789) (by decide +kernel), List.mem_of_getElem? (i := 1079) (by decide +kernel), List.mem_of_getElem? (i := 1080) (by decide +kernel)⟩
theorem lw_p39 : lw_okq (⟨"DrumSlitsModel", "missingNow", "(II)I"⟩, 24) := ⟨⟨by decide +kernel, by decide +kernel⟩, List.mem_of_getElem? (i := 789) (by decide +kernel), List.mem_of_getElem? (i := 1087) (by decide +kernel), List.mem_of_getElem? (i := 1088) (by decide +kernel)⟩
theorem lw_p40 : lw_okq (⟨"DrumSlitsModel", "halves", "(II)V"⟩, 24) := ⟨⟨by decide +kernel, by decide +kernel⟩, List.mem_of_getElem? (i := 789) (by decide +kernel), List.mem_of_getElem? (i := 1091) (by decide +kernel), List.mem_of_getElem? (i := 1092) (by decide +kernel)⟩
theorem lw_p41 : lw_okq (⟨"DrumSlitsModel", "fewNow", "(II)I"⟩, 24) := ⟨⟨by decide +kernel, by decide +kernel⟩, List.mem_of_getElem? (i := 789) (by decide +kernel), List.mem_of_getElem? (i := 1103) (by decide +kernel), List.mem_of_getElem? (i := 1104) (by decide +kernel)⟩
theorem lw_p42 : lw_okq (⟨"DrumSlitsModel", "wrongOf", "(II)I"⟩, 24) := ⟨⟨by decide +kernel, by decide +kernel⟩, List.mem_of_getElem? (i := 789) (by decide +kernel), List.mem_of_getElem? (i := 1118) (by decide +kernel), List.mem_of_getElem? (i := 1119) (by decide +kernel)⟩
theorem lw_p43 : lw_okq (⟨"DrumSlitsModel", "lineNow", "(I)I"⟩, 24) := ⟨⟨by decide +kernel, by decide +kernel⟩, List.mem_of_getElem? (i := 789) (by decide +kernel), List.mem_of_getElem? (i := 1126) (by decide +kernel), List.mem_of_getElem? (i := 1127) (by decide +kernel)⟩
theorem lw_p44 : lw_okq (⟨"DrumSlitsModel", "lacks", "(III)I"⟩, 24) := ⟨⟨by decide +kernel, by decide +kernel⟩, List.mem_of_getElem? (i := 789) (by decide +kernel), List.mem_of_getElem? (i := 1146) (by decide +kernel), List.mem_of_getElem? (i := 1147) (by decide +kernel)⟩
theorem lw_p45 : lw_okq (⟨"DrumSlitsModel", "keep", "(III)V"⟩, 24) := ⟨⟨by decide +kernel, by decide +kernel⟩, List.mem_of_getElem? (i := 789) (by decide +kernel), List.mem_of_getElem? (i := 1150) (by decide +kernel), List.mem_of_getElem? (i := 1151) (by decide +kernel)⟩
def lw_privs_3 : List (MethodName × Nat) := [(⟨"DrumSlitsModel", "joinNow", "(I)I"⟩, 24), (⟨"DrumSlitsModel", "joins", "()V"⟩, 24), (⟨"DrumSlitsModel", "netNow", "()I"⟩, 24), (⟨"DrumSlitsModel", "joinedNow", "(II)I"⟩, 24), (⟨"DrumSlitsModel", "puts", "(I)I"⟩, 24), (⟨"DrumSlitsModel", "turns", "(I)Z"⟩, 24), (⟨"DrumSlitsModel", "ordersNow", "(I)I"⟩, 24), (⟨"DrumSlitsModel", "missingNow", "(II)I"⟩, 24), (⟨"DrumSlitsModel", "halves", "(II)V"⟩, 24), (⟨"DrumSlitsModel", "fewNow", "(II)I"⟩, 24), (⟨"DrumSlitsModel", "wrongOf", "(II)I"⟩, 24), (⟨"DrumSlitsModel", "lineNow", "(I)I"⟩, 24), (⟨"DrumSlitsModel", "lacks", "(III)I"⟩, 24), (⟨"DrumSlitsModel", "keep", "(III)V"⟩, 24)]
theorem lw_r3 : ∀ q ∈ lw_privs_3, lw_okq q := List.forall_mem_cons.mpr ⟨lw_p32, List.forall_mem_cons.mpr ⟨lw_p33, List.forall_mem_cons.mpr ⟨lw_p34, List.forall_mem_cons.mpr ⟨lw_p35, List.forall_mem_cons.mpr ⟨lw_p36, List.forall_mem_cons.mpr ⟨lw_p37, List.forall_mem_cons.mpr ⟨lw_p38, List.forall_mem_cons.mpr ⟨lw_p39, List.forall_mem_cons.mpr ⟨lw_p40, List.forall_mem_cons.mpr ⟨lw_p41, List.forall_mem_cons.mpr ⟨lw_p42, List.forall_mem_cons.mpr ⟨lw_p43, List.forall_mem_cons.mpr ⟨lw_p44, List.forall_mem_cons.mpr ⟨lw_p45, fun _ h => absurd h List.not_mem_nil⟩⟩⟩⟩⟩⟩⟩⟩⟩⟩⟩⟩⟩⟩
def lw_privs : List (MethodName × Nat) := lw_privs_1 ++ (lw_privs_2 ++ (lw_privs_3))
def lw_tbl : List Cond := k2_sels lw_privs ++ tables_1
theorem lw_privs_ok : ∀ q ∈ lw_privs, lw_okq q := by
  show ∀ q ∈ lw_privs_1 ++ (lw_privs_2 ++ (lw_privs_3)), lw_okq q
  exact List.forall_mem_append.mpr ⟨lw_r1, List.forall_mem_append.mpr ⟨lw_r2, lw_r3⟩⟩
end
section
def RX0 : String := "DrumSlits$Blade"
def TX0 : u_T := fun k => match k with
  | 0 => ("DrumSlits$Blade", "rowsAt", "[I", true)
  | 1 => ("DrumSlits$Blade", "bestPace", "I", false)
  | 2 => ("DrumSlits$Blade", "bestStart", "I", false)
  | _ => ("DrumSlits$Blade", "leastSum", "I", false)
def tyX0 : Nat → FieldType := fun k => match k with
  | 0 => .array .int
  | 1 => .int
  | 2 => .int
  | _ => .int
abbrev wsX00 : List Cond := u_ws RX0 TX0 4
theorem nmX0 : ∀ a, a < 4 → ∀ b, b < 4 → a ≠ b → (TX0 a).2.1 ≠ (TX0 b).2.1 := by decide +kernel
theorem tyX0_ok : ∀ k, k < 4 → parseFieldDescriptor (TX0 k).2.2.1 = some (tyX0 k) := by decide +kernel
abbrev cX0_init : ByteArray := prog_2_method_1_code
def yX0_init : MethodName := ⟨RX0, "<init>", "()V"⟩
abbrev cX0_search : ByteArray := prog_2_method_2_code
def yX0_search : MethodName := ⟨RX0, "search", "(LDrumSlits$Sheet;)V"⟩
abbrev cX0_unbend : ByteArray := prog_2_method_3_code
def yX0_unbend : MethodName := ⟨RX0, "unbend", "(LDrumSlits$Sheet;I)V"⟩
abbrev cX0_weighStarts : ByteArray := prog_2_method_4_code
def yX0_weighStarts : MethodName := ⟨RX0, "weighStarts", "(II)V"⟩
abbrev cX0_rowsAhead : ByteArray := prog_2_method_5_code
def yX0_rowsAhead : MethodName := ⟨RX0, "rowsAhead", "()I"⟩
abbrev cX0_sumFromZero : ByteArray := prog_2_method_6_code
def yX0_sumFromZero : MethodName := ⟨RX0, "sumFromZero", "()I"⟩
def RX1 : String := "DrumSlits$Drum"
def TX1 : u_T := fun k => match k with
  | _ => ("", "", "", false)
def tyX1 : Nat → FieldType := fun k => match k with
  | _ => .int
abbrev wsX10 : List Cond := u_ws RX1 TX1 0
theorem nmX1 : ∀ a, a < 0 → ∀ b, b < 0 → a ≠ b → (TX1 a).2.1 ≠ (TX1 b).2.1 := by decide +kernel
theorem tyX1_ok : ∀ k, k < 0 → parseFieldDescriptor (TX1 k).2.2.1 = some (tyX1 k) := by decide +kernel
abbrev cX1_stands : ByteArray := prog_3_method_2_code
def yX1_stands : MethodName := ⟨RX1, "stands", "(II)Z"⟩
abbrev cX1_advanceOf : ByteArray := prog_3_method_3_code
def yX1_advanceOf : MethodName := ⟨RX1, "advanceOf", "(II)I"⟩
abbrev cX1_driftAbove : ByteArray := prog_3_method_4_code
def yX1_driftAbove : MethodName := ⟨RX1, "driftAbove", "(II)I"⟩
abbrev cX1_seemingOf : ByteArray := prog_3_method_5_code
def yX1_seemingOf : MethodName := ⟨RX1, "seemingOf", "(II)I"⟩
abbrev cX1_pictureAt : ByteArray := prog_3_method_6_code
def yX1_pictureAt : MethodName := ⟨RX1, "pictureAt", "(III)I"⟩
abbrev cX1_looksRound : ByteArray := prog_3_method_7_code
def yX1_looksRound : MethodName := ⟨RX1, "looksRound", "(II)I"⟩
abbrev cX1_pairs : ByteArray := prog_3_method_8_code
def yX1_pairs : MethodName := ⟨RX1, "pairs", "(III)I"⟩
def RX2 : String := "DrumSlits$Fraction"
def TX2 : u_T := fun k => match k with
  | _ => ("", "", "", false)
def tyX2 : Nat → FieldType := fun k => match k with
  | _ => .int
abbrev wsX20 : List Cond := u_ws RX2 TX2 0
theorem nmX2 : ∀ a, a < 0 → ∀ b, b < 0 → a ≠ b → (TX2 a).2.1 ≠ (TX2 b).2.1 := by decide +kernel
theorem tyX2_ok : ∀ k, k < 0 → parseFieldDescriptor (TX2 k).2.2.1 = some (tyX2 k) := by decide +kernel
abbrev cX2_told : ByteArray := prog_4_method_2_code
def yX2_told : MethodName := ⟨RX2, "told", "(III)I"⟩
abbrev cX2_commonDivisor : ByteArray := prog_4_method_3_code
def yX2_commonDivisor : MethodName := ⟨RX2, "commonDivisor", "(II)I"⟩
abbrev cX2_nearest : ByteArray := prog_4_method_4_code
def yX2_nearest : MethodName := ⟨RX2, "nearest", "(II)I"⟩
def RX3 : String := "DrumSlits$Joining"
def TX3 : u_T := fun k => match k with
  | 0 => ("DrumSlits$Joining", "ways", "[I", true)
  | 1 => ("DrumSlits$Joining", "costs", "[I", true)
  | 2 => ("DrumSlits$Joining", "least", "[I", true)
  | 3 => ("DrumSlits$Joining", "rows", "[I", true)
  | 4 => ("DrumSlits$Joining", "lowNet", "[I", true)
  | 5 => ("DrumSlits$Joining", "highNet", "[I", true)
  | 6 => ("DrumSlits$Joining", "partners", "[I", true)
  | 7 => ("DrumSlits$Joining", "fewer", "LDrumSlits$Look;", false)
  | 8 => ("DrumSlits$Joining", "fewDots", "I", false)
  | 9 => ("DrumSlits$Joining", "manyDots", "I", false)
  | _ => ("DrumSlits$Joining", "netOfRow", "I", false)
def tyX3 : Nat → FieldType := fun k => match k with
  | 0 => .array .int
  | 1 => .array .int
  | 2 => .array .int
  | 3 => .array .int
  | 4 => .array .int
  | 5 => .array .int
  | 6 => .array .int
  | 7 => .object "DrumSlits$Look"
  | 8 => .int
  | 9 => .int
  | _ => .int
abbrev wsX30 : List Cond := u_ws RX3 TX3 11
theorem nmX3 : ∀ a, a < 11 → ∀ b, b < 11 → a ≠ b → (TX3 a).2.1 ≠ (TX3 b).2.1 := by decide +kernel
theorem tyX3_ok : ∀ k, k < 11 → parseFieldDescriptor (TX3 k).2.2.1 = some (tyX3 k) := by decide +kernel
abbrev cX3_init : ByteArray := prog_5_method_1_code
def yX3_init : MethodName := ⟨RX3, "<init>", "()V"⟩
abbrev cX3_search : ByteArray := prog_5_method_2_code
def yX3_search : MethodName := ⟨RX3, "search", "(LDrumSlits$Look;LDrumSlits$Look;I)V"⟩
abbrev cX3_settle : ByteArray := prog_5_method_3_code
def yX3_settle : MethodName := ⟨RX3, "settle", "(I)V"⟩
abbrev cX3_weigh : ByteArray := prog_5_method_4_code
def yX3_weigh : MethodName := ⟨RX3, "weigh", "(III)V"⟩
abbrev cX3_joinRow : ByteArray := prog_5_method_5_code
def yX3_joinRow : MethodName := ⟨RX3, "joinRow", "()V"⟩
abbrev cX3_firstBest : ByteArray := prog_5_method_6_code
def yX3_firstBest : MethodName := ⟨RX3, "firstBest", "(II)I"⟩
abbrev cX3_sum : ByteArray := prog_5_method_7_code
def yX3_sum : MethodName := ⟨RX3, "sum", "()I"⟩
abbrev cX3_howMany : ByteArray := prog_5_method_8_code
def yX3_howMany : MethodName := ⟨RX3, "howMany", "()I"⟩
abbrev cX3_split : ByteArray := prog_5_method_9_code
def yX3_split : MethodName := ⟨RX3, "split", "()I"⟩
abbrev cX3_partnerOf : ByteArray := prog_5_method_10_code
def yX3_partnerOf : MethodName := ⟨RX3, "partnerOf", "(LDrumSlits$Look;I)I"⟩
def RX4 : String := "DrumSlits$Look"
def TX4 : u_T := fun k => match k with
  | 0 => ("DrumSlits$Look", "spots", "[I", true)
  | 1 => ("DrumSlits$Look", "forms", "[I", true)
  | _ => ("DrumSlits$Look", "dots", "I", false)
def tyX4 : Nat → FieldType := fun k => match k with
  | 0 => .array .int
  | 1 => .array .int
  | _ => .int
abbrev wsX40 : List Cond := u_ws RX4 TX4 3
theorem nmX4 : ∀ a, a < 3 → ∀ b, b < 3 → a ≠ b → (TX4 a).2.1 ≠ (TX4 b).2.1 := by decide +kernel
theorem tyX4_ok : ∀ k, k < 3 → parseFieldDescriptor (TX4 k).2.2.1 = some (tyX4 k) := by decide +kernel
abbrev cX4_init : ByteArray := prog_6_method_1_code
def yX4_init : MethodName := ⟨RX4, "<init>", "()V"⟩
abbrev cX4_add : ByteArray := prog_6_method_2_code
def yX4_add : MethodName := ⟨RX4, "add", "(II)I"⟩
abbrev cX4_clear : ByteArray := prog_6_method_3_code
def yX4_clear : MethodName := ⟨RX4, "clear", "()I"⟩
abbrev cX4_wayTo : ByteArray := prog_6_method_4_code
def yX4_wayTo : MethodName := ⟨RX4, "wayTo", "(ILDrumSlits$Look;I)I"⟩
abbrev cX4_sameForm : ByteArray := prog_6_method_5_code
def yX4_sameForm : MethodName := ⟨RX4, "sameForm", "(ILDrumSlits$Look;I)Z"⟩
def RX5 : String := "DrumSlits$LooseRow"
def TX5 : u_T := fun k => match k with
  | 0 => ("DrumSlits$LooseRow", "steps", "[I", true)
  | 1 => ("DrumSlits$LooseRow", "least", "[I", true)
  | 2 => ("DrumSlits$LooseRow", "ways", "[I", true)
  | 3 => ("DrumSlits$LooseRow", "row", "[I", true)
  | _ => ("DrumSlits$LooseRow", "pictures", "I", false)
def tyX5 : Nat → FieldType := fun k => match k with
  | 0 => .array .int
  | 1 => .array .int
  | 2 => .array .int
  | 3 => .array .int
  | _ => .int
abbrev wsX50 : List Cond := u_ws RX5 TX5 5
theorem nmX5 : ∀ a, a < 5 → ∀ b, b < 5 → a ≠ b → (TX5 a).2.1 ≠ (TX5 b).2.1 := by decide +kernel
theorem tyX5_ok : ∀ k, k < 5 → parseFieldDescriptor (TX5 k).2.2.1 = some (tyX5 k) := by decide +kernel
abbrev cX5_init : ByteArray := prog_7_method_1_code
def yX5_init : MethodName := ⟨RX5, "<init>", "()V"⟩
abbrev cX5_search : ByteArray := prog_7_method_2_code
def yX5_search : MethodName := ⟨RX5, "search", "(LDrumSlits$Strip;I)V"⟩
abbrev cX5_settle : ByteArray := prog_7_method_3_code
def yX5_settle : MethodName := ⟨RX5, "settle", "(II)V"⟩
abbrev cX5_sumBy : ByteArray := prog_7_method_4_code
def yX5_sumBy : MethodName := ⟨RX5, "sumBy", "(III)I"⟩
abbrev cX5_layRow : ByteArray := prog_7_method_5_code
def yX5_layRow : MethodName := ⟨RX5, "layRow", "()V"⟩
abbrev cX5_firstBest : ByteArray := prog_7_method_6_code
def yX5_firstBest : MethodName := ⟨RX5, "firstBest", "(II)I"⟩
abbrev cX5_sum : ByteArray := prog_7_method_7_code
def yX5_sum : MethodName := ⟨RX5, "sum", "()I"⟩
abbrev cX5_howMany : ByteArray := prog_7_method_8_code
def yX5_howMany : MethodName := ⟨RX5, "howMany", "()I"⟩
abbrev cX5_pictureAt : ByteArray := prog_7_method_9_code
def yX5_pictureAt : MethodName := ⟨RX5, "pictureAt", "(I)I"⟩
def RX6 : String := "DrumSlits$Sheet"
def TX6 : u_T := fun k => match k with
  | 0 => ("DrumSlits$Sheet", "items", "[I", true)
  | 1 => ("DrumSlits$Sheet", "lost", "Z", false)
  | 2 => ("DrumSlits$Sheet", "form", "I", false)
  | _ => ("DrumSlits$Sheet", "size", "I", false)
def tyX6 : Nat → FieldType := fun k => match k with
  | 0 => .array .int
  | 1 => .boolean
  | 2 => .int
  | _ => .int
abbrev wsX60 : List Cond := u_ws RX6 TX6 4
theorem nmX6 : ∀ a, a < 4 → ∀ b, b < 4 → a ≠ b → (TX6 a).2.1 ≠ (TX6 b).2.1 := by decide +kernel
theorem tyX6_ok : ∀ k, k < 4 → parseFieldDescriptor (TX6 k).2.2.1 = some (tyX6 k) := by decide +kernel
abbrev cX6_init : ByteArray := prog_8_method_1_code
def yX6_init : MethodName := ⟨RX6, "<init>", "()V"⟩
abbrev cX6_isForm : ByteArray := prog_8_method_2_code
def yX6_isForm : MethodName := ⟨RX6, "isForm", "(I)Z"⟩
abbrev cX6_renew : ByteArray := prog_8_method_3_code
def yX6_renew : MethodName := ⟨RX6, "renew", "(II)V"⟩
abbrev cX6_findingAt : ByteArray := prog_8_method_4_code
def yX6_findingAt : MethodName := ⟨RX6, "findingAt", "(II)I"⟩
abbrev cX6_holds : ByteArray := prog_8_method_5_code
def yX6_holds : MethodName := ⟨RX6, "holds", "(II)Z"⟩
abbrev cX6_itemAt : ByteArray := prog_8_method_6_code
def yX6_itemAt : MethodName := ⟨RX6, "itemAt", "(I)I"⟩
abbrev cX6_store : ByteArray := prog_8_method_7_code
def yX6_store : MethodName := ⟨RX6, "store", "(II)V"⟩
def RX7 : String := "DrumSlits$Strip"
def TX7 : u_T := fun k => match k with
  | 0 => ("DrumSlits$Strip", "bytes", "[I", true)
  | 1 => ("DrumSlits$Strip", "places", "[I", true)
  | 2 => ("DrumSlits$Strip", "near", "[I", true)
  | 3 => ("DrumSlits$Strip", "length", "I", false)
  | 4 => ("DrumSlits$Strip", "pictures", "I", false)
  | _ => ("DrumSlits$Strip", "faultAt", "I", false)
def tyX7 : Nat → FieldType := fun k => match k with
  | 0 => .array .int
  | 1 => .array .int
  | 2 => .array .int
  | 3 => .int
  | 4 => .int
  | _ => .int
abbrev wsX70 : List Cond := u_ws RX7 TX7 6
theorem nmX7 : ∀ a, a < 6 → ∀ b, b < 6 → a ≠ b → (TX7 a).2.1 ≠ (TX7 b).2.1 := by decide +kernel
theorem tyX7_ok : ∀ k, k < 6 → parseFieldDescriptor (TX7 k).2.2.1 = some (tyX7 k) := by decide +kernel
abbrev cX7_init : ByteArray := prog_9_method_1_code
def yX7_init : MethodName := ⟨RX7, "<init>", "()V"⟩
abbrev cX7_append : ByteArray := prog_9_method_2_code
def yX7_append : MethodName := ⟨RX7, "append", "(I)I"⟩
abbrev cX7_clear : ByteArray := prog_9_method_3_code
def yX7_clear : MethodName := ⟨RX7, "clear", "()I"⟩
abbrev cX7_parse : ByteArray := prog_9_method_4_code
def yX7_parse : MethodName := ⟨RX7, "parse", "()V"⟩
abbrev cX7_firstFault : ByteArray := prog_9_method_5_code
def yX7_firstFault : MethodName := ⟨RX7, "firstFault", "()I"⟩
abbrev cX7_goesOn : ByteArray := prog_9_method_6_code
def yX7_goesOn : MethodName := ⟨RX7, "goesOn", "(II)Z"⟩
abbrev cX7_has : ByteArray := prog_9_method_7_code
def yX7_has : MethodName := ⟨RX7, "has", "(I)Z"⟩
abbrev cX7_placeAt : ByteArray := prog_9_method_8_code
def yX7_placeAt : MethodName := ⟨RX7, "placeAt", "(II)I"⟩
abbrev cX7_stepBetween : ByteArray := prog_9_method_9_code
def yX7_stepBetween : MethodName := ⟨RX7, "stepBetween", "(III)I"⟩
abbrev cX7_partStep : ByteArray := prog_9_method_10_code
def yX7_partStep : MethodName := ⟨RX7, "partStep", "(III)I"⟩
abbrev cX7_behind : ByteArray := prog_9_method_11_code
def yX7_behind : MethodName := ⟨RX7, "behind", "(I)I"⟩
abbrev cX7_stepsRound : ByteArray := prog_9_method_12_code
def yX7_stepsRound : MethodName := ⟨RX7, "stepsRound", "(I)I"⟩
abbrev cX7_halfAt : ByteArray := prog_9_method_13_code
def yX7_halfAt : MethodName := ⟨RX7, "halfAt", "(II)I"⟩
abbrev cX7_lowering : ByteArray := prog_9_method_14_code
def yX7_lowering : MethodName := ⟨RX7, "lowering", "(II)I"⟩
abbrev cX7_missingBehind : ByteArray := prog_9_method_15_code
def yX7_missingBehind : MethodName := ⟨RX7, "missingBehind", "(I)I"⟩
abbrev cX7_fewest : ByteArray := prog_9_method_16_code
def yX7_fewest : MethodName := ⟨RX7, "fewest", "(II)I"⟩
abbrev cX7_findNear : ByteArray := prog_9_method_17_code
def yX7_findNear : MethodName := ⟨RX7, "findNear", "(II)V"⟩
abbrev cX7_reaches : ByteArray := prog_9_method_18_code
def yX7_reaches : MethodName := ⟨RX7, "reaches", "(I)Z"⟩
def RX8 : String := "DrumSlits$Trials"
def TX8 : u_T := fun k => match k with
  | 0 => ("DrumSlits$Trials", "paces", "[I", true)
  | 1 => ("DrumSlits$Trials", "brights", "[I", true)
  | 2 => ("DrumSlits$Trials", "ones", "[I", true)
  | 3 => ("DrumSlits$Trials", "tried", "I", false)
  | 4 => ("DrumSlits$Trials", "bestStart", "I", false)
  | 5 => ("DrumSlits$Trials", "bestSlope", "I", false)
  | _ => ("DrumSlits$Trials", "leastWrong", "I", false)
def tyX8 : Nat → FieldType := fun k => match k with
  | 0 => .array .int
  | 1 => .array .int
  | 2 => .array .int
  | 3 => .int
  | 4 => .int
  | 5 => .int
  | _ => .int
abbrev wsX80 : List Cond := u_ws RX8 TX8 7
theorem nmX8 : ∀ a, a < 7 → ∀ b, b < 7 → a ≠ b → (TX8 a).2.1 ≠ (TX8 b).2.1 := by decide +kernel
theorem tyX8_ok : ∀ k, k < 7 → parseFieldDescriptor (TX8 k).2.2.1 = some (tyX8 k) := by decide +kernel
abbrev cX8_init : ByteArray := prog_10_method_1_code
def yX8_init : MethodName := ⟨RX8, "<init>", "()V"⟩
abbrev cX8_add : ByteArray := prog_10_method_2_code
def yX8_add : MethodName := ⟨RX8, "add", "(III)I"⟩
abbrev cX8_toldOtherwise : ByteArray := prog_10_method_3_code
def yX8_toldOtherwise : MethodName := ⟨RX8, "toldOtherwise", "(II)I"⟩
abbrev cX8_search : ByteArray := prog_10_method_4_code
def yX8_search : MethodName := ⟨RX8, "search", "()V"⟩
def RX9 : String := "DrumSlits$Wheel"
def TX9 : u_T := fun k => match k with
  | _ => ("", "", "", false)
def tyX9 : Nat → FieldType := fun k => match k with
  | _ => .int
abbrev wsX90 : List Cond := u_ws RX9 TX9 0
theorem nmX9 : ∀ a, a < 0 → ∀ b, b < 0 → a ≠ b → (TX9 a).2.1 ≠ (TX9 b).2.1 := by decide +kernel
theorem tyX9_ok : ∀ k, k < 0 → parseFieldDescriptor (TX9 k).2.2.1 = some (tyX9 k) := by decide +kernel
abbrev cX9_stands : ByteArray := prog_11_method_2_code
def yX9_stands : MethodName := ⟨RX9, "stands", "(III)Z"⟩
abbrev cX9_isSecond : ByteArray := prog_11_method_3_code
def yX9_isSecond : MethodName := ⟨RX9, "isSecond", "(I)Z"⟩
abbrev cX9_seemsBelow : ByteArray := prog_11_method_4_code
def yX9_seemsBelow : MethodName := ⟨RX9, "seemsBelow", "(I)I"⟩
abbrev cX9_seemsAbove : ByteArray := prog_11_method_5_code
def yX9_seemsAbove : MethodName := ⟨RX9, "seemsAbove", "(III)I"⟩
abbrev cX9_alike : ByteArray := prog_11_method_6_code
def yX9_alike : MethodName := ⟨RX9, "alike", "(IIII)Z"⟩
abbrev cX9_fit : ByteArray := prog_11_method_7_code
def yX9_fit : MethodName := ⟨RX9, "fit", "(IIIII)Z"⟩
abbrev cX9_howManyFit : ByteArray := prog_11_method_8_code
def yX9_howManyFit : MethodName := ⟨RX9, "howManyFit", "(IIIII)I"⟩
abbrev cX9_fitting : ByteArray := prog_11_method_9_code
def yX9_fitting : MethodName := ⟨RX9, "fitting", "(IIIII)I"⟩
def RX10 : String := "DrumSlits"
def TX10 : u_T := fun k => match k with
  | 0 => ("DrumSlits", "firstStrip", "LDrumSlits$Strip;", true)
  | 1 => ("DrumSlits", "secondStrip", "LDrumSlits$Strip;", true)
  | 2 => ("DrumSlits", "firstLook", "LDrumSlits$Look;", true)
  | 3 => ("DrumSlits", "secondLook", "LDrumSlits$Look;", true)
  | 4 => ("DrumSlits", "sheets", "[LDrumSlits$Sheet;", true)
  | 5 => ("DrumSlits", "joining", "LDrumSlits$Joining;", true)
  | 6 => ("DrumSlits", "looseRow", "LDrumSlits$LooseRow;", true)
  | 7 => ("DrumSlits", "trials", "LDrumSlits$Trials;", true)
  | 8 => ("DrumSlits", "blade", "LDrumSlits$Blade;", true)
  | 9 => ("DrumSlits", "gap", "I", false)
  | 10 => ("DrumSlits", "unlike", "I", false)
  | _ => ("DrumSlits", "latestFinding", "I", false)
def tyX10 : Nat → FieldType := fun k => match k with
  | 0 => .object "DrumSlits$Strip"
  | 1 => .object "DrumSlits$Strip"
  | 2 => .object "DrumSlits$Look"
  | 3 => .object "DrumSlits$Look"
  | 4 => .array (.object "DrumSlits$Sheet")
  | 5 => .object "DrumSlits$Joining"
  | 6 => .object "DrumSlits$LooseRow"
  | 7 => .object "DrumSlits$Trials"
  | 8 => .object "DrumSlits$Blade"
  | 9 => .int
  | 10 => .int
  | _ => .int
abbrev wsX100 : List Cond := u_ws RX10 TX10 12
theorem nmX10 : ∀ a, a < 12 → ∀ b, b < 12 → a ≠ b → (TX10 a).2.1 ≠ (TX10 b).2.1 := by decide +kernel
theorem tyX10_ok : ∀ k, k < 12 → parseFieldDescriptor (TX10 k).2.2.1 = some (tyX10 k) := by decide +kernel
abbrev cX10_init : ByteArray := prog_1_method_1_code
def yX10_init : MethodName := ⟨RX10, "<init>", "()V"⟩
abbrev cX10_type : ByteArray := prog_1_method_2_code
def yX10_type : MethodName := ⟨RX10, "type", "(II)I"⟩
abbrev cX10_wipe : ByteArray := prog_1_method_3_code
def yX10_wipe : MethodName := ⟨RX10, "wipe", "(I)I"⟩
abbrev cX10_fault : ByteArray := prog_1_method_4_code
def yX10_fault : MethodName := ⟨RX10, "fault", "(I)I"⟩
abbrev cX10_place : ByteArray := prog_1_method_5_code
def yX10_place : MethodName := ⟨RX10, "place", "(III)I"⟩
abbrev cX10_step : ByteArray := prog_1_method_6_code
def yX10_step : MethodName := ⟨RX10, "step", "(III)I"⟩
abbrev cX10_whole : ByteArray := prog_1_method_7_code
def yX10_whole : MethodName := ⟨RX10, "whole", "(I)I"⟩
abbrev cX10_set : ByteArray := prog_1_method_8_code
def yX10_set : MethodName := ⟨RX10, "set", "(II)I"⟩
abbrev cX10_drum : ByteArray := prog_1_method_9_code
def yX10_drum : MethodName := ⟨RX10, "drum", "(III)I"⟩
abbrev cX10_drift : ByteArray := prog_1_method_10_code
def yX10_drift : MethodName := ⟨RX10, "drift", "(III)J"⟩
abbrev cX10_seen : ByteArray := prog_1_method_11_code
def yX10_seen : MethodName := ⟨RX10, "seen", "(III)I"⟩
abbrev cX10_numbers : ByteArray := prog_1_method_12_code
def yX10_numbers : MethodName := ⟨RX10, "numbers", "(III)I"⟩
abbrev cX10_wheel : ByteArray := prog_1_method_13_code
def yX10_wheel : MethodName := ⟨RX10, "wheel", "(IIII)J"⟩
abbrev cX10_fits : ByteArray := prog_1_method_14_code
def yX10_fits : MethodName := ⟨RX10, "fits", "(IIIII)I"⟩
abbrev cX10_upTo : ByteArray := prog_1_method_15_code
def yX10_upTo : MethodName := ⟨RX10, "upTo", "(IIIII)I"⟩
abbrev cX10_dot : ByteArray := prog_1_method_16_code
def yX10_dot : MethodName := ⟨RX10, "dot", "(III)I"⟩
abbrev cX10_read : ByteArray := prog_1_method_17_code
def yX10_read : MethodName := ⟨RX10, "read", "(II)I"⟩
abbrev cX10_blink : ByteArray := prog_1_method_18_code
def yX10_blink : MethodName := ⟨RX10, "blink", "(I)I"⟩
abbrev cX10_join : ByteArray := prog_1_method_19_code
def yX10_join : MethodName := ⟨RX10, "join", "(I)I"⟩
abbrev cX10_net : ByteArray := prog_1_method_20_code
def yX10_net : MethodName := ⟨RX10, "net", "()I"⟩
abbrev cX10_joined : ByteArray := prog_1_method_21_code
def yX10_joined : MethodName := ⟨RX10, "joined", "(II)I"⟩
abbrev cX10_narrow : ByteArray := prog_1_method_22_code
def yX10_narrow : MethodName := ⟨RX10, "narrow", "(IIII)J"⟩
abbrev cX10_wide : ByteArray := prog_1_method_23_code
def yX10_wide : MethodName := ⟨RX10, "wide", "(III)I"⟩
abbrev cX10_slit : ByteArray := prog_1_method_24_code
def yX10_slit : MethodName := ⟨RX10, "slit", "(II)I"⟩
abbrev cX10_order : ByteArray := prog_1_method_25_code
def yX10_order : MethodName := ⟨RX10, "order", "(II)I"⟩
abbrev cX10_orders : ByteArray := prog_1_method_26_code
def yX10_orders : MethodName := ⟨RX10, "orders", "(I)I"⟩
abbrev cX10_missing : ByteArray := prog_1_method_27_code
def yX10_missing : MethodName := ⟨RX10, "missing", "(II)I"⟩
abbrev cX10_half : ByteArray := prog_1_method_28_code
def yX10_half : MethodName := ⟨RX10, "half", "(III)I"⟩
abbrev cX10_few : ByteArray := prog_1_method_29_code
def yX10_few : MethodName := ⟨RX10, "few", "(II)I"⟩
abbrev cX10_tries : ByteArray := prog_1_method_30_code
def yX10_tries : MethodName := ⟨RX10, "tries", "(III)I"⟩
abbrev cX10_wrong : ByteArray := prog_1_method_31_code
def yX10_wrong : MethodName := ⟨RX10, "wrong", "(II)I"⟩
abbrev cX10_line : ByteArray := prog_1_method_32_code
def yX10_line : MethodName := ⟨RX10, "line", "(I)I"⟩
abbrev cX10_bent : ByteArray := prog_1_method_33_code
def yX10_bent : MethodName := ⟨RX10, "bent", "(II)I"⟩
abbrev cX10_sheet : ByteArray := prog_1_method_34_code
def yX10_sheet : MethodName := ⟨RX10, "sheet", "(III)I"⟩
abbrev cX10_lose : ByteArray := prog_1_method_35_code
def yX10_lose : MethodName := ⟨RX10, "lose", "(I)I"⟩
abbrev cX10_put : ByteArray := prog_1_method_36_code
def yX10_put : MethodName := ⟨RX10, "put", "(IIII)I"⟩
abbrev cX10_get : ByteArray := prog_1_method_37_code
def yX10_get : MethodName := ⟨RX10, "get", "(III)I"⟩
abbrev cX10_copy : ByteArray := prog_1_method_38_code
def yX10_copy : MethodName := ⟨RX10, "copy", "(IIIII)I"⟩
abbrev cX10_write : ByteArray := prog_1_method_39_code
def yX10_write : MethodName := ⟨RX10, "write", "(III)I"⟩
abbrev cX10_count : ByteArray := prog_1_method_40_code
def yX10_count : MethodName := ⟨RX10, "count", "(I)I"⟩
abbrev cX10_digest : ByteArray := prog_1_method_41_code
def yX10_digest : MethodName := ⟨RX10, "digest", "()J"⟩
abbrev cX10_mixedStrip : ByteArray := prog_1_method_42_code
def yX10_mixedStrip : MethodName := ⟨RX10, "mixedStrip", "(JI)J"⟩
abbrev cX10_mixedLook : ByteArray := prog_1_method_43_code
def yX10_mixedLook : MethodName := ⟨RX10, "mixedLook", "(JI)J"⟩
abbrev cX10_mixed : ByteArray := prog_1_method_44_code
def yX10_mixed : MethodName := ⟨RX10, "mixed", "(JJ)J"⟩
abbrev cX10_within : ByteArray := prog_1_method_45_code
def yX10_within : MethodName := ⟨RX10, "within", "(III)Z"⟩
abbrev cX10_asLong : ByteArray := prog_1_method_46_code
def yX10_asLong : MethodName := ⟨RX10, "asLong", "(I)J"⟩
abbrev cX10_finding : ByteArray := prog_1_method_47_code
def yX10_finding : MethodName := ⟨RX10, "finding", "(I)I"⟩
abbrev cX10_stripAt : ByteArray := prog_1_method_48_code
def yX10_stripAt : MethodName := ⟨RX10, "stripAt", "(I)LDrumSlits$Strip;"⟩
abbrev cX10_lookAt : ByteArray := prog_1_method_49_code
def yX10_lookAt : MethodName := ⟨RX10, "lookAt", "(I)LDrumSlits$Look;"⟩
abbrev cX10_sheetAt : ByteArray := prog_1_method_50_code
def yX10_sheetAt : MethodName := ⟨RX10, "sheetAt", "(I)LDrumSlits$Sheet;"⟩
abbrev cX10_looseRefusal : ByteArray := prog_1_method_51_code
def yX10_looseRefusal : MethodName := ⟨RX10, "looseRefusal", "(LDrumSlits$Strip;)I"⟩
abbrev cX10_isDrawing : ByteArray := prog_1_method_52_code
def yX10_isDrawing : MethodName := ⟨RX10, "isDrawing", "(II)Z"⟩
abbrev cX10_slitWorth : ByteArray := prog_1_method_53_code
def yX10_slitWorth : MethodName := ⟨RX10, "slitWorth", "(III)I"⟩
def RX11 : String := "DrumSlitsModel"
def TX11 : u_T := fun k => match k with
  | 0 => ("DrumSlitsModel", "texts", "[I", true)
  | 1 => ("DrumSlitsModel", "typed", "[I", true)
  | 2 => ("DrumSlitsModel", "many", "[I", true)
  | 3 => ("DrumSlitsModel", "places", "[I", true)
  | 4 => ("DrumSlitsModel", "setting", "[I", true)
  | 5 => ("DrumSlitsModel", "dots", "[I", true)
  | 6 => ("DrumSlitsModel", "dotPlace", "[I", true)
  | 7 => ("DrumSlitsModel", "dotForm", "[I", true)
  | 8 => ("DrumSlitsModel", "row", "[I", true)
  | 9 => ("DrumSlitsModel", "bestRow", "[I", true)
  | 10 => ("DrumSlitsModel", "bestSum", "I", false)
  | 11 => ("DrumSlitsModel", "bestMany", "I", false)
  | 12 => ("DrumSlitsModel", "bestNet", "I", false)
  | 13 => ("DrumSlitsModel", "split", "I", false)
  | 14 => ("DrumSlitsModel", "tryMany", "I", false)
  | 15 => ("DrumSlitsModel", "tryPace", "[I", true)
  | 16 => ("DrumSlitsModel", "tryBright", "[I", true)
  | 17 => ("DrumSlitsModel", "tryOne", "[I", true)
  | 18 => ("DrumSlitsModel", "isThere", "[Z", true)
  | 19 => ("DrumSlitsModel", "forms", "[I", true)
  | 20 => ("DrumSlitsModel", "sizes", "[I", true)
  | 21 => ("DrumSlitsModel", "items", "[I", true)
  | 22 => ("DrumSlitsModel", "moved", "[I", true)
  | _ => ("DrumSlitsModel", "finding", "I", false)
def tyX11 : Nat → FieldType := fun k => match k with
  | 0 => .array .int
  | 1 => .array .int
  | 2 => .array .int
  | 3 => .array .int
  | 4 => .array .int
  | 5 => .array .int
  | 6 => .array .int
  | 7 => .array .int
  | 8 => .array .int
  | 9 => .array .int
  | 10 => .int
  | 11 => .int
  | 12 => .int
  | 13 => .int
  | 14 => .int
  | 15 => .array .int
  | 16 => .array .int
  | 17 => .array .int
  | 18 => .array .boolean
  | 19 => .array .int
  | 20 => .array .int
  | 21 => .array .int
  | 22 => .array .int
  | _ => .int
abbrev wsX110 : List Cond := u_ws RX11 TX11 24
theorem nmX11 : ∀ a, a < 24 → ∀ b, b < 24 → a ≠ b → (TX11 a).2.1 ≠ (TX11 b).2.1 := by decide +kernel
theorem tyX11_ok : ∀ k, k < 24 → parseFieldDescriptor (TX11 k).2.2.1 = some (tyX11 k) := by decide +kernel
abbrev cX11_init : ByteArray := prog_13_method_1_code
def yX11_init : MethodName := ⟨RX11, "<init>", "()V"⟩
abbrev cX11_in : ByteArray := prog_13_method_3_code
def yX11_in : MethodName := ⟨RX11, "in", "(III)Z"⟩
abbrev cX11_isIn : ByteArray := prog_13_method_4_code
def yX11_isIn : MethodName := ⟨RX11, "isIn", "(II)Z"⟩
abbrev cX11_ones : ByteArray := prog_13_method_5_code
def yX11_ones : MethodName := ⟨RX11, "ones", "(I)I"⟩
abbrev cX11_amount : ByteArray := prog_13_method_6_code
def yX11_amount : MethodName := ⟨RX11, "amount", "(I)I"⟩
abbrev cX11_no : ByteArray := prog_13_method_7_code
def yX11_no : MethodName := ⟨RX11, "no", "(I)J"⟩
abbrev cX11_common : ByteArray := prog_13_method_8_code
def yX11_common : MethodName := ⟨RX11, "common", "(II)I"⟩
abbrev cX11_lowest : ByteArray := prog_13_method_9_code
def yX11_lowest : MethodName := ⟨RX11, "lowest", "(III)J"⟩
abbrev cX11_nearest : ByteArray := prog_13_method_10_code
def yX11_nearest : MethodName := ⟨RX11, "nearest", "(II)I"⟩
abbrev cX11_isStrip : ByteArray := prog_13_method_11_code
def yX11_isStrip : MethodName := ⟨RX11, "isStrip", "(I)Z"⟩
abbrev cX11_type : ByteArray := prog_13_method_12_code
def yX11_type : MethodName := ⟨RX11, "type", "(II)I"⟩
abbrev cX11_wipe : ByteArray := prog_13_method_13_code
def yX11_wipe : MethodName := ⟨RX11, "wipe", "(I)I"⟩
abbrev cX11_byteAt : ByteArray := prog_13_method_14_code
def yX11_byteAt : MethodName := ⟨RX11, "byteAt", "(II)I"⟩
abbrev cX11_faultNow : ByteArray := prog_13_method_15_code
def yX11_faultNow : MethodName := ⟨RX11, "faultNow", "(I)I"⟩
abbrev cX11_fault : ByteArray := prog_13_method_16_code
def yX11_fault : MethodName := ⟨RX11, "fault", "(I)I"⟩
abbrev cX11_pictures : ByteArray := prog_13_method_17_code
def yX11_pictures : MethodName := ⟨RX11, "pictures", "(I)I"⟩
abbrev cX11_place : ByteArray := prog_13_method_18_code
def yX11_place : MethodName := ⟨RX11, "place", "(III)I"⟩
abbrev cX11_stepBy : ByteArray := prog_13_method_19_code
def yX11_stepBy : MethodName := ⟨RX11, "stepBy", "(II)I"⟩
abbrev cX11_stepOf : ByteArray := prog_13_method_20_code
def yX11_stepOf : MethodName := ⟨RX11, "stepOf", "(III)I"⟩
abbrev cX11_step : ByteArray := prog_13_method_21_code
def yX11_step : MethodName := ⟨RX11, "step", "(III)I"⟩
abbrev cX11_wholeNow : ByteArray := prog_13_method_22_code
def yX11_wholeNow : MethodName := ⟨RX11, "wholeNow", "(I)I"⟩
abbrev cX11_whole : ByteArray := prog_13_method_23_code
def yX11_whole : MethodName := ⟨RX11, "whole", "(I)I"⟩
abbrev cX11_set : ByteArray := prog_13_method_24_code
def yX11_set : MethodName := ⟨RX11, "set", "(II)I"⟩
abbrev cX11_isDrum : ByteArray := prog_13_method_25_code
def yX11_isDrum : MethodName := ⟨RX11, "isDrum", "(I)Z"⟩
abbrev cX11_seeming : ByteArray := prog_13_method_26_code
def yX11_seeming : MethodName := ⟨RX11, "seeming", "(II)I"⟩
abbrev cX11_drum : ByteArray := prog_13_method_27_code
def yX11_drum : MethodName := ⟨RX11, "drum", "(III)I"⟩
abbrev cX11_drift : ByteArray := prog_13_method_28_code
def yX11_drift : MethodName := ⟨RX11, "drift", "(III)J"⟩
abbrev cX11_seenNow : ByteArray := prog_13_method_29_code
def yX11_seenNow : MethodName := ⟨RX11, "seenNow", "(III)I"⟩
abbrev cX11_seen : ByteArray := prog_13_method_30_code
def yX11_seen : MethodName := ⟨RX11, "seen", "(III)I"⟩
abbrev cX11_numbersOf : ByteArray := prog_13_method_31_code
def yX11_numbersOf : MethodName := ⟨RX11, "numbersOf", "(III)I"⟩
abbrev cX11_numbers : ByteArray := prog_13_method_32_code
def yX11_numbers : MethodName := ⟨RX11, "numbers", "(III)I"⟩
abbrev cX11_isWheel : ByteArray := prog_13_method_33_code
def yX11_isWheel : MethodName := ⟨RX11, "isWheel", "(III)Z"⟩
abbrev cX11_wheel : ByteArray := prog_13_method_34_code
def yX11_wheel : MethodName := ⟨RX11, "wheel", "(IIII)J"⟩
abbrev cX11_fitsBy : ByteArray := prog_13_method_35_code
def yX11_fitsBy : MethodName := ⟨RX11, "fitsBy", "(IIII)Z"⟩
abbrev cX11_fits : ByteArray := prog_13_method_36_code
def yX11_fits : MethodName := ⟨RX11, "fits", "(IIIII)I"⟩
abbrev cX11_upTo : ByteArray := prog_13_method_37_code
def yX11_upTo : MethodName := ⟨RX11, "upTo", "(IIIII)I"⟩
abbrev cX11_dotMore : ByteArray := prog_13_method_38_code
def yX11_dotMore : MethodName := ⟨RX11, "dotMore", "(III)I"⟩
abbrev cX11_dot : ByteArray := prog_13_method_39_code
def yX11_dot : MethodName := ⟨RX11, "dot", "(III)I"⟩
abbrev cX11_read : ByteArray := prog_13_method_40_code
def yX11_read : MethodName := ⟨RX11, "read", "(II)I"⟩
abbrev cX11_blink : ByteArray := prog_13_method_41_code
def yX11_blink : MethodName := ⟨RX11, "blink", "(I)I"⟩
abbrev cX11_way : ByteArray := prog_13_method_42_code
def yX11_way : MethodName := ⟨RX11, "way", "(II)I"⟩
abbrev cX11_joins : ByteArray := prog_13_method_43_code
def yX11_joins : MethodName := ⟨RX11, "joins", "()V"⟩
abbrev cX11_joinNow : ByteArray := prog_13_method_44_code
def yX11_joinNow : MethodName := ⟨RX11, "joinNow", "(I)I"⟩
abbrev cX11_join : ByteArray := prog_13_method_45_code
def yX11_join : MethodName := ⟨RX11, "join", "(I)I"⟩
abbrev cX11_netNow : ByteArray := prog_13_method_46_code
def yX11_netNow : MethodName := ⟨RX11, "netNow", "()I"⟩
abbrev cX11_net : ByteArray := prog_13_method_47_code
def yX11_net : MethodName := ⟨RX11, "net", "()I"⟩
abbrev cX11_joinedNow : ByteArray := prog_13_method_48_code
def yX11_joinedNow : MethodName := ⟨RX11, "joinedNow", "(II)I"⟩
abbrev cX11_joined : ByteArray := prog_13_method_49_code
def yX11_joined : MethodName := ⟨RX11, "joined", "(II)I"⟩
abbrev cX11_isFar : ByteArray := prog_13_method_50_code
def yX11_isFar : MethodName := ⟨RX11, "isFar", "(I)Z"⟩
abbrev cX11_narrow : ByteArray := prog_13_method_51_code
def yX11_narrow : MethodName := ⟨RX11, "narrow", "(IIII)J"⟩
abbrev cX11_wide : ByteArray := prog_13_method_52_code
def yX11_wide : MethodName := ⟨RX11, "wide", "(III)I"⟩
abbrev cX11_slit : ByteArray := prog_13_method_53_code
def yX11_slit : MethodName := ⟨RX11, "slit", "(II)I"⟩
abbrev cX11_turns : ByteArray := prog_13_method_54_code
def yX11_turns : MethodName := ⟨RX11, "turns", "(I)Z"⟩
abbrev cX11_puts : ByteArray := prog_13_method_55_code
def yX11_puts : MethodName := ⟨RX11, "puts", "(I)I"⟩
abbrev cX11_order : ByteArray := prog_13_method_56_code
def yX11_order : MethodName := ⟨RX11, "order", "(II)I"⟩
abbrev cX11_ordersNow : ByteArray := prog_13_method_57_code
def yX11_ordersNow : MethodName := ⟨RX11, "ordersNow", "(I)I"⟩
abbrev cX11_orders : ByteArray := prog_13_method_58_code
def yX11_orders : MethodName := ⟨RX11, "orders", "(I)I"⟩
abbrev cX11_halves : ByteArray := prog_13_method_59_code
def yX11_halves : MethodName := ⟨RX11, "halves", "(II)V"⟩
abbrev cX11_missingNow : ByteArray := prog_13_method_60_code
def yX11_missingNow : MethodName := ⟨RX11, "missingNow", "(II)I"⟩
abbrev cX11_missing : ByteArray := prog_13_method_61_code
def yX11_missing : MethodName := ⟨RX11, "missing", "(II)I"⟩
abbrev cX11_half : ByteArray := prog_13_method_62_code
def yX11_half : MethodName := ⟨RX11, "half", "(III)I"⟩
abbrev cX11_fewNow : ByteArray := prog_13_method_63_code
def yX11_fewNow : MethodName := ⟨RX11, "fewNow", "(II)I"⟩
abbrev cX11_few : ByteArray := prog_13_method_64_code
def yX11_few : MethodName := ⟨RX11, "few", "(II)I"⟩
abbrev cX11_tries : ByteArray := prog_13_method_65_code
def yX11_tries : MethodName := ⟨RX11, "tries", "(III)I"⟩
abbrev cX11_wrongOf : ByteArray := prog_13_method_66_code
def yX11_wrongOf : MethodName := ⟨RX11, "wrongOf", "(II)I"⟩
abbrev cX11_wrong : ByteArray := prog_13_method_67_code
def yX11_wrong : MethodName := ⟨RX11, "wrong", "(II)I"⟩
abbrev cX11_lineNow : ByteArray := prog_13_method_68_code
def yX11_lineNow : MethodName := ⟨RX11, "lineNow", "(I)I"⟩
abbrev cX11_line : ByteArray := prog_13_method_69_code
def yX11_line : MethodName := ⟨RX11, "line", "(I)I"⟩
abbrev cX11_bent : ByteArray := prog_13_method_70_code
def yX11_bent : MethodName := ⟨RX11, "bent", "(II)I"⟩
abbrev cX11_meets : ByteArray := prog_13_method_71_code
def yX11_meets : MethodName := ⟨RX11, "meets", "(I)I"⟩
abbrev cX11_isSheet : ByteArray := prog_13_method_72_code
def yX11_isSheet : MethodName := ⟨RX11, "isSheet", "(I)Z"⟩
abbrev cX11_sheet : ByteArray := prog_13_method_73_code
def yX11_sheet : MethodName := ⟨RX11, "sheet", "(III)I"⟩
abbrev cX11_lose : ByteArray := prog_13_method_74_code
def yX11_lose : MethodName := ⟨RX11, "lose", "(I)I"⟩
abbrev cX11_lacks : ByteArray := prog_13_method_75_code
def yX11_lacks : MethodName := ⟨RX11, "lacks", "(III)I"⟩
abbrev cX11_keep : ByteArray := prog_13_method_76_code
def yX11_keep : MethodName := ⟨RX11, "keep", "(III)V"⟩
abbrev cX11_put : ByteArray := prog_13_method_77_code
def yX11_put : MethodName := ⟨RX11, "put", "(IIII)I"⟩
abbrev cX11_get : ByteArray := prog_13_method_78_code
def yX11_get : MethodName := ⟨RX11, "get", "(III)I"⟩
abbrev cX11_copy : ByteArray := prog_13_method_79_code
def yX11_copy : MethodName := ⟨RX11, "copy", "(IIIII)I"⟩
abbrev cX11_write : ByteArray := prog_13_method_80_code
def yX11_write : MethodName := ⟨RX11, "write", "(III)I"⟩
abbrev cX11_count : ByteArray := prog_13_method_81_code
def yX11_count : MethodName := ⟨RX11, "count", "(I)I"⟩
abbrev cX11_digest : ByteArray := prog_13_method_82_code
def yX11_digest : MethodName := ⟨RX11, "digest", "()J"⟩
def RJ6 : String := "java/lang/Integer"
def TJ6 : u_T := fun k => match k with
  | _ => ("", "", "", false)
def tyJ6 : Nat → FieldType := fun k => match k with
  | _ => .int
abbrev wsJ60 : List Cond := u_ws RJ6 TJ6 0
theorem nmJ6 : ∀ a, a < 0 → ∀ b, b < 0 → a ≠ b → (TJ6 a).2.1 ≠ (TJ6 b).2.1 := by decide +kernel
theorem tyJ6_ok : ∀ k, k < 0 → parseFieldDescriptor (TJ6 k).2.2.1 = some (tyJ6 k) := by decide +kernel
abbrev cJ6_bitCount_0f7a4 : ByteArray := prog_14_method_49_code
def yJ6_bitCount_0f7a4 : MethodName := ⟨RJ6, "bitCount", "(I)I"⟩
def RJ9 : String := "java/lang/Math"
def TJ9 : u_T := fun k => match k with
  | _ => ("", "", "", false)
def tyJ9 : Nat → FieldType := fun k => match k with
  | _ => .int
abbrev wsJ90 : List Cond := u_ws RJ9 TJ9 0
theorem nmJ9 : ∀ a, a < 0 → ∀ b, b < 0 → a ≠ b → (TJ9 a).2.1 ≠ (TJ9 b).2.1 := by decide +kernel
theorem tyJ9_ok : ∀ k, k < 0 → parseFieldDescriptor (TJ9 k).2.2.1 = some (tyJ9 k) := by decide +kernel
abbrev cJ9_floorDiv_7cf53 : ByteArray := prog_15_method_47_code
def yJ9_floorDiv_7cf53 : MethodName := ⟨RJ9, "floorDiv", "(II)I"⟩
abbrev cJ9_floorMod_7cf53 : ByteArray := prog_15_method_50_code
def yJ9_floorMod_7cf53 : MethodName := ⟨RJ9, "floorMod", "(II)I"⟩
abbrev cJ9_abs_0f7a4 : ByteArray := prog_15_method_59_code
def yJ9_abs_0f7a4 : MethodName := ⟨RJ9, "abs", "(I)I"⟩
abbrev cJ9_max_7cf53 : ByteArray := prog_15_method_65_code
def yJ9_max_7cf53 : MethodName := ⟨RJ9, "max", "(II)I"⟩
abbrev cJ9_min_7cf53 : ByteArray := prog_15_method_69_code
def yJ9_min_7cf53 : MethodName := ⟨RJ9, "min", "(II)I"⟩
def RJ10 : String := "java/lang/System"
def TJ10 : u_T := fun k => match k with
  | _ => ("", "", "", false)
def tyJ10 : Nat → FieldType := fun k => match k with
  | _ => .int
abbrev wsJ100 : List Cond := u_ws RJ10 TJ10 0
theorem nmJ10 : ∀ a, a < 0 → ∀ b, b < 0 → a ≠ b → (TJ10 a).2.1 ≠ (TJ10 b).2.1 := by decide +kernel
theorem tyJ10_ok : ∀ k, k < 0 → parseFieldDescriptor (TJ10 k).2.2.1 = some (tyJ10 k) := by decide +kernel
def RJ7 : String := "java/util/Arrays"
def TJ7 : u_T := fun k => match k with
  | _ => ("", "", "", false)
def tyJ7 : Nat → FieldType := fun k => match k with
  | _ => .int
abbrev wsJ70 : List Cond := u_ws RJ7 TJ7 0
theorem nmJ7 : ∀ a, a < 0 → ∀ b, b < 0 → a ≠ b → (TJ7 a).2.1 ≠ (TJ7 b).2.1 := by decide +kernel
theorem tyJ7_ok : ∀ k, k < 0 → parseFieldDescriptor (TJ7 k).2.2.1 = some (tyJ7 k) := by decide +kernel
abbrev cJ7_fill_53178 : ByteArray := prog_17_method_103_code
def yJ7_fill_53178 : MethodName := ⟨RJ7, "fill", "([II)V"⟩
def RL : String := "DrumSlitsLaw"
abbrev cL_law : ByteArray := code
def yL_law : MethodName := ⟨RL, "law", "([I)Z"⟩
abbrev vwCl : List vw_C := [(RX0, TX0, 4), (RX3, TX3, 11), (RX4, TX4, 3), (RX5, TX5, 5), (RX6, TX6, 4), (RX7, TX7, 6), (RX8, TX8, 7), (RX10, TX10, 12), (RX11, TX11, 24)]
def TB : List Cond := lw_tbl.filter goodWord
theorem tb_in {w : Cond} (i : Nat) (h : lw_tbl[i]? = some w) (g : goodWord w = true) : w ∈ TB := List.mem_filter.mpr ⟨List.mem_of_getElem? h, g⟩
theorem tb_good : ∀ w ∈ TB, goodWord w = true := fun w h => (List.mem_filter.mp h).2
theorem inX0 : ∀ w ∈ wsX00, w ∈ TB := by decide +kernel
theorem inX3 : ∀ w ∈ wsX30, w ∈ TB := by decide +kernel
theorem inX4 : ∀ w ∈ wsX40, w ∈ TB := by decide +kernel
theorem inX5 : ∀ w ∈ wsX50, w ∈ TB := by decide +kernel
theorem inX6 : ∀ w ∈ wsX60, w ∈ TB := by decide +kernel
theorem inX7 : ∀ w ∈ wsX70, w ∈ TB := by decide +kernel
theorem inX8 : ∀ w ∈ wsX80, w ∈ TB := by decide +kernel
theorem inX10 : ∀ w ∈ wsX100, w ∈ TB := by decide +kernel
theorem inX11 : ∀ w ∈ wsX110, w ∈ TB := by decide +kernel
end
section
theorem dX0_init_0 : decode cX0_init 0 = .ok (.aload_n 0, 1) := by decide +kernel
theorem dX0_init_1 : decode cX0_init 1 = .ok (.invokespecial 3, 3) := by decide +kernel
theorem dX0_init_4 : decode cX0_init 4 = .ok (.aload_n 0, 1) := by decide +kernel
theorem dX0_init_5 : decode cX0_init 5 = .ok (.bipush 60, 2) := by decide +kernel
theorem dX0_init_7 : decode cX0_init 7 = .ok (.newarray .int, 2) := by decide +kernel
theorem dX0_init_9 : decode cX0_init 9 = .ok (.putfield 9, 3) := by decide +kernel
theorem dX0_init_12 : decode cX0_init 12 = .ok (.return_, 1) := by decide +kernel
theorem dX0_search_0 : decode cX0_search 0 = .ok (.aload_n 0, 1) := by decide +kernel
theorem dX0_search_1 : decode cX0_search 1 = .ok (.ldc 17, 2) := by decide +kernel
theorem dX0_search_3 : decode cX0_search 3 = .ok (.putfield 18, 3) := by decide +kernel
theorem dX0_search_6 : decode cX0_search 6 = .ok (.iconst 0, 1) := by decide +kernel
theorem dX0_search_7 : decode cX0_search 7 = .ok (.istore_n 2, 1) := by decide +kernel
theorem dX0_search_8 : decode cX0_search 8 = .ok (.iload_n 2, 1) := by decide +kernel
theorem dX0_search_9 : decode cX0_search 9 = .ok (.bipush 60, 2) := by decide +kernel
theorem dX0_search_11 : decode cX0_search 11 = .ok (.if_icmp .ge 24, 3) := by decide +kernel
theorem dX0_search_14 : decode cX0_search 14 = .ok (.aload_n 0, 1) := by decide +kernel
theorem dX0_search_15 : decode cX0_search 15 = .ok (.aload_n 1, 1) := by decide +kernel
theorem dX0_search_16 : decode cX0_search 16 = .ok (.iload_n 2, 1) := by decide +kernel
theorem dX0_search_17 : decode cX0_search 17 = .ok (.invokevirtual 22, 3) := by decide +kernel
theorem dX0_search_20 : decode cX0_search 20 = .ok (.aload_n 0, 1) := by decide +kernel
theorem dX0_search_21 : decode cX0_search 21 = .ok (.aload_n 1, 1) := by decide +kernel
theorem dX0_search_22 : decode cX0_search 22 = .ok (.getfield 26, 3) := by decide +kernel
theorem dX0_search_25 : decode cX0_search 25 = .ok (.iload_n 2, 1) := by decide +kernel
theorem dX0_search_26 : decode cX0_search 26 = .ok (.invokevirtual 31, 3) := by decide +kernel
theorem dX0_search_29 : decode cX0_search 29 = .ok (.iinc 2 1, 3) := by decide +kernel
theorem dX0_search_32 : decode cX0_search 32 = .ok (.goto (-24), 3) := by decide +kernel
theorem dX0_search_35 : decode cX0_search 35 = .ok (.return_, 1) := by decide +kernel
theorem dX0_unbend_0 : decode cX0_unbend 0 = .ok (.aload_n 0, 1) := by decide +kernel
theorem dX0_unbend_1 : decode cX0_unbend 1 = .ok (.getfield 9, 3) := by decide +kernel
theorem dX0_unbend_4 : decode cX0_unbend 4 = .ok (.iconst 0, 1) := by decide +kernel
theorem dX0_unbend_5 : decode cX0_unbend 5 = .ok (.invokestatic 35, 3) := by decide +kernel
theorem dX0_unbend_8 : decode cX0_unbend 8 = .ok (.iconst 0, 1) := by decide +kernel
theorem dX0_unbend_9 : decode cX0_unbend 9 = .ok (.istore_n 3, 1) := by decide +kernel
theorem dX0_unbend_10 : decode cX0_unbend 10 = .ok (.iload_n 3, 1) := by decide +kernel
theorem dX0_unbend_11 : decode cX0_unbend 11 = .ok (.aload_n 1, 1) := by decide +kernel
theorem dX0_unbend_12 : decode cX0_unbend 12 = .ok (.getfield 26, 3) := by decide +kernel
theorem dX0_unbend_15 : decode cX0_unbend 15 = .ok (.if_icmp .ge 41, 3) := by decide +kernel
theorem dX0_unbend_18 : decode cX0_unbend 18 = .ok (.aload_n 1, 1) := by decide +kernel
theorem dX0_unbend_19 : decode cX0_unbend 19 = .ok (.iload_n 3, 1) := by decide +kernel
theorem dX0_unbend_20 : decode cX0_unbend 20 = .ok (.invokevirtual 41, 3) := by decide +kernel
theorem dX0_unbend_23 : decode cX0_unbend 23 = .ok (.bipush 60, 2) := by decide +kernel
theorem dX0_unbend_25 : decode cX0_unbend 25 = .ok (.invokestatic 45, 3) := by decide +kernel
theorem dX0_unbend_28 : decode cX0_unbend 28 = .ok (.istore 4, 2) := by decide +kernel
theorem dX0_unbend_30 : decode cX0_unbend 30 = .ok (.aload_n 0, 1) := by decide +kernel
theorem dX0_unbend_31 : decode cX0_unbend 31 = .ok (.getfield 9, 3) := by decide +kernel
theorem dX0_unbend_34 : decode cX0_unbend 34 = .ok (.iload 4, 2) := by decide +kernel
theorem dX0_unbend_36 : decode cX0_unbend 36 = .ok (.iload_n 2, 1) := by decide +kernel
theorem dX0_unbend_37 : decode cX0_unbend 37 = .ok (.iload_n 3, 1) := by decide +kernel
theorem dX0_unbend_38 : decode cX0_unbend 38 = .ok (.imul, 1) := by decide +kernel
theorem dX0_unbend_39 : decode cX0_unbend 39 = .ok (.isub, 1) := by decide +kernel
theorem dX0_unbend_40 : decode cX0_unbend 40 = .ok (.bipush 60, 2) := by decide +kernel
theorem dX0_unbend_42 : decode cX0_unbend 42 = .ok (.invokestatic 45, 3) := by decide +kernel
theorem dX0_unbend_45 : decode cX0_unbend 45 = .ok (.dup2, 1) := by decide +kernel
theorem dX0_unbend_46 : decode cX0_unbend 46 = .ok (.iaload, 1) := by decide +kernel
theorem dX0_unbend_47 : decode cX0_unbend 47 = .ok (.iconst 1, 1) := by decide +kernel
theorem dX0_unbend_48 : decode cX0_unbend 48 = .ok (.iadd, 1) := by decide +kernel
theorem dX0_unbend_49 : decode cX0_unbend 49 = .ok (.iastore, 1) := by decide +kernel
theorem dX0_unbend_50 : decode cX0_unbend 50 = .ok (.iinc 3 1, 3) := by decide +kernel
theorem dX0_unbend_53 : decode cX0_unbend 53 = .ok (.goto (-43), 3) := by decide +kernel
theorem dX0_unbend_56 : decode cX0_unbend 56 = .ok (.return_, 1) := by decide +kernel
theorem dX0_weighStarts_0 : decode cX0_weighStarts 0 = .ok (.aload_n 0, 1) := by decide +kernel
theorem dX0_weighStarts_1 : decode cX0_weighStarts 1 = .ok (.invokevirtual 51, 3) := by decide +kernel
theorem dX0_weighStarts_4 : decode cX0_weighStarts 4 = .ok (.istore_n 3, 1) := by decide +kernel
theorem dX0_weighStarts_5 : decode cX0_weighStarts 5 = .ok (.aload_n 0, 1) := by decide +kernel
theorem dX0_weighStarts_6 : decode cX0_weighStarts 6 = .ok (.invokevirtual 55, 3) := by decide +kernel
theorem dX0_weighStarts_9 : decode cX0_weighStarts 9 = .ok (.istore 4, 2) := by decide +kernel
theorem dX0_weighStarts_11 : decode cX0_weighStarts 11 = .ok (.iconst 0, 1) := by decide +kernel
theorem dX0_weighStarts_12 : decode cX0_weighStarts 12 = .ok (.istore 5, 2) := by decide +kernel
theorem dX0_weighStarts_14 : decode cX0_weighStarts 14 = .ok (.iload 5, 2) := by decide +kernel
theorem dX0_weighStarts_16 : decode cX0_weighStarts 16 = .ok (.bipush 60, 2) := by decide +kernel
theorem dX0_weighStarts_18 : decode cX0_weighStarts 18 = .ok (.if_icmp .ge 74, 3) := by decide +kernel
theorem dX0_weighStarts_21 : decode cX0_weighStarts 21 = .ok (.iload 4, 2) := by decide +kernel
theorem dX0_weighStarts_23 : decode cX0_weighStarts 23 = .ok (.aload_n 0, 1) := by decide +kernel
theorem dX0_weighStarts_24 : decode cX0_weighStarts 24 = .ok (.getfield 18, 3) := by decide +kernel
theorem dX0_weighStarts_27 : decode cX0_weighStarts 27 = .ok (.if_icmp .ge 20, 3) := by decide +kernel
theorem dX0_weighStarts_30 : decode cX0_weighStarts 30 = .ok (.aload_n 0, 1) := by decide +kernel
theorem dX0_weighStarts_31 : decode cX0_weighStarts 31 = .ok (.iload 4, 2) := by decide +kernel
theorem dX0_weighStarts_33 : decode cX0_weighStarts 33 = .ok (.putfield 18, 3) := by decide +kernel
theorem dX0_weighStarts_36 : decode cX0_weighStarts 36 = .ok (.aload_n 0, 1) := by decide +kernel
theorem dX0_weighStarts_37 : decode cX0_weighStarts 37 = .ok (.iload_n 2, 1) := by decide +kernel
theorem dX0_weighStarts_38 : decode cX0_weighStarts 38 = .ok (.putfield 58, 3) := by decide +kernel
theorem dX0_weighStarts_41 : decode cX0_weighStarts 41 = .ok (.aload_n 0, 1) := by decide +kernel
theorem dX0_weighStarts_42 : decode cX0_weighStarts 42 = .ok (.iload 5, 2) := by decide +kernel
theorem dX0_weighStarts_44 : decode cX0_weighStarts 44 = .ok (.putfield 61, 3) := by decide +kernel
theorem dX0_weighStarts_47 : decode cX0_weighStarts 47 = .ok (.iload 4, 2) := by decide +kernel
theorem dX0_weighStarts_49 : decode cX0_weighStarts 49 = .ok (.iload_n 1, 1) := by decide +kernel
theorem dX0_weighStarts_50 : decode cX0_weighStarts 50 = .ok (.iconst 2, 1) := by decide +kernel
theorem dX0_weighStarts_51 : decode cX0_weighStarts 51 = .ok (.iload_n 3, 1) := by decide +kernel
theorem dX0_weighStarts_52 : decode cX0_weighStarts 52 = .ok (.imul, 1) := by decide +kernel
theorem dX0_weighStarts_53 : decode cX0_weighStarts 53 = .ok (.isub, 1) := by decide +kernel
theorem dX0_weighStarts_54 : decode cX0_weighStarts 54 = .ok (.iadd, 1) := by decide +kernel
theorem dX0_weighStarts_55 : decode cX0_weighStarts 55 = .ok (.istore 4, 2) := by decide +kernel
theorem dX0_weighStarts_57 : decode cX0_weighStarts 57 = .ok (.iload_n 3, 1) := by decide +kernel
theorem dX0_weighStarts_58 : decode cX0_weighStarts 58 = .ok (.aload_n 0, 1) := by decide +kernel
theorem dX0_weighStarts_59 : decode cX0_weighStarts 59 = .ok (.getfield 9, 3) := by decide +kernel
theorem dX0_weighStarts_62 : decode cX0_weighStarts 62 = .ok (.iload 5, 2) := by decide +kernel
theorem dX0_weighStarts_64 : decode cX0_weighStarts 64 = .ok (.bipush 31, 2) := by decide +kernel
theorem dX0_weighStarts_66 : decode cX0_weighStarts 66 = .ok (.iadd, 1) := by decide +kernel
theorem dX0_weighStarts_67 : decode cX0_weighStarts 67 = .ok (.bipush 60, 2) := by decide +kernel
theorem dX0_weighStarts_69 : decode cX0_weighStarts 69 = .ok (.irem, 1) := by decide +kernel
theorem dX0_weighStarts_70 : decode cX0_weighStarts 70 = .ok (.iaload, 1) := by decide +kernel
theorem dX0_weighStarts_71 : decode cX0_weighStarts 71 = .ok (.aload_n 0, 1) := by decide +kernel
theorem dX0_weighStarts_72 : decode cX0_weighStarts 72 = .ok (.getfield 9, 3) := by decide +kernel
theorem dX0_weighStarts_75 : decode cX0_weighStarts 75 = .ok (.iload 5, 2) := by decide +kernel
theorem dX0_weighStarts_77 : decode cX0_weighStarts 77 = .ok (.iconst 1, 1) := by decide +kernel
theorem dX0_weighStarts_78 : decode cX0_weighStarts 78 = .ok (.iadd, 1) := by decide +kernel
theorem dX0_weighStarts_79 : decode cX0_weighStarts 79 = .ok (.bipush 60, 2) := by decide +kernel
theorem dX0_weighStarts_81 : decode cX0_weighStarts 81 = .ok (.irem, 1) := by decide +kernel
theorem dX0_weighStarts_82 : decode cX0_weighStarts 82 = .ok (.iaload, 1) := by decide +kernel
theorem dX0_weighStarts_83 : decode cX0_weighStarts 83 = .ok (.isub, 1) := by decide +kernel
theorem dX0_weighStarts_84 : decode cX0_weighStarts 84 = .ok (.iadd, 1) := by decide +kernel
theorem dX0_weighStarts_85 : decode cX0_weighStarts 85 = .ok (.istore_n 3, 1) := by decide +kernel
theorem dX0_weighStarts_86 : decode cX0_weighStarts 86 = .ok (.iinc 5 1, 3) := by decide +kernel
theorem dX0_weighStarts_89 : decode cX0_weighStarts 89 = .ok (.goto (-75), 3) := by decide +kernel
theorem dX0_weighStarts_92 : decode cX0_weighStarts 92 = .ok (.return_, 1) := by decide +kernel
theorem dX0_rowsAhead_0 : decode cX0_rowsAhead 0 = .ok (.iconst 0, 1) := by decide +kernel
theorem dX0_rowsAhead_1 : decode cX0_rowsAhead 1 = .ok (.istore_n 1, 1) := by decide +kernel
theorem dX0_rowsAhead_2 : decode cX0_rowsAhead 2 = .ok (.iconst 1, 1) := by decide +kernel
theorem dX0_rowsAhead_3 : decode cX0_rowsAhead 3 = .ok (.istore_n 2, 1) := by decide +kernel
theorem dX0_rowsAhead_4 : decode cX0_rowsAhead 4 = .ok (.iload_n 2, 1) := by decide +kernel
theorem dX0_rowsAhead_5 : decode cX0_rowsAhead 5 = .ok (.bipush 30, 2) := by decide +kernel
theorem dX0_rowsAhead_7 : decode cX0_rowsAhead 7 = .ok (.if_icmp .gt 18, 3) := by decide +kernel
theorem dX0_rowsAhead_10 : decode cX0_rowsAhead 10 = .ok (.iload_n 1, 1) := by decide +kernel
theorem dX0_rowsAhead_11 : decode cX0_rowsAhead 11 = .ok (.aload_n 0, 1) := by decide +kernel
theorem dX0_rowsAhead_12 : decode cX0_rowsAhead 12 = .ok (.getfield 9, 3) := by decide +kernel
theorem dX0_rowsAhead_15 : decode cX0_rowsAhead 15 = .ok (.iload_n 2, 1) := by decide +kernel
theorem dX0_rowsAhead_16 : decode cX0_rowsAhead 16 = .ok (.iaload, 1) := by decide +kernel
theorem dX0_rowsAhead_17 : decode cX0_rowsAhead 17 = .ok (.iadd, 1) := by decide +kernel
theorem dX0_rowsAhead_18 : decode cX0_rowsAhead 18 = .ok (.istore_n 1, 1) := by decide +kernel
theorem dX0_rowsAhead_19 : decode cX0_rowsAhead 19 = .ok (.iinc 2 1, 3) := by decide +kernel
theorem dX0_rowsAhead_22 : decode cX0_rowsAhead 22 = .ok (.goto (-18), 3) := by decide +kernel
theorem dX0_rowsAhead_25 : decode cX0_rowsAhead 25 = .ok (.iload_n 1, 1) := by decide +kernel
theorem dX0_rowsAhead_26 : decode cX0_rowsAhead 26 = .ok (.ireturn, 1) := by decide +kernel
theorem dX0_sumFromZero_0 : decode cX0_sumFromZero 0 = .ok (.iconst 0, 1) := by decide +kernel
theorem dX0_sumFromZero_1 : decode cX0_sumFromZero 1 = .ok (.istore_n 1, 1) := by decide +kernel
theorem dX0_sumFromZero_2 : decode cX0_sumFromZero 2 = .ok (.iconst 0, 1) := by decide +kernel
theorem dX0_sumFromZero_3 : decode cX0_sumFromZero 3 = .ok (.istore_n 2, 1) := by decide +kernel
theorem dX0_sumFromZero_4 : decode cX0_sumFromZero 4 = .ok (.iload_n 2, 1) := by decide +kernel
theorem dX0_sumFromZero_5 : decode cX0_sumFromZero 5 = .ok (.bipush 60, 2) := by decide +kernel
theorem dX0_sumFromZero_7 : decode cX0_sumFromZero 7 = .ok (.if_icmp .ge 27, 3) := by decide +kernel
theorem dX0_sumFromZero_10 : decode cX0_sumFromZero 10 = .ok (.iload_n 1, 1) := by decide +kernel
theorem dX0_sumFromZero_11 : decode cX0_sumFromZero 11 = .ok (.aload_n 0, 1) := by decide +kernel
theorem dX0_sumFromZero_12 : decode cX0_sumFromZero 12 = .ok (.getfield 9, 3) := by decide +kernel
theorem dX0_sumFromZero_15 : decode cX0_sumFromZero 15 = .ok (.iload_n 2, 1) := by decide +kernel
theorem dX0_sumFromZero_16 : decode cX0_sumFromZero 16 = .ok (.iaload, 1) := by decide +kernel
theorem dX0_sumFromZero_17 : decode cX0_sumFromZero 17 = .ok (.iload_n 2, 1) := by decide +kernel
theorem dX0_sumFromZero_18 : decode cX0_sumFromZero 18 = .ok (.bipush 60, 2) := by decide +kernel
theorem dX0_sumFromZero_20 : decode cX0_sumFromZero 20 = .ok (.iload_n 2, 1) := by decide +kernel
theorem dX0_sumFromZero_21 : decode cX0_sumFromZero 21 = .ok (.isub, 1) := by decide +kernel
theorem dX0_sumFromZero_22 : decode cX0_sumFromZero 22 = .ok (.invokestatic 64, 3) := by decide +kernel
theorem dX0_sumFromZero_25 : decode cX0_sumFromZero 25 = .ok (.imul, 1) := by decide +kernel
theorem dX0_sumFromZero_26 : decode cX0_sumFromZero 26 = .ok (.iadd, 1) := by decide +kernel
theorem dX0_sumFromZero_27 : decode cX0_sumFromZero 27 = .ok (.istore_n 1, 1) := by decide +kernel
theorem dX0_sumFromZero_28 : decode cX0_sumFromZero 28 = .ok (.iinc 2 1, 3) := by decide +kernel
theorem dX0_sumFromZero_31 : decode cX0_sumFromZero 31 = .ok (.goto (-27), 3) := by decide +kernel
theorem dX0_sumFromZero_34 : decode cX0_sumFromZero 34 = .ok (.iload_n 1, 1) := by decide +kernel
theorem dX0_sumFromZero_35 : decode cX0_sumFromZero 35 = .ok (.ireturn, 1) := by decide +kernel
theorem dX1_stands_0 : decode cX1_stands 0 = .ok (.iload_n 0, 1) := by decide +kernel
theorem dX1_stands_1 : decode cX1_stands 1 = .ok (.iconst 1, 1) := by decide +kernel
theorem dX1_stands_2 : decode cX1_stands 2 = .ok (.bipush 24, 2) := by decide +kernel
theorem dX1_stands_4 : decode cX1_stands 4 = .ok (.invokestatic 9, 3) := by decide +kernel
theorem dX1_stands_7 : decode cX1_stands 7 = .ok (.ifCond .eq 17, 3) := by decide +kernel
theorem dX1_stands_10 : decode cX1_stands 10 = .ok (.iload_n 1, 1) := by decide +kernel
theorem dX1_stands_11 : decode cX1_stands 11 = .ok (.iconst 1, 1) := by decide +kernel
theorem dX1_stands_12 : decode cX1_stands 12 = .ok (.bipush 24, 2) := by decide +kernel
theorem dX1_stands_14 : decode cX1_stands 14 = .ok (.invokestatic 9, 3) := by decide +kernel
theorem dX1_stands_17 : decode cX1_stands 17 = .ok (.ifCond .eq 7, 3) := by decide +kernel
theorem dX1_stands_20 : decode cX1_stands 20 = .ok (.iconst 1, 1) := by decide +kernel
theorem dX1_stands_21 : decode cX1_stands 21 = .ok (.goto 4, 3) := by decide +kernel
theorem dX1_stands_24 : decode cX1_stands 24 = .ok (.iconst 0, 1) := by decide +kernel
theorem dX1_stands_25 : decode cX1_stands 25 = .ok (.ireturn, 1) := by decide +kernel
theorem dX1_advanceOf_0 : decode cX1_advanceOf 0 = .ok (.iload_n 1, 1) := by decide +kernel
theorem dX1_advanceOf_1 : decode cX1_advanceOf 1 = .ok (.iload_n 0, 1) := by decide +kernel
theorem dX1_advanceOf_2 : decode cX1_advanceOf 2 = .ok (.invokestatic 13, 3) := by decide +kernel
theorem dX1_advanceOf_5 : decode cX1_advanceOf 5 = .ok (.ireturn, 1) := by decide +kernel
theorem dX1_driftAbove_0 : decode cX1_driftAbove 0 = .ok (.iload_n 1, 1) := by decide +kernel
theorem dX1_driftAbove_1 : decode cX1_driftAbove 1 = .ok (.iload_n 0, 1) := by decide +kernel
theorem dX1_driftAbove_2 : decode cX1_driftAbove 2 = .ok (.iload_n 1, 1) := by decide +kernel
theorem dX1_driftAbove_3 : decode cX1_driftAbove 3 = .ok (.invokestatic 19, 3) := by decide +kernel
theorem dX1_driftAbove_6 : decode cX1_driftAbove 6 = .ok (.iload_n 0, 1) := by decide +kernel
theorem dX1_driftAbove_7 : decode cX1_driftAbove 7 = .ok (.imul, 1) := by decide +kernel
theorem dX1_driftAbove_8 : decode cX1_driftAbove 8 = .ok (.isub, 1) := by decide +kernel
theorem dX1_driftAbove_9 : decode cX1_driftAbove 9 = .ok (.ireturn, 1) := by decide +kernel
theorem dX1_seemingOf_0 : decode cX1_seemingOf 0 = .ok (.iload_n 0, 1) := by decide +kernel
theorem dX1_seemingOf_1 : decode cX1_seemingOf 1 = .ok (.iload_n 1, 1) := by decide +kernel
theorem dX1_seemingOf_2 : decode cX1_seemingOf 2 = .ok (.invokestatic 24, 3) := by decide +kernel
theorem dX1_seemingOf_5 : decode cX1_seemingOf 5 = .ok (.istore_n 2, 1) := by decide +kernel
theorem dX1_seemingOf_6 : decode cX1_seemingOf 6 = .ok (.iload_n 2, 1) := by decide +kernel
theorem dX1_seemingOf_7 : decode cX1_seemingOf 7 = .ok (.ifCond .eq 13, 3) := by decide +kernel
theorem dX1_seemingOf_10 : decode cX1_seemingOf 10 = .ok (.iload_n 2, 1) := by decide +kernel
theorem dX1_seemingOf_11 : decode cX1_seemingOf 11 = .ok (.ifCond .le 7, 3) := by decide +kernel
theorem dX1_seemingOf_14 : decode cX1_seemingOf 14 = .ok (.iconst 2, 1) := by decide +kernel
theorem dX1_seemingOf_15 : decode cX1_seemingOf 15 = .ok (.goto 4, 3) := by decide +kernel
theorem dX1_seemingOf_18 : decode cX1_seemingOf 18 = .ok (.iconst 3, 1) := by decide +kernel
theorem dX1_seemingOf_19 : decode cX1_seemingOf 19 = .ok (.ireturn, 1) := by decide +kernel
theorem dX1_seemingOf_20 : decode cX1_seemingOf 20 = .ok (.iload_n 0, 1) := by decide +kernel
theorem dX1_seemingOf_21 : decode cX1_seemingOf 21 = .ok (.iload_n 1, 1) := by decide +kernel
theorem dX1_seemingOf_22 : decode cX1_seemingOf 22 = .ok (.iconst 1, 1) := by decide +kernel
theorem dX1_seemingOf_23 : decode cX1_seemingOf 23 = .ok (.invokestatic 27, 3) := by decide +kernel
theorem dX1_seemingOf_26 : decode cX1_seemingOf 26 = .ok (.ifCond .ne 7, 3) := by decide +kernel
theorem dX1_seemingOf_29 : decode cX1_seemingOf 29 = .ok (.iconst 0, 1) := by decide +kernel
theorem dX1_seemingOf_30 : decode cX1_seemingOf 30 = .ok (.goto 4, 3) := by decide +kernel
theorem dX1_seemingOf_33 : decode cX1_seemingOf 33 = .ok (.iconst 1, 1) := by decide +kernel
theorem dX1_seemingOf_34 : decode cX1_seemingOf 34 = .ok (.ireturn, 1) := by decide +kernel
theorem dX1_pictureAt_0 : decode cX1_pictureAt 0 = .ok (.iload_n 1, 1) := by decide +kernel
theorem dX1_pictureAt_1 : decode cX1_pictureAt 1 = .ok (.iconst 1, 1) := by decide +kernel
theorem dX1_pictureAt_2 : decode cX1_pictureAt 2 = .ok (.if_icmp .ge 7, 3) := by decide +kernel
theorem dX1_pictureAt_5 : decode cX1_pictureAt 5 = .ok (.iconst 0, 1) := by decide +kernel
theorem dX1_pictureAt_6 : decode cX1_pictureAt 6 = .ok (.goto 12, 3) := by decide +kernel
theorem dX1_pictureAt_9 : decode cX1_pictureAt 9 = .ok (.iload_n 2, 1) := by decide +kernel
theorem dX1_pictureAt_10 : decode cX1_pictureAt 10 = .ok (.iload_n 0, 1) := by decide +kernel
theorem dX1_pictureAt_11 : decode cX1_pictureAt 11 = .ok (.iload_n 1, 1) := by decide +kernel
theorem dX1_pictureAt_12 : decode cX1_pictureAt 12 = .ok (.invokestatic 19, 3) := by decide +kernel
theorem dX1_pictureAt_15 : decode cX1_pictureAt 15 = .ok (.imul, 1) := by decide +kernel
theorem dX1_pictureAt_16 : decode cX1_pictureAt 16 = .ok (.iload_n 1, 1) := by decide +kernel
theorem dX1_pictureAt_17 : decode cX1_pictureAt 17 = .ok (.irem, 1) := by decide +kernel
theorem dX1_pictureAt_18 : decode cX1_pictureAt 18 = .ok (.ireturn, 1) := by decide +kernel
theorem dX1_looksRound_0 : decode cX1_looksRound 0 = .ok (.iload_n 1, 1) := by decide +kernel
theorem dX1_looksRound_1 : decode cX1_looksRound 1 = .ok (.iload_n 0, 1) := by decide +kernel
theorem dX1_looksRound_2 : decode cX1_looksRound 2 = .ok (.iload_n 1, 1) := by decide +kernel
theorem dX1_looksRound_3 : decode cX1_looksRound 3 = .ok (.invokestatic 19, 3) := by decide +kernel
theorem dX1_looksRound_6 : decode cX1_looksRound 6 = .ok (.invokestatic 31, 3) := by decide +kernel
theorem dX1_looksRound_9 : decode cX1_looksRound 9 = .ok (.istore_n 2, 1) := by decide +kernel
theorem dX1_looksRound_10 : decode cX1_looksRound 10 = .ok (.iload_n 2, 1) := by decide +kernel
theorem dX1_looksRound_11 : decode cX1_looksRound 11 = .ok (.iconst 1, 1) := by decide +kernel
theorem dX1_looksRound_12 : decode cX1_looksRound 12 = .ok (.if_icmp .ge 7, 3) := by decide +kernel
theorem dX1_looksRound_15 : decode cX1_looksRound 15 = .ok (.iconst 1, 1) := by decide +kernel
theorem dX1_looksRound_16 : decode cX1_looksRound 16 = .ok (.goto 6, 3) := by decide +kernel
theorem dX1_looksRound_19 : decode cX1_looksRound 19 = .ok (.iload_n 1, 1) := by decide +kernel
theorem dX1_looksRound_20 : decode cX1_looksRound 20 = .ok (.iload_n 2, 1) := by decide +kernel
theorem dX1_looksRound_21 : decode cX1_looksRound 21 = .ok (.idiv, 1) := by decide +kernel
theorem dX1_looksRound_22 : decode cX1_looksRound 22 = .ok (.ireturn, 1) := by decide +kernel
theorem dX1_pairs_0 : decode cX1_pairs 0 = .ok (.iconst 0, 1) := by decide +kernel
theorem dX1_pairs_1 : decode cX1_pairs 1 = .ok (.istore_n 3, 1) := by decide +kernel
theorem dX1_pairs_2 : decode cX1_pairs 2 = .ok (.iconst 1, 1) := by decide +kernel
theorem dX1_pairs_3 : decode cX1_pairs 3 = .ok (.istore 4, 2) := by decide +kernel
theorem dX1_pairs_5 : decode cX1_pairs 5 = .ok (.iload 4, 2) := by decide +kernel
theorem dX1_pairs_7 : decode cX1_pairs 7 = .ok (.bipush 24, 2) := by decide +kernel
theorem dX1_pairs_9 : decode cX1_pairs 9 = .ok (.if_icmp .gt 64, 3) := by decide +kernel
theorem dX1_pairs_12 : decode cX1_pairs 12 = .ok (.iconst 1, 1) := by decide +kernel
theorem dX1_pairs_13 : decode cX1_pairs 13 = .ok (.istore 5, 2) := by decide +kernel
theorem dX1_pairs_15 : decode cX1_pairs 15 = .ok (.iload 5, 2) := by decide +kernel
theorem dX1_pairs_17 : decode cX1_pairs 17 = .ok (.bipush 24, 2) := by decide +kernel
theorem dX1_pairs_19 : decode cX1_pairs 19 = .ok (.if_icmp .gt 48, 3) := by decide +kernel
theorem dX1_pairs_22 : decode cX1_pairs 22 = .ok (.iload 4, 2) := by decide +kernel
theorem dX1_pairs_24 : decode cX1_pairs 24 = .ok (.iload 5, 2) := by decide +kernel
theorem dX1_pairs_26 : decode cX1_pairs 26 = .ok (.invokestatic 19, 3) := by decide +kernel
theorem dX1_pairs_29 : decode cX1_pairs 29 = .ok (.iload_n 0, 1) := by decide +kernel
theorem dX1_pairs_30 : decode cX1_pairs 30 = .ok (.if_icmp .ne 31, 3) := by decide +kernel
theorem dX1_pairs_33 : decode cX1_pairs 33 = .ok (.iload 4, 2) := by decide +kernel
theorem dX1_pairs_35 : decode cX1_pairs 35 = .ok (.iload 5, 2) := by decide +kernel
theorem dX1_pairs_37 : decode cX1_pairs 37 = .ok (.invokestatic 34, 3) := by decide +kernel
theorem dX1_pairs_40 : decode cX1_pairs 40 = .ok (.iload_n 1, 1) := by decide +kernel
theorem dX1_pairs_41 : decode cX1_pairs 41 = .ok (.if_icmp .ne 20, 3) := by decide +kernel
theorem dX1_pairs_44 : decode cX1_pairs 44 = .ok (.iload_n 3, 1) := by decide +kernel
theorem dX1_pairs_45 : decode cX1_pairs 45 = .ok (.iload_n 2, 1) := by decide +kernel
theorem dX1_pairs_46 : decode cX1_pairs 46 = .ok (.if_icmp .ne 12, 3) := by decide +kernel
theorem dX1_pairs_49 : decode cX1_pairs 49 = .ok (.bipush 100, 2) := by decide +kernel
theorem dX1_pairs_51 : decode cX1_pairs 51 = .ok (.iload 4, 2) := by decide +kernel
theorem dX1_pairs_53 : decode cX1_pairs 53 = .ok (.imul, 1) := by decide +kernel
theorem dX1_pairs_54 : decode cX1_pairs 54 = .ok (.iload 5, 2) := by decide +kernel
theorem dX1_pairs_56 : decode cX1_pairs 56 = .ok (.iadd, 1) := by decide +kernel
theorem dX1_pairs_57 : decode cX1_pairs 57 = .ok (.ireturn, 1) := by decide +kernel
theorem dX1_pairs_58 : decode cX1_pairs 58 = .ok (.iinc 3 1, 3) := by decide +kernel
theorem dX1_pairs_61 : decode cX1_pairs 61 = .ok (.iinc 5 1, 3) := by decide +kernel
theorem dX1_pairs_64 : decode cX1_pairs 64 = .ok (.goto (-49), 3) := by decide +kernel
theorem dX1_pairs_67 : decode cX1_pairs 67 = .ok (.iinc 4 1, 3) := by decide +kernel
theorem dX1_pairs_70 : decode cX1_pairs 70 = .ok (.goto (-65), 3) := by decide +kernel
theorem dX1_pairs_73 : decode cX1_pairs 73 = .ok (.iload_n 2, 1) := by decide +kernel
theorem dX1_pairs_74 : decode cX1_pairs 74 = .ok (.iconst (-1), 1) := by decide +kernel
theorem dX1_pairs_75 : decode cX1_pairs 75 = .ok (.if_icmp .ne 7, 3) := by decide +kernel
theorem dX1_pairs_78 : decode cX1_pairs 78 = .ok (.iload_n 3, 1) := by decide +kernel
theorem dX1_pairs_79 : decode cX1_pairs 79 = .ok (.goto 4, 3) := by decide +kernel
theorem dX1_pairs_82 : decode cX1_pairs 82 = .ok (.iconst (-1), 1) := by decide +kernel
theorem dX1_pairs_83 : decode cX1_pairs 83 = .ok (.ireturn, 1) := by decide +kernel
theorem dX2_told_0 : decode cX2_told 0 = .ok (.iload_n 0, 1) := by decide +kernel
theorem dX2_told_1 : decode cX2_told 1 = .ok (.invokestatic 7, 3) := by decide +kernel
theorem dX2_told_4 : decode cX2_told 4 = .ok (.iload_n 1, 1) := by decide +kernel
theorem dX2_told_5 : decode cX2_told 5 = .ok (.invokestatic 13, 3) := by decide +kernel
theorem dX2_told_8 : decode cX2_told 8 = .ok (.istore_n 3, 1) := by decide +kernel
theorem dX2_told_9 : decode cX2_told 9 = .ok (.iload_n 3, 1) := by decide +kernel
theorem dX2_told_10 : decode cX2_told 10 = .ok (.iconst 1, 1) := by decide +kernel
theorem dX2_told_11 : decode cX2_told 11 = .ok (.if_icmp .ge 5, 3) := by decide +kernel
theorem dX2_told_14 : decode cX2_told 14 = .ok (.iconst 0, 1) := by decide +kernel
theorem dX2_told_15 : decode cX2_told 15 = .ok (.ireturn, 1) := by decide +kernel
theorem dX2_told_16 : decode cX2_told 16 = .ok (.iload_n 2, 1) := by decide +kernel
theorem dX2_told_17 : decode cX2_told 17 = .ok (.ifCond .ne 9, 3) := by decide +kernel
theorem dX2_told_20 : decode cX2_told 20 = .ok (.iload_n 0, 1) := by decide +kernel
theorem dX2_told_21 : decode cX2_told 21 = .ok (.iload_n 3, 1) := by decide +kernel
theorem dX2_told_22 : decode cX2_told 22 = .ok (.idiv, 1) := by decide +kernel
theorem dX2_told_23 : decode cX2_told 23 = .ok (.goto 6, 3) := by decide +kernel
theorem dX2_told_26 : decode cX2_told 26 = .ok (.iload_n 1, 1) := by decide +kernel
theorem dX2_told_27 : decode cX2_told 27 = .ok (.iload_n 3, 1) := by decide +kernel
theorem dX2_told_28 : decode cX2_told 28 = .ok (.idiv, 1) := by decide +kernel
theorem dX2_told_29 : decode cX2_told 29 = .ok (.ireturn, 1) := by decide +kernel
theorem dX2_commonDivisor_0 : decode cX2_commonDivisor 0 = .ok (.iload_n 0, 1) := by decide +kernel
theorem dX2_commonDivisor_1 : decode cX2_commonDivisor 1 = .ok (.istore_n 2, 1) := by decide +kernel
theorem dX2_commonDivisor_2 : decode cX2_commonDivisor 2 = .ok (.iload_n 1, 1) := by decide +kernel
theorem dX2_commonDivisor_3 : decode cX2_commonDivisor 3 = .ok (.istore_n 3, 1) := by decide +kernel
theorem dX2_commonDivisor_4 : decode cX2_commonDivisor 4 = .ok (.iconst 0, 1) := by decide +kernel
theorem dX2_commonDivisor_5 : decode cX2_commonDivisor 5 = .ok (.istore 4, 2) := by decide +kernel
theorem dX2_commonDivisor_7 : decode cX2_commonDivisor 7 = .ok (.iload 4, 2) := by decide +kernel
theorem dX2_commonDivisor_9 : decode cX2_commonDivisor 9 = .ok (.bipush 64, 2) := by decide +kernel
theorem dX2_commonDivisor_11 : decode cX2_commonDivisor 11 = .ok (.if_icmp .ge 23, 3) := by decide +kernel
theorem dX2_commonDivisor_14 : decode cX2_commonDivisor 14 = .ok (.iload_n 3, 1) := by decide +kernel
theorem dX2_commonDivisor_15 : decode cX2_commonDivisor 15 = .ok (.ifCond .eq 19, 3) := by decide +kernel
theorem dX2_commonDivisor_18 : decode cX2_commonDivisor 18 = .ok (.iload_n 2, 1) := by decide +kernel
theorem dX2_commonDivisor_19 : decode cX2_commonDivisor 19 = .ok (.iload_n 3, 1) := by decide +kernel
theorem dX2_commonDivisor_20 : decode cX2_commonDivisor 20 = .ok (.irem, 1) := by decide +kernel
theorem dX2_commonDivisor_21 : decode cX2_commonDivisor 21 = .ok (.istore 5, 2) := by decide +kernel
theorem dX2_commonDivisor_23 : decode cX2_commonDivisor 23 = .ok (.iload_n 3, 1) := by decide +kernel
theorem dX2_commonDivisor_24 : decode cX2_commonDivisor 24 = .ok (.istore_n 2, 1) := by decide +kernel
theorem dX2_commonDivisor_25 : decode cX2_commonDivisor 25 = .ok (.iload 5, 2) := by decide +kernel
theorem dX2_commonDivisor_27 : decode cX2_commonDivisor 27 = .ok (.istore_n 3, 1) := by decide +kernel
theorem dX2_commonDivisor_28 : decode cX2_commonDivisor 28 = .ok (.iinc 4 1, 3) := by decide +kernel
theorem dX2_commonDivisor_31 : decode cX2_commonDivisor 31 = .ok (.goto (-24), 3) := by decide +kernel
theorem dX2_commonDivisor_34 : decode cX2_commonDivisor 34 = .ok (.iload_n 2, 1) := by decide +kernel
theorem dX2_commonDivisor_35 : decode cX2_commonDivisor 35 = .ok (.ireturn, 1) := by decide +kernel
theorem dX2_nearest_0 : decode cX2_nearest 0 = .ok (.iload_n 1, 1) := by decide +kernel
theorem dX2_nearest_1 : decode cX2_nearest 1 = .ok (.iconst 1, 1) := by decide +kernel
theorem dX2_nearest_2 : decode cX2_nearest 2 = .ok (.if_icmp .ge 7, 3) := by decide +kernel
theorem dX2_nearest_5 : decode cX2_nearest 5 = .ok (.iconst 0, 1) := by decide +kernel
theorem dX2_nearest_6 : decode cX2_nearest 6 = .ok (.goto 16, 3) := by decide +kernel
theorem dX2_nearest_9 : decode cX2_nearest 9 = .ok (.iconst 2, 1) := by decide +kernel
theorem dX2_nearest_10 : decode cX2_nearest 10 = .ok (.iload_n 0, 1) := by decide +kernel
theorem dX2_nearest_11 : decode cX2_nearest 11 = .ok (.imul, 1) := by decide +kernel
theorem dX2_nearest_12 : decode cX2_nearest 12 = .ok (.iload_n 1, 1) := by decide +kernel
theorem dX2_nearest_13 : decode cX2_nearest 13 = .ok (.iadd, 1) := by decide +kernel
theorem dX2_nearest_14 : decode cX2_nearest 14 = .ok (.iconst 1, 1) := by decide +kernel
theorem dX2_nearest_15 : decode cX2_nearest 15 = .ok (.isub, 1) := by decide +kernel
theorem dX2_nearest_16 : decode cX2_nearest 16 = .ok (.iconst 2, 1) := by decide +kernel
theorem dX2_nearest_17 : decode cX2_nearest 17 = .ok (.iload_n 1, 1) := by decide +kernel
theorem dX2_nearest_18 : decode cX2_nearest 18 = .ok (.imul, 1) := by decide +kernel
theorem dX2_nearest_19 : decode cX2_nearest 19 = .ok (.invokestatic 19, 3) := by decide +kernel
theorem dX2_nearest_22 : decode cX2_nearest 22 = .ok (.ireturn, 1) := by decide +kernel
theorem dX3_init_0 : decode cX3_init 0 = .ok (.aload_n 0, 1) := by decide +kernel
theorem dX3_init_1 : decode cX3_init 1 = .ok (.invokespecial 3, 3) := by decide +kernel
theorem dX3_init_4 : decode cX3_init 4 = .ok (.aload_n 0, 1) := by decide +kernel
theorem dX3_init_5 : decode cX3_init 5 = .ok (.bipush 36, 2) := by decide +kernel
theorem dX3_init_7 : decode cX3_init 7 = .ok (.newarray .int, 2) := by decide +kernel
theorem dX3_init_9 : decode cX3_init 9 = .ok (.putfield 9, 3) := by decide +kernel
theorem dX3_init_12 : decode cX3_init 12 = .ok (.aload_n 0, 1) := by decide +kernel
theorem dX3_init_13 : decode cX3_init 13 = .ok (.bipush 36, 2) := by decide +kernel
theorem dX3_init_15 : decode cX3_init 15 = .ok (.newarray .int, 2) := by decide +kernel
theorem dX3_init_17 : decode cX3_init 17 = .ok (.putfield 15, 3) := by decide +kernel
theorem dX3_init_20 : decode cX3_init 20 = .ok (.aload_n 0, 1) := by decide +kernel
theorem dX3_init_21 : decode cX3_init 21 = .ok (.bipush 64, 2) := by decide +kernel
theorem dX3_init_23 : decode cX3_init 23 = .ok (.newarray .int, 2) := by decide +kernel
theorem dX3_init_25 : decode cX3_init 25 = .ok (.putfield 18, 3) := by decide +kernel
theorem dX3_init_28 : decode cX3_init 28 = .ok (.aload_n 0, 1) := by decide +kernel
theorem dX3_init_29 : decode cX3_init 29 = .ok (.bipush 64, 2) := by decide +kernel
theorem dX3_init_31 : decode cX3_init 31 = .ok (.newarray .int, 2) := by decide +kernel
theorem dX3_init_33 : decode cX3_init 33 = .ok (.putfield 21, 3) := by decide +kernel
theorem dX3_init_36 : decode cX3_init 36 = .ok (.aload_n 0, 1) := by decide +kernel
theorem dX3_init_37 : decode cX3_init 37 = .ok (.bipush 64, 2) := by decide +kernel
theorem dX3_init_39 : decode cX3_init 39 = .ok (.newarray .int, 2) := by decide +kernel
theorem dX3_init_41 : decode cX3_init 41 = .ok (.putfield 24, 3) := by decide +kernel
theorem dX3_init_44 : decode cX3_init 44 = .ok (.aload_n 0, 1) := by decide +kernel
theorem dX3_init_45 : decode cX3_init 45 = .ok (.bipush 64, 2) := by decide +kernel
theorem dX3_init_47 : decode cX3_init 47 = .ok (.newarray .int, 2) := by decide +kernel
theorem dX3_init_49 : decode cX3_init 49 = .ok (.putfield 27, 3) := by decide +kernel
theorem dX3_init_52 : decode cX3_init 52 = .ok (.aload_n 0, 1) := by decide +kernel
theorem dX3_init_53 : decode cX3_init 53 = .ok (.bipush 6, 2) := by decide +kernel
theorem dX3_init_55 : decode cX3_init 55 = .ok (.newarray .int, 2) := by decide +kernel
theorem dX3_init_57 : decode cX3_init 57 = .ok (.putfield 30, 3) := by decide +kernel
theorem dX3_init_60 : decode cX3_init 60 = .ok (.return_, 1) := by decide +kernel
theorem dX3_search_0 : decode cX3_search 0 = .ok (.aload_n 2, 1) := by decide +kernel
theorem dX3_search_1 : decode cX3_search 1 = .ok (.getfield 33, 3) := by decide +kernel
theorem dX3_search_4 : decode cX3_search 4 = .ok (.aload_n 1, 1) := by decide +kernel
theorem dX3_search_5 : decode cX3_search 5 = .ok (.getfield 33, 3) := by decide +kernel
theorem dX3_search_8 : decode cX3_search 8 = .ok (.if_icmp .ge 7, 3) := by decide +kernel
theorem dX3_search_11 : decode cX3_search 11 = .ok (.iconst 1, 1) := by decide +kernel
theorem dX3_search_12 : decode cX3_search 12 = .ok (.goto 4, 3) := by decide +kernel
theorem dX3_search_15 : decode cX3_search 15 = .ok (.iconst 0, 1) := by decide +kernel
theorem dX3_search_16 : decode cX3_search 16 = .ok (.istore 4, 2) := by decide +kernel
theorem dX3_search_18 : decode cX3_search 18 = .ok (.aload_n 0, 1) := by decide +kernel
theorem dX3_search_19 : decode cX3_search 19 = .ok (.iload 4, 2) := by decide +kernel
theorem dX3_search_21 : decode cX3_search 21 = .ok (.ifCond .eq 7, 3) := by decide +kernel
theorem dX3_search_24 : decode cX3_search 24 = .ok (.aload_n 2, 1) := by decide +kernel
theorem dX3_search_25 : decode cX3_search 25 = .ok (.goto 4, 3) := by decide +kernel
theorem dX3_search_28 : decode cX3_search 28 = .ok (.aload_n 1, 1) := by decide +kernel
theorem dX3_search_29 : decode cX3_search 29 = .ok (.putfield 39, 3) := by decide +kernel
theorem dX3_search_32 : decode cX3_search 32 = .ok (.aload_n 0, 1) := by decide +kernel
theorem dX3_search_33 : decode cX3_search 33 = .ok (.aload_n 1, 1) := by decide +kernel
theorem dX3_search_34 : decode cX3_search 34 = .ok (.getfield 33, 3) := by decide +kernel
theorem dX3_search_37 : decode cX3_search 37 = .ok (.aload_n 2, 1) := by decide +kernel
theorem dX3_search_38 : decode cX3_search 38 = .ok (.getfield 33, 3) := by decide +kernel
theorem dX3_search_41 : decode cX3_search 41 = .ok (.invokestatic 43, 3) := by decide +kernel
theorem dX3_search_44 : decode cX3_search 44 = .ok (.bipush 6, 2) := by decide +kernel
theorem dX3_search_46 : decode cX3_search 46 = .ok (.invokestatic 43, 3) := by decide +kernel
theorem dX3_search_49 : decode cX3_search 49 = .ok (.putfield 49, 3) := by decide +kernel
theorem dX3_search_52 : decode cX3_search 52 = .ok (.aload_n 0, 1) := by decide +kernel
theorem dX3_search_53 : decode cX3_search 53 = .ok (.aload_n 1, 1) := by decide +kernel
theorem dX3_search_54 : decode cX3_search 54 = .ok (.getfield 33, 3) := by decide +kernel
theorem dX3_search_57 : decode cX3_search 57 = .ok (.aload_n 2, 1) := by decide +kernel
theorem dX3_search_58 : decode cX3_search 58 = .ok (.getfield 33, 3) := by decide +kernel
theorem dX3_search_61 : decode cX3_search 61 = .ok (.invokestatic 52, 3) := by decide +kernel
theorem dX3_search_64 : decode cX3_search 64 = .ok (.bipush 6, 2) := by decide +kernel
theorem dX3_search_66 : decode cX3_search 66 = .ok (.invokestatic 43, 3) := by decide +kernel
theorem dX3_search_69 : decode cX3_search 69 = .ok (.putfield 55, 3) := by decide +kernel
theorem dX3_search_72 : decode cX3_search 72 = .ok (.iconst 0, 1) := by decide +kernel
theorem dX3_search_73 : decode cX3_search 73 = .ok (.istore 5, 2) := by decide +kernel
theorem dX3_search_75 : decode cX3_search 75 = .ok (.iload 5, 2) := by decide +kernel
theorem dX3_search_77 : decode cX3_search 77 = .ok (.aload_n 0, 1) := by decide +kernel
theorem dX3_search_78 : decode cX3_search 78 = .ok (.getfield 49, 3) := by decide +kernel
theorem dX3_search_81 : decode cX3_search 81 = .ok (.if_icmp .ge 116, 3) := by decide +kernel
theorem dX3_search_84 : decode cX3_search 84 = .ok (.iconst 0, 1) := by decide +kernel
theorem dX3_search_85 : decode cX3_search 85 = .ok (.istore 6, 2) := by decide +kernel
theorem dX3_search_87 : decode cX3_search 87 = .ok (.iload 6, 2) := by decide +kernel
theorem dX3_search_89 : decode cX3_search 89 = .ok (.aload_n 0, 1) := by decide +kernel
theorem dX3_search_90 : decode cX3_search 90 = .ok (.getfield 55, 3) := by decide +kernel
theorem dX3_search_93 : decode cX3_search 93 = .ok (.if_icmp .ge 98, 3) := by decide +kernel
theorem dX3_search_96 : decode cX3_search 96 = .ok (.iload 4, 2) := by decide +kernel
theorem dX3_search_98 : decode cX3_search 98 = .ok (.ifCond .eq 8, 3) := by decide +kernel
theorem dX3_search_101 : decode cX3_search 101 = .ok (.iload 6, 2) := by decide +kernel
theorem dX3_search_103 : decode cX3_search 103 = .ok (.goto 5, 3) := by decide +kernel
theorem dX3_search_106 : decode cX3_search 106 = .ok (.iload 5, 2) := by decide +kernel
theorem dX3_search_108 : decode cX3_search 108 = .ok (.istore 7, 2) := by decide +kernel
theorem dX3_search_110 : decode cX3_search 110 = .ok (.iload 4, 2) := by decide +kernel
theorem dX3_search_112 : decode cX3_search 112 = .ok (.ifCond .eq 8, 3) := by decide +kernel
theorem dX3_search_115 : decode cX3_search 115 = .ok (.iload 5, 2) := by decide +kernel
theorem dX3_search_117 : decode cX3_search 117 = .ok (.goto 5, 3) := by decide +kernel
theorem dX3_search_120 : decode cX3_search 120 = .ok (.iload 6, 2) := by decide +kernel
theorem dX3_search_122 : decode cX3_search 122 = .ok (.istore 8, 2) := by decide +kernel
theorem dX3_search_124 : decode cX3_search 124 = .ok (.iload 5, 2) := by decide +kernel
theorem dX3_search_126 : decode cX3_search 126 = .ok (.bipush 6, 2) := by decide +kernel
theorem dX3_search_128 : decode cX3_search 128 = .ok (.imul, 1) := by decide +kernel
theorem dX3_search_129 : decode cX3_search 129 = .ok (.iload 6, 2) := by decide +kernel
theorem dX3_search_131 : decode cX3_search 131 = .ok (.iadd, 1) := by decide +kernel
theorem dX3_search_132 : decode cX3_search 132 = .ok (.istore 9, 2) := by decide +kernel
theorem dX3_search_134 : decode cX3_search 134 = .ok (.aload_n 0, 1) := by decide +kernel
theorem dX3_search_135 : decode cX3_search 135 = .ok (.getfield 9, 3) := by decide +kernel
theorem dX3_search_138 : decode cX3_search 138 = .ok (.iload 9, 2) := by decide +kernel
theorem dX3_search_140 : decode cX3_search 140 = .ok (.aload_n 1, 1) := by decide +kernel
theorem dX3_search_141 : decode cX3_search 141 = .ok (.iload 7, 2) := by decide +kernel
theorem dX3_search_143 : decode cX3_search 143 = .ok (.aload_n 2, 1) := by decide +kernel
theorem dX3_search_144 : decode cX3_search 144 = .ok (.iload 8, 2) := by decide +kernel
theorem dX3_search_146 : decode cX3_search 146 = .ok (.invokevirtual 58, 3) := by decide +kernel
theorem dX3_search_149 : decode cX3_search 149 = .ok (.iastore, 1) := by decide +kernel
theorem dX3_search_150 : decode cX3_search 150 = .ok (.aload_n 0, 1) := by decide +kernel
theorem dX3_search_151 : decode cX3_search 151 = .ok (.getfield 15, 3) := by decide +kernel
theorem dX3_search_154 : decode cX3_search 154 = .ok (.iload 9, 2) := by decide +kernel
theorem dX3_search_156 : decode cX3_search 156 = .ok (.aload_n 0, 1) := by decide +kernel
theorem dX3_search_157 : decode cX3_search 157 = .ok (.getfield 9, 3) := by decide +kernel
theorem dX3_search_160 : decode cX3_search 160 = .ok (.iload 9, 2) := by decide +kernel
theorem dX3_search_162 : decode cX3_search 162 = .ok (.iaload, 1) := by decide +kernel
theorem dX3_search_163 : decode cX3_search 163 = .ok (.invokestatic 62, 3) := by decide +kernel
theorem dX3_search_166 : decode cX3_search 166 = .ok (.aload_n 1, 1) := by decide +kernel
theorem dX3_search_167 : decode cX3_search 167 = .ok (.iload 7, 2) := by decide +kernel
theorem dX3_search_169 : decode cX3_search 169 = .ok (.aload_n 2, 1) := by decide +kernel
theorem dX3_search_170 : decode cX3_search 170 = .ok (.iload 8, 2) := by decide +kernel
theorem dX3_search_172 : decode cX3_search 172 = .ok (.invokevirtual 66, 3) := by decide +kernel
theorem dX3_search_175 : decode cX3_search 175 = .ok (.ifCond .eq 7, 3) := by decide +kernel
theorem dX3_search_178 : decode cX3_search 178 = .ok (.iconst 0, 1) := by decide +kernel
theorem dX3_search_179 : decode cX3_search 179 = .ok (.goto 4, 3) := by decide +kernel
theorem dX3_search_182 : decode cX3_search 182 = .ok (.iload_n 3, 1) := by decide +kernel
theorem dX3_search_183 : decode cX3_search 183 = .ok (.iadd, 1) := by decide +kernel
theorem dX3_search_184 : decode cX3_search 184 = .ok (.iastore, 1) := by decide +kernel
theorem dX3_search_185 : decode cX3_search 185 = .ok (.iinc 6 1, 3) := by decide +kernel
theorem dX3_search_188 : decode cX3_search 188 = .ok (.goto (-101), 3) := by decide +kernel
theorem dX3_search_191 : decode cX3_search 191 = .ok (.iinc 5 1, 3) := by decide +kernel
theorem dX3_search_194 : decode cX3_search 194 = .ok (.goto (-119), 3) := by decide +kernel
theorem dX3_search_197 : decode cX3_search 197 = .ok (.iconst 1, 1) := by decide +kernel
theorem dX3_search_198 : decode cX3_search 198 = .ok (.aload_n 0, 1) := by decide +kernel
theorem dX3_search_199 : decode cX3_search 199 = .ok (.getfield 55, 3) := by decide +kernel
theorem dX3_search_202 : decode cX3_search 202 = .ok (.ishl, 1) := by decide +kernel
theorem dX3_search_203 : decode cX3_search 203 = .ok (.iconst 1, 1) := by decide +kernel
theorem dX3_search_204 : decode cX3_search 204 = .ok (.isub, 1) := by decide +kernel
theorem dX3_search_205 : decode cX3_search 205 = .ok (.istore 5, 2) := by decide +kernel
theorem dX3_search_207 : decode cX3_search 207 = .ok (.iload 5, 2) := by decide +kernel
theorem dX3_search_209 : decode cX3_search 209 = .ok (.ifCond .lt 15, 3) := by decide +kernel
theorem dX3_search_212 : decode cX3_search 212 = .ok (.aload_n 0, 1) := by decide +kernel
theorem dX3_search_213 : decode cX3_search 213 = .ok (.iload 5, 2) := by decide +kernel
theorem dX3_search_215 : decode cX3_search 215 = .ok (.invokevirtual 70, 3) := by decide +kernel
theorem dX3_search_218 : decode cX3_search 218 = .ok (.iinc 5 (-1), 3) := by decide +kernel
theorem dX3_search_221 : decode cX3_search 221 = .ok (.goto (-14), 3) := by decide +kernel
theorem dX3_search_224 : decode cX3_search 224 = .ok (.aload_n 0, 1) := by decide +kernel
theorem dX3_search_225 : decode cX3_search 225 = .ok (.invokevirtual 74, 3) := by decide +kernel
theorem dX3_search_228 : decode cX3_search 228 = .ok (.return_, 1) := by decide +kernel
theorem dX3_settle_0 : decode cX3_settle 0 = .ok (.iload_n 1, 1) := by decide +kernel
theorem dX3_settle_1 : decode cX3_settle 1 = .ok (.invokestatic 77, 3) := by decide +kernel
theorem dX3_settle_4 : decode cX3_settle 4 = .ok (.istore_n 2, 1) := by decide +kernel
theorem dX3_settle_5 : decode cX3_settle 5 = .ok (.aload_n 0, 1) := by decide +kernel
theorem dX3_settle_6 : decode cX3_settle 6 = .ok (.getfield 18, 3) := by decide +kernel
theorem dX3_settle_9 : decode cX3_settle 9 = .ok (.iload_n 1, 1) := by decide +kernel
theorem dX3_settle_10 : decode cX3_settle 10 = .ok (.iconst 0, 1) := by decide +kernel
theorem dX3_settle_11 : decode cX3_settle 11 = .ok (.iastore, 1) := by decide +kernel
theorem dX3_settle_12 : decode cX3_settle 12 = .ok (.aload_n 0, 1) := by decide +kernel
theorem dX3_settle_13 : decode cX3_settle 13 = .ok (.getfield 21, 3) := by decide +kernel
theorem dX3_settle_16 : decode cX3_settle 16 = .ok (.iload_n 1, 1) := by decide +kernel
theorem dX3_settle_17 : decode cX3_settle 17 = .ok (.iload_n 2, 1) := by decide +kernel
theorem dX3_settle_18 : decode cX3_settle 18 = .ok (.aload_n 0, 1) := by decide +kernel
theorem dX3_settle_19 : decode cX3_settle 19 = .ok (.getfield 49, 3) := by decide +kernel
theorem dX3_settle_22 : decode cX3_settle 22 = .ok (.if_icmp .ne 7, 3) := by decide +kernel
theorem dX3_settle_25 : decode cX3_settle 25 = .ok (.iconst 1, 1) := by decide +kernel
theorem dX3_settle_26 : decode cX3_settle 26 = .ok (.goto 4, 3) := by decide +kernel
theorem dX3_settle_29 : decode cX3_settle 29 = .ok (.iconst 0, 1) := by decide +kernel
theorem dX3_settle_30 : decode cX3_settle 30 = .ok (.iastore, 1) := by decide +kernel
theorem dX3_settle_31 : decode cX3_settle 31 = .ok (.aload_n 0, 1) := by decide +kernel
theorem dX3_settle_32 : decode cX3_settle 32 = .ok (.getfield 24, 3) := by decide +kernel
theorem dX3_settle_35 : decode cX3_settle 35 = .ok (.iload_n 1, 1) := by decide +kernel
theorem dX3_settle_36 : decode cX3_settle 36 = .ok (.iconst 0, 1) := by decide +kernel
theorem dX3_settle_37 : decode cX3_settle 37 = .ok (.iastore, 1) := by decide +kernel
theorem dX3_settle_38 : decode cX3_settle 38 = .ok (.aload_n 0, 1) := by decide +kernel
theorem dX3_settle_39 : decode cX3_settle 39 = .ok (.getfield 27, 3) := by decide +kernel
theorem dX3_settle_42 : decode cX3_settle 42 = .ok (.iload_n 1, 1) := by decide +kernel
theorem dX3_settle_43 : decode cX3_settle 43 = .ok (.iconst 0, 1) := by decide +kernel
theorem dX3_settle_44 : decode cX3_settle 44 = .ok (.iastore, 1) := by decide +kernel
theorem dX3_settle_45 : decode cX3_settle 45 = .ok (.iconst 0, 1) := by decide +kernel
theorem dX3_settle_46 : decode cX3_settle 46 = .ok (.istore_n 3, 1) := by decide +kernel
theorem dX3_settle_47 : decode cX3_settle 47 = .ok (.iload_n 2, 1) := by decide +kernel
theorem dX3_settle_48 : decode cX3_settle 48 = .ok (.aload_n 0, 1) := by decide +kernel
theorem dX3_settle_49 : decode cX3_settle 49 = .ok (.getfield 49, 3) := by decide +kernel
theorem dX3_settle_52 : decode cX3_settle 52 = .ok (.if_icmp .ge 32, 3) := by decide +kernel
theorem dX3_settle_55 : decode cX3_settle 55 = .ok (.iload_n 3, 1) := by decide +kernel
theorem dX3_settle_56 : decode cX3_settle 56 = .ok (.aload_n 0, 1) := by decide +kernel
theorem dX3_settle_57 : decode cX3_settle 57 = .ok (.getfield 55, 3) := by decide +kernel
theorem dX3_settle_60 : decode cX3_settle 60 = .ok (.if_icmp .ge 24, 3) := by decide +kernel
theorem dX3_settle_63 : decode cX3_settle 63 = .ok (.iload_n 1, 1) := by decide +kernel
theorem dX3_settle_64 : decode cX3_settle 64 = .ok (.iload_n 3, 1) := by decide +kernel
theorem dX3_settle_65 : decode cX3_settle 65 = .ok (.ishr, 1) := by decide +kernel
theorem dX3_settle_66 : decode cX3_settle 66 = .ok (.iconst 1, 1) := by decide +kernel
theorem dX3_settle_67 : decode cX3_settle 67 = .ok (.iand, 1) := by decide +kernel
theorem dX3_settle_68 : decode cX3_settle 68 = .ok (.ifCond .ne 10, 3) := by decide +kernel
theorem dX3_settle_71 : decode cX3_settle 71 = .ok (.aload_n 0, 1) := by decide +kernel
theorem dX3_settle_72 : decode cX3_settle 72 = .ok (.iload_n 1, 1) := by decide +kernel
theorem dX3_settle_73 : decode cX3_settle 73 = .ok (.iload_n 2, 1) := by decide +kernel
theorem dX3_settle_74 : decode cX3_settle 74 = .ok (.iload_n 3, 1) := by decide +kernel
theorem dX3_settle_75 : decode cX3_settle 75 = .ok (.invokevirtual 82, 3) := by decide +kernel
theorem dX3_settle_78 : decode cX3_settle 78 = .ok (.iinc 3 1, 3) := by decide +kernel
theorem dX3_settle_81 : decode cX3_settle 81 = .ok (.goto (-34), 3) := by decide +kernel
theorem dX3_settle_84 : decode cX3_settle 84 = .ok (.return_, 1) := by decide +kernel
theorem dX3_weigh_0 : decode cX3_weigh 0 = .ok (.iload_n 1, 1) := by decide +kernel
theorem dX3_weigh_1 : decode cX3_weigh 1 = .ok (.iconst 1, 1) := by decide +kernel
theorem dX3_weigh_2 : decode cX3_weigh 2 = .ok (.iload_n 3, 1) := by decide +kernel
theorem dX3_weigh_3 : decode cX3_weigh 3 = .ok (.ishl, 1) := by decide +kernel
theorem dX3_weigh_4 : decode cX3_weigh 4 = .ok (.ior, 1) := by decide +kernel
theorem dX3_weigh_5 : decode cX3_weigh 5 = .ok (.istore 4, 2) := by decide +kernel
theorem dX3_weigh_7 : decode cX3_weigh 7 = .ok (.iload_n 2, 1) := by decide +kernel
theorem dX3_weigh_8 : decode cX3_weigh 8 = .ok (.bipush 6, 2) := by decide +kernel
theorem dX3_weigh_10 : decode cX3_weigh 10 = .ok (.imul, 1) := by decide +kernel
theorem dX3_weigh_11 : decode cX3_weigh 11 = .ok (.iload_n 3, 1) := by decide +kernel
theorem dX3_weigh_12 : decode cX3_weigh 12 = .ok (.iadd, 1) := by decide +kernel
theorem dX3_weigh_13 : decode cX3_weigh 13 = .ok (.istore 5, 2) := by decide +kernel
theorem dX3_weigh_15 : decode cX3_weigh 15 = .ok (.aload_n 0, 1) := by decide +kernel
theorem dX3_weigh_16 : decode cX3_weigh 16 = .ok (.getfield 15, 3) := by decide +kernel
theorem dX3_weigh_19 : decode cX3_weigh 19 = .ok (.iload 5, 2) := by decide +kernel
theorem dX3_weigh_21 : decode cX3_weigh 21 = .ok (.iaload, 1) := by decide +kernel
theorem dX3_weigh_22 : decode cX3_weigh 22 = .ok (.aload_n 0, 1) := by decide +kernel
theorem dX3_weigh_23 : decode cX3_weigh 23 = .ok (.getfield 18, 3) := by decide +kernel
theorem dX3_weigh_26 : decode cX3_weigh 26 = .ok (.iload 4, 2) := by decide +kernel
theorem dX3_weigh_28 : decode cX3_weigh 28 = .ok (.iaload, 1) := by decide +kernel
theorem dX3_weigh_29 : decode cX3_weigh 29 = .ok (.iadd, 1) := by decide +kernel
theorem dX3_weigh_30 : decode cX3_weigh 30 = .ok (.istore 6, 2) := by decide +kernel
theorem dX3_weigh_32 : decode cX3_weigh 32 = .ok (.aload_n 0, 1) := by decide +kernel
theorem dX3_weigh_33 : decode cX3_weigh 33 = .ok (.getfield 9, 3) := by decide +kernel
theorem dX3_weigh_36 : decode cX3_weigh 36 = .ok (.iload 5, 2) := by decide +kernel
theorem dX3_weigh_38 : decode cX3_weigh 38 = .ok (.iaload, 1) := by decide +kernel
theorem dX3_weigh_39 : decode cX3_weigh 39 = .ok (.aload_n 0, 1) := by decide +kernel
theorem dX3_weigh_40 : decode cX3_weigh 40 = .ok (.getfield 24, 3) := by decide +kernel
theorem dX3_weigh_43 : decode cX3_weigh 43 = .ok (.iload 4, 2) := by decide +kernel
theorem dX3_weigh_45 : decode cX3_weigh 45 = .ok (.iaload, 1) := by decide +kernel
theorem dX3_weigh_46 : decode cX3_weigh 46 = .ok (.iadd, 1) := by decide +kernel
theorem dX3_weigh_47 : decode cX3_weigh 47 = .ok (.istore 7, 2) := by decide +kernel
theorem dX3_weigh_49 : decode cX3_weigh 49 = .ok (.aload_n 0, 1) := by decide +kernel
theorem dX3_weigh_50 : decode cX3_weigh 50 = .ok (.getfield 9, 3) := by decide +kernel
theorem dX3_weigh_53 : decode cX3_weigh 53 = .ok (.iload 5, 2) := by decide +kernel
theorem dX3_weigh_55 : decode cX3_weigh 55 = .ok (.iaload, 1) := by decide +kernel
theorem dX3_weigh_56 : decode cX3_weigh 56 = .ok (.aload_n 0, 1) := by decide +kernel
theorem dX3_weigh_57 : decode cX3_weigh 57 = .ok (.getfield 27, 3) := by decide +kernel
theorem dX3_weigh_60 : decode cX3_weigh 60 = .ok (.iload 4, 2) := by decide +kernel
theorem dX3_weigh_62 : decode cX3_weigh 62 = .ok (.iaload, 1) := by decide +kernel
theorem dX3_weigh_63 : decode cX3_weigh 63 = .ok (.iadd, 1) := by decide +kernel
theorem dX3_weigh_64 : decode cX3_weigh 64 = .ok (.istore 8, 2) := by decide +kernel
theorem dX3_weigh_66 : decode cX3_weigh 66 = .ok (.aload_n 0, 1) := by decide +kernel
theorem dX3_weigh_67 : decode cX3_weigh 67 = .ok (.getfield 21, 3) := by decide +kernel
theorem dX3_weigh_70 : decode cX3_weigh 70 = .ok (.iload_n 1, 1) := by decide +kernel
theorem dX3_weigh_71 : decode cX3_weigh 71 = .ok (.iaload, 1) := by decide +kernel
theorem dX3_weigh_72 : decode cX3_weigh 72 = .ok (.ifCond .eq 14, 3) := by decide +kernel
theorem dX3_weigh_75 : decode cX3_weigh 75 = .ok (.iload 6, 2) := by decide +kernel
theorem dX3_weigh_77 : decode cX3_weigh 77 = .ok (.aload_n 0, 1) := by decide +kernel
theorem dX3_weigh_78 : decode cX3_weigh 78 = .ok (.getfield 18, 3) := by decide +kernel
theorem dX3_weigh_81 : decode cX3_weigh 81 = .ok (.iload_n 1, 1) := by decide +kernel
theorem dX3_weigh_82 : decode cX3_weigh 82 = .ok (.iaload, 1) := by decide +kernel
theorem dX3_weigh_83 : decode cX3_weigh 83 = .ok (.if_icmp .ge 43, 3) := by decide +kernel
theorem dX3_weigh_86 : decode cX3_weigh 86 = .ok (.aload_n 0, 1) := by decide +kernel
theorem dX3_weigh_87 : decode cX3_weigh 87 = .ok (.getfield 18, 3) := by decide +kernel
theorem dX3_weigh_90 : decode cX3_weigh 90 = .ok (.iload_n 1, 1) := by decide +kernel
theorem dX3_weigh_91 : decode cX3_weigh 91 = .ok (.iload 6, 2) := by decide +kernel
theorem dX3_weigh_93 : decode cX3_weigh 93 = .ok (.iastore, 1) := by decide +kernel
theorem dX3_weigh_94 : decode cX3_weigh 94 = .ok (.aload_n 0, 1) := by decide +kernel
theorem dX3_weigh_95 : decode cX3_weigh 95 = .ok (.getfield 21, 3) := by decide +kernel
theorem dX3_weigh_98 : decode cX3_weigh 98 = .ok (.iload_n 1, 1) := by decide +kernel
theorem dX3_weigh_99 : decode cX3_weigh 99 = .ok (.aload_n 0, 1) := by decide +kernel
theorem dX3_weigh_100 : decode cX3_weigh 100 = .ok (.getfield 21, 3) := by decide +kernel
theorem dX3_weigh_103 : decode cX3_weigh 103 = .ok (.iload 4, 2) := by decide +kernel
theorem dX3_weigh_105 : decode cX3_weigh 105 = .ok (.iaload, 1) := by decide +kernel
theorem dX3_weigh_106 : decode cX3_weigh 106 = .ok (.iastore, 1) := by decide +kernel
theorem dX3_weigh_107 : decode cX3_weigh 107 = .ok (.aload_n 0, 1) := by decide +kernel
theorem dX3_weigh_108 : decode cX3_weigh 108 = .ok (.getfield 24, 3) := by decide +kernel
theorem dX3_weigh_111 : decode cX3_weigh 111 = .ok (.iload_n 1, 1) := by decide +kernel
theorem dX3_weigh_112 : decode cX3_weigh 112 = .ok (.iload 7, 2) := by decide +kernel
theorem dX3_weigh_114 : decode cX3_weigh 114 = .ok (.iastore, 1) := by decide +kernel
theorem dX3_weigh_115 : decode cX3_weigh 115 = .ok (.aload_n 0, 1) := by decide +kernel
theorem dX3_weigh_116 : decode cX3_weigh 116 = .ok (.getfield 27, 3) := by decide +kernel
theorem dX3_weigh_119 : decode cX3_weigh 119 = .ok (.iload_n 1, 1) := by decide +kernel
theorem dX3_weigh_120 : decode cX3_weigh 120 = .ok (.iload 8, 2) := by decide +kernel
theorem dX3_weigh_122 : decode cX3_weigh 122 = .ok (.iastore, 1) := by decide +kernel
theorem dX3_weigh_123 : decode cX3_weigh 123 = .ok (.goto 64, 3) := by decide +kernel
theorem dX3_weigh_126 : decode cX3_weigh 126 = .ok (.iload 6, 2) := by decide +kernel
theorem dX3_weigh_128 : decode cX3_weigh 128 = .ok (.aload_n 0, 1) := by decide +kernel
theorem dX3_weigh_129 : decode cX3_weigh 129 = .ok (.getfield 18, 3) := by decide +kernel
theorem dX3_weigh_132 : decode cX3_weigh 132 = .ok (.iload_n 1, 1) := by decide +kernel
theorem dX3_weigh_133 : decode cX3_weigh 133 = .ok (.iaload, 1) := by decide +kernel
theorem dX3_weigh_134 : decode cX3_weigh 134 = .ok (.if_icmp .ne 53, 3) := by decide +kernel
theorem dX3_weigh_137 : decode cX3_weigh 137 = .ok (.aload_n 0, 1) := by decide +kernel
theorem dX3_weigh_138 : decode cX3_weigh 138 = .ok (.getfield 21, 3) := by decide +kernel
theorem dX3_weigh_141 : decode cX3_weigh 141 = .ok (.iload_n 1, 1) := by decide +kernel
theorem dX3_weigh_142 : decode cX3_weigh 142 = .ok (.dup2, 1) := by decide +kernel
theorem dX3_weigh_143 : decode cX3_weigh 143 = .ok (.iaload, 1) := by decide +kernel
theorem dX3_weigh_144 : decode cX3_weigh 144 = .ok (.aload_n 0, 1) := by decide +kernel
theorem dX3_weigh_145 : decode cX3_weigh 145 = .ok (.getfield 21, 3) := by decide +kernel
theorem dX3_weigh_148 : decode cX3_weigh 148 = .ok (.iload 4, 2) := by decide +kernel
theorem dX3_weigh_150 : decode cX3_weigh 150 = .ok (.iaload, 1) := by decide +kernel
theorem dX3_weigh_151 : decode cX3_weigh 151 = .ok (.iadd, 1) := by decide +kernel
theorem dX3_weigh_152 : decode cX3_weigh 152 = .ok (.iastore, 1) := by decide +kernel
theorem dX3_weigh_153 : decode cX3_weigh 153 = .ok (.aload_n 0, 1) := by decide +kernel
theorem dX3_weigh_154 : decode cX3_weigh 154 = .ok (.getfield 24, 3) := by decide +kernel
theorem dX3_weigh_157 : decode cX3_weigh 157 = .ok (.iload_n 1, 1) := by decide +kernel
theorem dX3_weigh_158 : decode cX3_weigh 158 = .ok (.aload_n 0, 1) := by decide +kernel
theorem dX3_weigh_159 : decode cX3_weigh 159 = .ok (.getfield 24, 3) := by decide +kernel
theorem dX3_weigh_162 : decode cX3_weigh 162 = .ok (.iload_n 1, 1) := by decide +kernel
theorem dX3_weigh_163 : decode cX3_weigh 163 = .ok (.iaload, 1) := by decide +kernel
theorem dX3_weigh_164 : decode cX3_weigh 164 = .ok (.iload 7, 2) := by decide +kernel
theorem dX3_weigh_166 : decode cX3_weigh 166 = .ok (.invokestatic 43, 3) := by decide +kernel
theorem dX3_weigh_169 : decode cX3_weigh 169 = .ok (.iastore, 1) := by decide +kernel
theorem dX3_weigh_170 : decode cX3_weigh 170 = .ok (.aload_n 0, 1) := by decide +kernel
theorem dX3_weigh_171 : decode cX3_weigh 171 = .ok (.getfield 27, 3) := by decide +kernel
theorem dX3_weigh_174 : decode cX3_weigh 174 = .ok (.iload_n 1, 1) := by decide +kernel
theorem dX3_weigh_175 : decode cX3_weigh 175 = .ok (.aload_n 0, 1) := by decide +kernel
theorem dX3_weigh_176 : decode cX3_weigh 176 = .ok (.getfield 27, 3) := by decide +kernel
theorem dX3_weigh_179 : decode cX3_weigh 179 = .ok (.iload_n 1, 1) := by decide +kernel
theorem dX3_weigh_180 : decode cX3_weigh 180 = .ok (.iaload, 1) := by decide +kernel
theorem dX3_weigh_181 : decode cX3_weigh 181 = .ok (.iload 8, 2) := by decide +kernel
theorem dX3_weigh_183 : decode cX3_weigh 183 = .ok (.invokestatic 52, 3) := by decide +kernel
theorem dX3_weigh_186 : decode cX3_weigh 186 = .ok (.iastore, 1) := by decide +kernel
theorem dX3_weigh_187 : decode cX3_weigh 187 = .ok (.return_, 1) := by decide +kernel
theorem dX3_joinRow_0 : decode cX3_joinRow 0 = .ok (.iconst 0, 1) := by decide +kernel
theorem dX3_joinRow_1 : decode cX3_joinRow 1 = .ok (.istore_n 1, 1) := by decide +kernel
theorem dX3_joinRow_2 : decode cX3_joinRow 2 = .ok (.aload_n 0, 1) := by decide +kernel
theorem dX3_joinRow_3 : decode cX3_joinRow 3 = .ok (.iconst 0, 1) := by decide +kernel
theorem dX3_joinRow_4 : decode cX3_joinRow 4 = .ok (.putfield 86, 3) := by decide +kernel
theorem dX3_joinRow_7 : decode cX3_joinRow 7 = .ok (.iconst 0, 1) := by decide +kernel
theorem dX3_joinRow_8 : decode cX3_joinRow 8 = .ok (.istore_n 2, 1) := by decide +kernel
theorem dX3_joinRow_9 : decode cX3_joinRow 9 = .ok (.iload_n 2, 1) := by decide +kernel
theorem dX3_joinRow_10 : decode cX3_joinRow 10 = .ok (.aload_n 0, 1) := by decide +kernel
theorem dX3_joinRow_11 : decode cX3_joinRow 11 = .ok (.getfield 49, 3) := by decide +kernel
theorem dX3_joinRow_14 : decode cX3_joinRow 14 = .ok (.if_icmp .ge 49, 3) := by decide +kernel
theorem dX3_joinRow_17 : decode cX3_joinRow 17 = .ok (.aload_n 0, 1) := by decide +kernel
theorem dX3_joinRow_18 : decode cX3_joinRow 18 = .ok (.iload_n 1, 1) := by decide +kernel
theorem dX3_joinRow_19 : decode cX3_joinRow 19 = .ok (.iload_n 2, 1) := by decide +kernel
theorem dX3_joinRow_20 : decode cX3_joinRow 20 = .ok (.invokevirtual 89, 3) := by decide +kernel
theorem dX3_joinRow_23 : decode cX3_joinRow 23 = .ok (.istore_n 3, 1) := by decide +kernel
theorem dX3_joinRow_24 : decode cX3_joinRow 24 = .ok (.aload_n 0, 1) := by decide +kernel
theorem dX3_joinRow_25 : decode cX3_joinRow 25 = .ok (.getfield 30, 3) := by decide +kernel
theorem dX3_joinRow_28 : decode cX3_joinRow 28 = .ok (.iload_n 2, 1) := by decide +kernel
theorem dX3_joinRow_29 : decode cX3_joinRow 29 = .ok (.iload_n 3, 1) := by decide +kernel
theorem dX3_joinRow_30 : decode cX3_joinRow 30 = .ok (.iastore, 1) := by decide +kernel
theorem dX3_joinRow_31 : decode cX3_joinRow 31 = .ok (.aload_n 0, 1) := by decide +kernel
theorem dX3_joinRow_32 : decode cX3_joinRow 32 = .ok (.dup, 1) := by decide +kernel
theorem dX3_joinRow_33 : decode cX3_joinRow 33 = .ok (.getfield 86, 3) := by decide +kernel
theorem dX3_joinRow_36 : decode cX3_joinRow 36 = .ok (.aload_n 0, 1) := by decide +kernel
theorem dX3_joinRow_37 : decode cX3_joinRow 37 = .ok (.getfield 9, 3) := by decide +kernel
theorem dX3_joinRow_40 : decode cX3_joinRow 40 = .ok (.iload_n 2, 1) := by decide +kernel
theorem dX3_joinRow_41 : decode cX3_joinRow 41 = .ok (.bipush 6, 2) := by decide +kernel
theorem dX3_joinRow_43 : decode cX3_joinRow 43 = .ok (.imul, 1) := by decide +kernel
theorem dX3_joinRow_44 : decode cX3_joinRow 44 = .ok (.iload_n 3, 1) := by decide +kernel
theorem dX3_joinRow_45 : decode cX3_joinRow 45 = .ok (.iadd, 1) := by decide +kernel
theorem dX3_joinRow_46 : decode cX3_joinRow 46 = .ok (.iaload, 1) := by decide +kernel
theorem dX3_joinRow_47 : decode cX3_joinRow 47 = .ok (.iadd, 1) := by decide +kernel
theorem dX3_joinRow_48 : decode cX3_joinRow 48 = .ok (.putfield 86, 3) := by decide +kernel
theorem dX3_joinRow_51 : decode cX3_joinRow 51 = .ok (.iload_n 1, 1) := by decide +kernel
theorem dX3_joinRow_52 : decode cX3_joinRow 52 = .ok (.iconst 1, 1) := by decide +kernel
theorem dX3_joinRow_53 : decode cX3_joinRow 53 = .ok (.iload_n 3, 1) := by decide +kernel
theorem dX3_joinRow_54 : decode cX3_joinRow 54 = .ok (.ishl, 1) := by decide +kernel
theorem dX3_joinRow_55 : decode cX3_joinRow 55 = .ok (.ior, 1) := by decide +kernel
theorem dX3_joinRow_56 : decode cX3_joinRow 56 = .ok (.istore_n 1, 1) := by decide +kernel
theorem dX3_joinRow_57 : decode cX3_joinRow 57 = .ok (.iinc 2 1, 3) := by decide +kernel
theorem dX3_joinRow_60 : decode cX3_joinRow 60 = .ok (.goto (-51), 3) := by decide +kernel
theorem dX3_joinRow_63 : decode cX3_joinRow 63 = .ok (.return_, 1) := by decide +kernel
theorem dX3_firstBest_0 : decode cX3_firstBest 0 = .ok (.iconst 0, 1) := by decide +kernel
theorem dX3_firstBest_1 : decode cX3_firstBest 1 = .ok (.istore_n 3, 1) := by decide +kernel
theorem dX3_firstBest_2 : decode cX3_firstBest 2 = .ok (.iload_n 3, 1) := by decide +kernel
theorem dX3_firstBest_3 : decode cX3_firstBest 3 = .ok (.aload_n 0, 1) := by decide +kernel
theorem dX3_firstBest_4 : decode cX3_firstBest 4 = .ok (.getfield 55, 3) := by decide +kernel
theorem dX3_firstBest_7 : decode cX3_firstBest 7 = .ok (.if_icmp .ge 50, 3) := by decide +kernel
theorem dX3_firstBest_10 : decode cX3_firstBest 10 = .ok (.iload_n 1, 1) := by decide +kernel
theorem dX3_firstBest_11 : decode cX3_firstBest 11 = .ok (.iload_n 3, 1) := by decide +kernel
theorem dX3_firstBest_12 : decode cX3_firstBest 12 = .ok (.ishr, 1) := by decide +kernel
theorem dX3_firstBest_13 : decode cX3_firstBest 13 = .ok (.iconst 1, 1) := by decide +kernel
theorem dX3_firstBest_14 : decode cX3_firstBest 14 = .ok (.iand, 1) := by decide +kernel
theorem dX3_firstBest_15 : decode cX3_firstBest 15 = .ok (.ifCond .ne 36, 3) := by decide +kernel
theorem dX3_firstBest_18 : decode cX3_firstBest 18 = .ok (.aload_n 0, 1) := by decide +kernel
theorem dX3_firstBest_19 : decode cX3_firstBest 19 = .ok (.getfield 15, 3) := by decide +kernel
theorem dX3_firstBest_22 : decode cX3_firstBest 22 = .ok (.iload_n 2, 1) := by decide +kernel
theorem dX3_firstBest_23 : decode cX3_firstBest 23 = .ok (.bipush 6, 2) := by decide +kernel
theorem dX3_firstBest_25 : decode cX3_firstBest 25 = .ok (.imul, 1) := by decide +kernel
theorem dX3_firstBest_26 : decode cX3_firstBest 26 = .ok (.iload_n 3, 1) := by decide +kernel
theorem dX3_firstBest_27 : decode cX3_firstBest 27 = .ok (.iadd, 1) := by decide +kernel
theorem dX3_firstBest_28 : decode cX3_firstBest 28 = .ok (.iaload, 1) := by decide +kernel
theorem dX3_firstBest_29 : decode cX3_firstBest 29 = .ok (.aload_n 0, 1) := by decide +kernel
theorem dX3_firstBest_30 : decode cX3_firstBest 30 = .ok (.getfield 18, 3) := by decide +kernel
theorem dX3_firstBest_33 : decode cX3_firstBest 33 = .ok (.iload_n 1, 1) := by decide +kernel
theorem dX3_firstBest_34 : decode cX3_firstBest 34 = .ok (.iconst 1, 1) := by decide +kernel
theorem dX3_firstBest_35 : decode cX3_firstBest 35 = .ok (.iload_n 3, 1) := by decide +kernel
theorem dX3_firstBest_36 : decode cX3_firstBest 36 = .ok (.ishl, 1) := by decide +kernel
theorem dX3_firstBest_37 : decode cX3_firstBest 37 = .ok (.ior, 1) := by decide +kernel
theorem dX3_firstBest_38 : decode cX3_firstBest 38 = .ok (.iaload, 1) := by decide +kernel
theorem dX3_firstBest_39 : decode cX3_firstBest 39 = .ok (.iadd, 1) := by decide +kernel
theorem dX3_firstBest_40 : decode cX3_firstBest 40 = .ok (.aload_n 0, 1) := by decide +kernel
theorem dX3_firstBest_41 : decode cX3_firstBest 41 = .ok (.getfield 18, 3) := by decide +kernel
theorem dX3_firstBest_44 : decode cX3_firstBest 44 = .ok (.iload_n 1, 1) := by decide +kernel
theorem dX3_firstBest_45 : decode cX3_firstBest 45 = .ok (.iaload, 1) := by decide +kernel
theorem dX3_firstBest_46 : decode cX3_firstBest 46 = .ok (.if_icmp .ne 5, 3) := by decide +kernel
theorem dX3_firstBest_49 : decode cX3_firstBest 49 = .ok (.iload_n 3, 1) := by decide +kernel
theorem dX3_firstBest_50 : decode cX3_firstBest 50 = .ok (.ireturn, 1) := by decide +kernel
theorem dX3_firstBest_51 : decode cX3_firstBest 51 = .ok (.iinc 3 1, 3) := by decide +kernel
theorem dX3_firstBest_54 : decode cX3_firstBest 54 = .ok (.goto (-52), 3) := by decide +kernel
theorem dX3_firstBest_57 : decode cX3_firstBest 57 = .ok (.iconst 0, 1) := by decide +kernel
theorem dX3_firstBest_58 : decode cX3_firstBest 58 = .ok (.ireturn, 1) := by decide +kernel
theorem dX3_sum_0 : decode cX3_sum 0 = .ok (.aload_n 0, 1) := by decide +kernel
theorem dX3_sum_1 : decode cX3_sum 1 = .ok (.getfield 18, 3) := by decide +kernel
theorem dX3_sum_4 : decode cX3_sum 4 = .ok (.iconst 0, 1) := by decide +kernel
theorem dX3_sum_5 : decode cX3_sum 5 = .ok (.iaload, 1) := by decide +kernel
theorem dX3_sum_6 : decode cX3_sum 6 = .ok (.ireturn, 1) := by decide +kernel
theorem dX3_howMany_0 : decode cX3_howMany 0 = .ok (.aload_n 0, 1) := by decide +kernel
theorem dX3_howMany_1 : decode cX3_howMany 1 = .ok (.getfield 21, 3) := by decide +kernel
theorem dX3_howMany_4 : decode cX3_howMany 4 = .ok (.iconst 0, 1) := by decide +kernel
theorem dX3_howMany_5 : decode cX3_howMany 5 = .ok (.iaload, 1) := by decide +kernel
theorem dX3_howMany_6 : decode cX3_howMany 6 = .ok (.ireturn, 1) := by decide +kernel
theorem dX3_split_0 : decode cX3_split 0 = .ok (.aload_n 0, 1) := by decide +kernel
theorem dX3_split_1 : decode cX3_split 1 = .ok (.getfield 24, 3) := by decide +kernel
theorem dX3_split_4 : decode cX3_split 4 = .ok (.iconst 0, 1) := by decide +kernel
theorem dX3_split_5 : decode cX3_split 5 = .ok (.iaload, 1) := by decide +kernel
theorem dX3_split_6 : decode cX3_split 6 = .ok (.aload_n 0, 1) := by decide +kernel
theorem dX3_split_7 : decode cX3_split 7 = .ok (.getfield 27, 3) := by decide +kernel
theorem dX3_split_10 : decode cX3_split 10 = .ok (.iconst 0, 1) := by decide +kernel
theorem dX3_split_11 : decode cX3_split 11 = .ok (.iaload, 1) := by decide +kernel
theorem dX3_split_12 : decode cX3_split 12 = .ok (.if_icmp .ne 7, 3) := by decide +kernel
theorem dX3_split_15 : decode cX3_split 15 = .ok (.iconst 0, 1) := by decide +kernel
theorem dX3_split_16 : decode cX3_split 16 = .ok (.goto 4, 3) := by decide +kernel
theorem dX3_split_19 : decode cX3_split 19 = .ok (.iconst 1, 1) := by decide +kernel
theorem dX3_split_20 : decode cX3_split 20 = .ok (.ireturn, 1) := by decide +kernel
theorem dX3_partnerOf_0 : decode cX3_partnerOf 0 = .ok (.aload_n 1, 1) := by decide +kernel
theorem dX3_partnerOf_1 : decode cX3_partnerOf 1 = .ok (.aload_n 0, 1) := by decide +kernel
theorem dX3_partnerOf_2 : decode cX3_partnerOf 2 = .ok (.getfield 39, 3) := by decide +kernel
theorem dX3_partnerOf_5 : decode cX3_partnerOf 5 = .ok (.if_acmp .ne 28, 3) := by decide +kernel
theorem dX3_partnerOf_8 : decode cX3_partnerOf 8 = .ok (.iload_n 2, 1) := by decide +kernel
theorem dX3_partnerOf_9 : decode cX3_partnerOf 9 = .ok (.iconst 0, 1) := by decide +kernel
theorem dX3_partnerOf_10 : decode cX3_partnerOf 10 = .ok (.aload_n 0, 1) := by decide +kernel
theorem dX3_partnerOf_11 : decode cX3_partnerOf 11 = .ok (.getfield 49, 3) := by decide +kernel
theorem dX3_partnerOf_14 : decode cX3_partnerOf 14 = .ok (.iconst 1, 1) := by decide +kernel
theorem dX3_partnerOf_15 : decode cX3_partnerOf 15 = .ok (.isub, 1) := by decide +kernel
theorem dX3_partnerOf_16 : decode cX3_partnerOf 16 = .ok (.invokestatic 92, 3) := by decide +kernel
theorem dX3_partnerOf_19 : decode cX3_partnerOf 19 = .ok (.ifCond .eq 12, 3) := by decide +kernel
theorem dX3_partnerOf_22 : decode cX3_partnerOf 22 = .ok (.aload_n 0, 1) := by decide +kernel
theorem dX3_partnerOf_23 : decode cX3_partnerOf 23 = .ok (.getfield 30, 3) := by decide +kernel
theorem dX3_partnerOf_26 : decode cX3_partnerOf 26 = .ok (.iload_n 2, 1) := by decide +kernel
theorem dX3_partnerOf_27 : decode cX3_partnerOf 27 = .ok (.iaload, 1) := by decide +kernel
theorem dX3_partnerOf_28 : decode cX3_partnerOf 28 = .ok (.goto 4, 3) := by decide +kernel
theorem dX3_partnerOf_31 : decode cX3_partnerOf 31 = .ok (.iconst (-1), 1) := by decide +kernel
theorem dX3_partnerOf_32 : decode cX3_partnerOf 32 = .ok (.ireturn, 1) := by decide +kernel
theorem dX3_partnerOf_33 : decode cX3_partnerOf 33 = .ok (.iconst 0, 1) := by decide +kernel
theorem dX3_partnerOf_34 : decode cX3_partnerOf 34 = .ok (.istore_n 3, 1) := by decide +kernel
theorem dX3_partnerOf_35 : decode cX3_partnerOf 35 = .ok (.iload_n 3, 1) := by decide +kernel
theorem dX3_partnerOf_36 : decode cX3_partnerOf 36 = .ok (.aload_n 0, 1) := by decide +kernel
theorem dX3_partnerOf_37 : decode cX3_partnerOf 37 = .ok (.getfield 49, 3) := by decide +kernel
theorem dX3_partnerOf_40 : decode cX3_partnerOf 40 = .ok (.if_icmp .ge 21, 3) := by decide +kernel
theorem dX3_partnerOf_43 : decode cX3_partnerOf 43 = .ok (.aload_n 0, 1) := by decide +kernel
theorem dX3_partnerOf_44 : decode cX3_partnerOf 44 = .ok (.getfield 30, 3) := by decide +kernel
theorem dX3_partnerOf_47 : decode cX3_partnerOf 47 = .ok (.iload_n 3, 1) := by decide +kernel
theorem dX3_partnerOf_48 : decode cX3_partnerOf 48 = .ok (.iaload, 1) := by decide +kernel
theorem dX3_partnerOf_49 : decode cX3_partnerOf 49 = .ok (.iload_n 2, 1) := by decide +kernel
theorem dX3_partnerOf_50 : decode cX3_partnerOf 50 = .ok (.if_icmp .ne 5, 3) := by decide +kernel
theorem dX3_partnerOf_53 : decode cX3_partnerOf 53 = .ok (.iload_n 3, 1) := by decide +kernel
theorem dX3_partnerOf_54 : decode cX3_partnerOf 54 = .ok (.ireturn, 1) := by decide +kernel
theorem dX3_partnerOf_55 : decode cX3_partnerOf 55 = .ok (.iinc 3 1, 3) := by decide +kernel
theorem dX3_partnerOf_58 : decode cX3_partnerOf 58 = .ok (.goto (-23), 3) := by decide +kernel
theorem dX3_partnerOf_61 : decode cX3_partnerOf 61 = .ok (.iconst (-1), 1) := by decide +kernel
theorem dX3_partnerOf_62 : decode cX3_partnerOf 62 = .ok (.ireturn, 1) := by decide +kernel
theorem dX4_init_0 : decode cX4_init 0 = .ok (.aload_n 0, 1) := by decide +kernel
theorem dX4_init_1 : decode cX4_init 1 = .ok (.invokespecial 3, 3) := by decide +kernel
theorem dX4_init_4 : decode cX4_init 4 = .ok (.aload_n 0, 1) := by decide +kernel
theorem dX4_init_5 : decode cX4_init 5 = .ok (.bipush 6, 2) := by decide +kernel
theorem dX4_init_7 : decode cX4_init 7 = .ok (.newarray .int, 2) := by decide +kernel
theorem dX4_init_9 : decode cX4_init 9 = .ok (.putfield 9, 3) := by decide +kernel
theorem dX4_init_12 : decode cX4_init 12 = .ok (.aload_n 0, 1) := by decide +kernel
theorem dX4_init_13 : decode cX4_init 13 = .ok (.bipush 6, 2) := by decide +kernel
theorem dX4_init_15 : decode cX4_init 15 = .ok (.newarray .int, 2) := by decide +kernel
theorem dX4_init_17 : decode cX4_init 17 = .ok (.putfield 15, 3) := by decide +kernel
theorem dX4_init_20 : decode cX4_init 20 = .ok (.return_, 1) := by decide +kernel
theorem dX4_add_0 : decode cX4_add 0 = .ok (.iload_n 1, 1) := by decide +kernel
theorem dX4_add_1 : decode cX4_add 1 = .ok (.iconst 0, 1) := by decide +kernel
theorem dX4_add_2 : decode cX4_add 2 = .ok (.bipush 59, 2) := by decide +kernel
theorem dX4_add_4 : decode cX4_add 4 = .ok (.invokestatic 18, 3) := by decide +kernel
theorem dX4_add_7 : decode cX4_add 7 = .ok (.ifCond .eq 12, 3) := by decide +kernel
theorem dX4_add_10 : decode cX4_add 10 = .ok (.iload_n 2, 1) := by decide +kernel
theorem dX4_add_11 : decode cX4_add 11 = .ok (.iconst 0, 1) := by decide +kernel
theorem dX4_add_12 : decode cX4_add 12 = .ok (.iconst 3, 1) := by decide +kernel
theorem dX4_add_13 : decode cX4_add 13 = .ok (.invokestatic 18, 3) := by decide +kernel
theorem dX4_add_16 : decode cX4_add 16 = .ok (.ifCond .ne 6, 3) := by decide +kernel
theorem dX4_add_19 : decode cX4_add 19 = .ok (.bipush (-2), 2) := by decide +kernel
theorem dX4_add_21 : decode cX4_add 21 = .ok (.ireturn, 1) := by decide +kernel
theorem dX4_add_22 : decode cX4_add 22 = .ok (.aload_n 0, 1) := by decide +kernel
theorem dX4_add_23 : decode cX4_add 23 = .ok (.getfield 22, 3) := by decide +kernel
theorem dX4_add_26 : decode cX4_add 26 = .ok (.ifCond .lt 12, 3) := by decide +kernel
theorem dX4_add_29 : decode cX4_add 29 = .ok (.aload_n 0, 1) := by decide +kernel
theorem dX4_add_30 : decode cX4_add 30 = .ok (.getfield 22, 3) := by decide +kernel
theorem dX4_add_33 : decode cX4_add 33 = .ok (.bipush 6, 2) := by decide +kernel
theorem dX4_add_35 : decode cX4_add 35 = .ok (.if_icmp .lt 6, 3) := by decide +kernel
theorem dX4_add_38 : decode cX4_add 38 = .ok (.bipush (-4), 2) := by decide +kernel
theorem dX4_add_40 : decode cX4_add 40 = .ok (.ireturn, 1) := by decide +kernel
theorem dX4_add_41 : decode cX4_add 41 = .ok (.aload_n 0, 1) := by decide +kernel
theorem dX4_add_42 : decode cX4_add 42 = .ok (.getfield 9, 3) := by decide +kernel
theorem dX4_add_45 : decode cX4_add 45 = .ok (.aload_n 0, 1) := by decide +kernel
theorem dX4_add_46 : decode cX4_add 46 = .ok (.getfield 22, 3) := by decide +kernel
theorem dX4_add_49 : decode cX4_add 49 = .ok (.iload_n 1, 1) := by decide +kernel
theorem dX4_add_50 : decode cX4_add 50 = .ok (.iastore, 1) := by decide +kernel
theorem dX4_add_51 : decode cX4_add 51 = .ok (.aload_n 0, 1) := by decide +kernel
theorem dX4_add_52 : decode cX4_add 52 = .ok (.getfield 15, 3) := by decide +kernel
theorem dX4_add_55 : decode cX4_add 55 = .ok (.aload_n 0, 1) := by decide +kernel
theorem dX4_add_56 : decode cX4_add 56 = .ok (.getfield 22, 3) := by decide +kernel
theorem dX4_add_59 : decode cX4_add 59 = .ok (.iload_n 2, 1) := by decide +kernel
theorem dX4_add_60 : decode cX4_add 60 = .ok (.iastore, 1) := by decide +kernel
theorem dX4_add_61 : decode cX4_add 61 = .ok (.aload_n 0, 1) := by decide +kernel
theorem dX4_add_62 : decode cX4_add 62 = .ok (.dup, 1) := by decide +kernel
theorem dX4_add_63 : decode cX4_add 63 = .ok (.getfield 22, 3) := by decide +kernel
theorem dX4_add_66 : decode cX4_add 66 = .ok (.iconst 1, 1) := by decide +kernel
theorem dX4_add_67 : decode cX4_add 67 = .ok (.iadd, 1) := by decide +kernel
theorem dX4_add_68 : decode cX4_add 68 = .ok (.putfield 22, 3) := by decide +kernel
theorem dX4_add_71 : decode cX4_add 71 = .ok (.aload_n 0, 1) := by decide +kernel
theorem dX4_add_72 : decode cX4_add 72 = .ok (.getfield 22, 3) := by decide +kernel
theorem dX4_add_75 : decode cX4_add 75 = .ok (.iconst 1, 1) := by decide +kernel
theorem dX4_add_76 : decode cX4_add 76 = .ok (.isub, 1) := by decide +kernel
theorem dX4_add_77 : decode cX4_add 77 = .ok (.ireturn, 1) := by decide +kernel
theorem dX4_clear_0 : decode cX4_clear 0 = .ok (.aload_n 0, 1) := by decide +kernel
theorem dX4_clear_1 : decode cX4_clear 1 = .ok (.getfield 22, 3) := by decide +kernel
theorem dX4_clear_4 : decode cX4_clear 4 = .ok (.istore_n 1, 1) := by decide +kernel
theorem dX4_clear_5 : decode cX4_clear 5 = .ok (.aload_n 0, 1) := by decide +kernel
theorem dX4_clear_6 : decode cX4_clear 6 = .ok (.iconst 0, 1) := by decide +kernel
theorem dX4_clear_7 : decode cX4_clear 7 = .ok (.putfield 22, 3) := by decide +kernel
theorem dX4_clear_10 : decode cX4_clear 10 = .ok (.iload_n 1, 1) := by decide +kernel
theorem dX4_clear_11 : decode cX4_clear 11 = .ok (.ireturn, 1) := by decide +kernel
theorem dX4_wayTo_0 : decode cX4_wayTo 0 = .ok (.iload_n 1, 1) := by decide +kernel
theorem dX4_wayTo_1 : decode cX4_wayTo 1 = .ok (.iconst 0, 1) := by decide +kernel
theorem dX4_wayTo_2 : decode cX4_wayTo 2 = .ok (.aload_n 0, 1) := by decide +kernel
theorem dX4_wayTo_3 : decode cX4_wayTo 3 = .ok (.getfield 22, 3) := by decide +kernel
theorem dX4_wayTo_6 : decode cX4_wayTo 6 = .ok (.iconst 1, 1) := by decide +kernel
theorem dX4_wayTo_7 : decode cX4_wayTo 7 = .ok (.isub, 1) := by decide +kernel
theorem dX4_wayTo_8 : decode cX4_wayTo 8 = .ok (.invokestatic 18, 3) := by decide +kernel
theorem dX4_wayTo_11 : decode cX4_wayTo 11 = .ok (.ifCond .eq 17, 3) := by decide +kernel
theorem dX4_wayTo_14 : decode cX4_wayTo 14 = .ok (.iload_n 3, 1) := by decide +kernel
theorem dX4_wayTo_15 : decode cX4_wayTo 15 = .ok (.iconst 0, 1) := by decide +kernel
theorem dX4_wayTo_16 : decode cX4_wayTo 16 = .ok (.aload_n 2, 1) := by decide +kernel
theorem dX4_wayTo_17 : decode cX4_wayTo 17 = .ok (.getfield 22, 3) := by decide +kernel
theorem dX4_wayTo_20 : decode cX4_wayTo 20 = .ok (.iconst 1, 1) := by decide +kernel
theorem dX4_wayTo_21 : decode cX4_wayTo 21 = .ok (.isub, 1) := by decide +kernel
theorem dX4_wayTo_22 : decode cX4_wayTo 22 = .ok (.invokestatic 18, 3) := by decide +kernel
theorem dX4_wayTo_25 : decode cX4_wayTo 25 = .ok (.ifCond .ne 5, 3) := by decide +kernel
theorem dX4_wayTo_28 : decode cX4_wayTo 28 = .ok (.iconst 0, 1) := by decide +kernel
theorem dX4_wayTo_29 : decode cX4_wayTo 29 = .ok (.ireturn, 1) := by decide +kernel
theorem dX4_wayTo_30 : decode cX4_wayTo 30 = .ok (.aload_n 2, 1) := by decide +kernel
theorem dX4_wayTo_31 : decode cX4_wayTo 31 = .ok (.getfield 9, 3) := by decide +kernel
theorem dX4_wayTo_34 : decode cX4_wayTo 34 = .ok (.iload_n 3, 1) := by decide +kernel
theorem dX4_wayTo_35 : decode cX4_wayTo 35 = .ok (.iaload, 1) := by decide +kernel
theorem dX4_wayTo_36 : decode cX4_wayTo 36 = .ok (.aload_n 0, 1) := by decide +kernel
theorem dX4_wayTo_37 : decode cX4_wayTo 37 = .ok (.getfield 9, 3) := by decide +kernel
theorem dX4_wayTo_40 : decode cX4_wayTo 40 = .ok (.iload_n 1, 1) := by decide +kernel
theorem dX4_wayTo_41 : decode cX4_wayTo 41 = .ok (.iaload, 1) := by decide +kernel
theorem dX4_wayTo_42 : decode cX4_wayTo 42 = .ok (.isub, 1) := by decide +kernel
theorem dX4_wayTo_43 : decode cX4_wayTo 43 = .ok (.bipush 29, 2) := by decide +kernel
theorem dX4_wayTo_45 : decode cX4_wayTo 45 = .ok (.iadd, 1) := by decide +kernel
theorem dX4_wayTo_46 : decode cX4_wayTo 46 = .ok (.bipush 60, 2) := by decide +kernel
theorem dX4_wayTo_48 : decode cX4_wayTo 48 = .ok (.invokestatic 26, 3) := by decide +kernel
theorem dX4_wayTo_51 : decode cX4_wayTo 51 = .ok (.bipush 29, 2) := by decide +kernel
theorem dX4_wayTo_53 : decode cX4_wayTo 53 = .ok (.isub, 1) := by decide +kernel
theorem dX4_wayTo_54 : decode cX4_wayTo 54 = .ok (.ireturn, 1) := by decide +kernel
theorem dX4_sameForm_0 : decode cX4_sameForm 0 = .ok (.iload_n 1, 1) := by decide +kernel
theorem dX4_sameForm_1 : decode cX4_sameForm 1 = .ok (.iconst 0, 1) := by decide +kernel
theorem dX4_sameForm_2 : decode cX4_sameForm 2 = .ok (.aload_n 0, 1) := by decide +kernel
theorem dX4_sameForm_3 : decode cX4_sameForm 3 = .ok (.getfield 22, 3) := by decide +kernel
theorem dX4_sameForm_6 : decode cX4_sameForm 6 = .ok (.iconst 1, 1) := by decide +kernel
theorem dX4_sameForm_7 : decode cX4_sameForm 7 = .ok (.isub, 1) := by decide +kernel
theorem dX4_sameForm_8 : decode cX4_sameForm 8 = .ok (.invokestatic 18, 3) := by decide +kernel
theorem dX4_sameForm_11 : decode cX4_sameForm 11 = .ok (.ifCond .eq 36, 3) := by decide +kernel
theorem dX4_sameForm_14 : decode cX4_sameForm 14 = .ok (.iload_n 3, 1) := by decide +kernel
theorem dX4_sameForm_15 : decode cX4_sameForm 15 = .ok (.iconst 0, 1) := by decide +kernel
theorem dX4_sameForm_16 : decode cX4_sameForm 16 = .ok (.aload_n 2, 1) := by decide +kernel
theorem dX4_sameForm_17 : decode cX4_sameForm 17 = .ok (.getfield 22, 3) := by decide +kernel
theorem dX4_sameForm_20 : decode cX4_sameForm 20 = .ok (.iconst 1, 1) := by decide +kernel
theorem dX4_sameForm_21 : decode cX4_sameForm 21 = .ok (.isub, 1) := by decide +kernel
theorem dX4_sameForm_22 : decode cX4_sameForm 22 = .ok (.invokestatic 18, 3) := by decide +kernel
theorem dX4_sameForm_25 : decode cX4_sameForm 25 = .ok (.ifCond .eq 22, 3) := by decide +kernel
theorem dX4_sameForm_28 : decode cX4_sameForm 28 = .ok (.aload_n 0, 1) := by decide +kernel
theorem dX4_sameForm_29 : decode cX4_sameForm 29 = .ok (.getfield 15, 3) := by decide +kernel
theorem dX4_sameForm_32 : decode cX4_sameForm 32 = .ok (.iload_n 1, 1) := by decide +kernel
theorem dX4_sameForm_33 : decode cX4_sameForm 33 = .ok (.iaload, 1) := by decide +kernel
theorem dX4_sameForm_34 : decode cX4_sameForm 34 = .ok (.aload_n 2, 1) := by decide +kernel
theorem dX4_sameForm_35 : decode cX4_sameForm 35 = .ok (.getfield 15, 3) := by decide +kernel
theorem dX4_sameForm_38 : decode cX4_sameForm 38 = .ok (.iload_n 3, 1) := by decide +kernel
theorem dX4_sameForm_39 : decode cX4_sameForm 39 = .ok (.iaload, 1) := by decide +kernel
theorem dX4_sameForm_40 : decode cX4_sameForm 40 = .ok (.if_icmp .ne 7, 3) := by decide +kernel
theorem dX4_sameForm_43 : decode cX4_sameForm 43 = .ok (.iconst 1, 1) := by decide +kernel
theorem dX4_sameForm_44 : decode cX4_sameForm 44 = .ok (.goto 4, 3) := by decide +kernel
theorem dX4_sameForm_47 : decode cX4_sameForm 47 = .ok (.iconst 0, 1) := by decide +kernel
theorem dX4_sameForm_48 : decode cX4_sameForm 48 = .ok (.ireturn, 1) := by decide +kernel
theorem dX5_init_0 : decode cX5_init 0 = .ok (.aload_n 0, 1) := by decide +kernel
theorem dX5_init_1 : decode cX5_init 1 = .ok (.invokespecial 3, 3) := by decide +kernel
theorem dX5_init_4 : decode cX5_init 4 = .ok (.aload_n 0, 1) := by decide +kernel
theorem dX5_init_5 : decode cX5_init 5 = .ok (.bipush 64, 2) := by decide +kernel
theorem dX5_init_7 : decode cX5_init 7 = .ok (.newarray .int, 2) := by decide +kernel
theorem dX5_init_9 : decode cX5_init 9 = .ok (.putfield 9, 3) := by decide +kernel
theorem dX5_init_12 : decode cX5_init 12 = .ok (.aload_n 0, 1) := by decide +kernel
theorem dX5_init_13 : decode cX5_init 13 = .ok (.sipush 2048, 3) := by decide +kernel
theorem dX5_init_16 : decode cX5_init 16 = .ok (.newarray .int, 2) := by decide +kernel
theorem dX5_init_18 : decode cX5_init 18 = .ok (.putfield 15, 3) := by decide +kernel
theorem dX5_init_21 : decode cX5_init 21 = .ok (.aload_n 0, 1) := by decide +kernel
theorem dX5_init_22 : decode cX5_init 22 = .ok (.sipush 2048, 3) := by decide +kernel
theorem dX5_init_25 : decode cX5_init 25 = .ok (.newarray .int, 2) := by decide +kernel
theorem dX5_init_27 : decode cX5_init 27 = .ok (.putfield 18, 3) := by decide +kernel
theorem dX5_init_30 : decode cX5_init 30 = .ok (.aload_n 0, 1) := by decide +kernel
theorem dX5_init_31 : decode cX5_init 31 = .ok (.bipush 8, 2) := by decide +kernel
theorem dX5_init_33 : decode cX5_init 33 = .ok (.newarray .int, 2) := by decide +kernel
theorem dX5_init_35 : decode cX5_init 35 = .ok (.putfield 21, 3) := by decide +kernel
theorem dX5_init_38 : decode cX5_init 38 = .ok (.return_, 1) := by decide +kernel
theorem dX5_search_0 : decode cX5_search 0 = .ok (.aload_n 0, 1) := by decide +kernel
theorem dX5_search_1 : decode cX5_search 1 = .ok (.aload_n 1, 1) := by decide +kernel
theorem dX5_search_2 : decode cX5_search 2 = .ok (.getfield 24, 3) := by decide +kernel
theorem dX5_search_5 : decode cX5_search 5 = .ok (.bipush 8, 2) := by decide +kernel
theorem dX5_search_7 : decode cX5_search 7 = .ok (.invokestatic 30, 3) := by decide +kernel
theorem dX5_search_10 : decode cX5_search 10 = .ok (.putfield 36, 3) := by decide +kernel
theorem dX5_search_13 : decode cX5_search 13 = .ok (.iconst 0, 1) := by decide +kernel
theorem dX5_search_14 : decode cX5_search 14 = .ok (.istore_n 3, 1) := by decide +kernel
theorem dX5_search_15 : decode cX5_search 15 = .ok (.iload_n 3, 1) := by decide +kernel
theorem dX5_search_16 : decode cX5_search 16 = .ok (.aload_n 0, 1) := by decide +kernel
theorem dX5_search_17 : decode cX5_search 17 = .ok (.getfield 36, 3) := by decide +kernel
theorem dX5_search_20 : decode cX5_search 20 = .ok (.if_icmp .ge 47, 3) := by decide +kernel
theorem dX5_search_23 : decode cX5_search 23 = .ok (.iconst 0, 1) := by decide +kernel
theorem dX5_search_24 : decode cX5_search 24 = .ok (.istore 4, 2) := by decide +kernel
theorem dX5_search_26 : decode cX5_search 26 = .ok (.iload 4, 2) := by decide +kernel
theorem dX5_search_28 : decode cX5_search 28 = .ok (.aload_n 0, 1) := by decide +kernel
theorem dX5_search_29 : decode cX5_search 29 = .ok (.getfield 36, 3) := by decide +kernel
theorem dX5_search_32 : decode cX5_search 32 = .ok (.if_icmp .ge 29, 3) := by decide +kernel
theorem dX5_search_35 : decode cX5_search 35 = .ok (.aload_n 0, 1) := by decide +kernel
theorem dX5_search_36 : decode cX5_search 36 = .ok (.getfield 9, 3) := by decide +kernel
theorem dX5_search_39 : decode cX5_search 39 = .ok (.iload_n 3, 1) := by decide +kernel
theorem dX5_search_40 : decode cX5_search 40 = .ok (.bipush 8, 2) := by decide +kernel
theorem dX5_search_42 : decode cX5_search 42 = .ok (.imul, 1) := by decide +kernel
theorem dX5_search_43 : decode cX5_search 43 = .ok (.iload 4, 2) := by decide +kernel
theorem dX5_search_45 : decode cX5_search 45 = .ok (.iadd, 1) := by decide +kernel
theorem dX5_search_46 : decode cX5_search 46 = .ok (.aload_n 1, 1) := by decide +kernel
theorem dX5_search_47 : decode cX5_search 47 = .ok (.iload_n 3, 1) := by decide +kernel
theorem dX5_search_48 : decode cX5_search 48 = .ok (.iload 4, 2) := by decide +kernel
theorem dX5_search_50 : decode cX5_search 50 = .ok (.iload_n 2, 1) := by decide +kernel
theorem dX5_search_51 : decode cX5_search 51 = .ok (.invokevirtual 37, 3) := by decide +kernel
theorem dX5_search_54 : decode cX5_search 54 = .ok (.iastore, 1) := by decide +kernel
theorem dX5_search_55 : decode cX5_search 55 = .ok (.iinc 4 1, 3) := by decide +kernel
theorem dX5_search_58 : decode cX5_search 58 = .ok (.goto (-32), 3) := by decide +kernel
theorem dX5_search_61 : decode cX5_search 61 = .ok (.iinc 3 1, 3) := by decide +kernel
theorem dX5_search_64 : decode cX5_search 64 = .ok (.goto (-49), 3) := by decide +kernel
theorem dX5_search_67 : decode cX5_search 67 = .ok (.iconst 1, 1) := by decide +kernel
theorem dX5_search_68 : decode cX5_search 68 = .ok (.aload_n 0, 1) := by decide +kernel
theorem dX5_search_69 : decode cX5_search 69 = .ok (.getfield 36, 3) := by decide +kernel
theorem dX5_search_72 : decode cX5_search 72 = .ok (.ishl, 1) := by decide +kernel
theorem dX5_search_73 : decode cX5_search 73 = .ok (.iconst 1, 1) := by decide +kernel
theorem dX5_search_74 : decode cX5_search 74 = .ok (.isub, 1) := by decide +kernel
theorem dX5_search_75 : decode cX5_search 75 = .ok (.istore_n 3, 1) := by decide +kernel
theorem dX5_search_76 : decode cX5_search 76 = .ok (.iload_n 3, 1) := by decide +kernel
theorem dX5_search_77 : decode cX5_search 77 = .ok (.ifCond .le 44, 3) := by decide +kernel
theorem dX5_search_80 : decode cX5_search 80 = .ok (.iconst 0, 1) := by decide +kernel
theorem dX5_search_81 : decode cX5_search 81 = .ok (.istore 4, 2) := by decide +kernel
theorem dX5_search_83 : decode cX5_search 83 = .ok (.iload 4, 2) := by decide +kernel
theorem dX5_search_85 : decode cX5_search 85 = .ok (.aload_n 0, 1) := by decide +kernel
theorem dX5_search_86 : decode cX5_search 86 = .ok (.getfield 36, 3) := by decide +kernel
theorem dX5_search_89 : decode cX5_search 89 = .ok (.if_icmp .ge 26, 3) := by decide +kernel
theorem dX5_search_92 : decode cX5_search 92 = .ok (.iload_n 3, 1) := by decide +kernel
theorem dX5_search_93 : decode cX5_search 93 = .ok (.iload 4, 2) := by decide +kernel
theorem dX5_search_95 : decode cX5_search 95 = .ok (.ishr, 1) := by decide +kernel
theorem dX5_search_96 : decode cX5_search 96 = .ok (.iconst 1, 1) := by decide +kernel
theorem dX5_search_97 : decode cX5_search 97 = .ok (.iand, 1) := by decide +kernel
theorem dX5_search_98 : decode cX5_search 98 = .ok (.iconst 1, 1) := by decide +kernel
theorem dX5_search_99 : decode cX5_search 99 = .ok (.if_icmp .ne 10, 3) := by decide +kernel
theorem dX5_search_102 : decode cX5_search 102 = .ok (.aload_n 0, 1) := by decide +kernel
theorem dX5_search_103 : decode cX5_search 103 = .ok (.iload_n 3, 1) := by decide +kernel
theorem dX5_search_104 : decode cX5_search 104 = .ok (.iload 4, 2) := by decide +kernel
theorem dX5_search_106 : decode cX5_search 106 = .ok (.invokevirtual 41, 3) := by decide +kernel
theorem dX5_search_109 : decode cX5_search 109 = .ok (.iinc 4 1, 3) := by decide +kernel
theorem dX5_search_112 : decode cX5_search 112 = .ok (.goto (-29), 3) := by decide +kernel
theorem dX5_search_115 : decode cX5_search 115 = .ok (.iinc 3 (-2), 3) := by decide +kernel
theorem dX5_search_118 : decode cX5_search 118 = .ok (.goto (-42), 3) := by decide +kernel
theorem dX5_search_121 : decode cX5_search 121 = .ok (.aload_n 0, 1) := by decide +kernel
theorem dX5_search_122 : decode cX5_search 122 = .ok (.invokevirtual 45, 3) := by decide +kernel
theorem dX5_search_125 : decode cX5_search 125 = .ok (.return_, 1) := by decide +kernel
theorem dX5_settle_0 : decode cX5_settle 0 = .ok (.iload_n 1, 1) := by decide +kernel
theorem dX5_settle_1 : decode cX5_settle 1 = .ok (.bipush 8, 2) := by decide +kernel
theorem dX5_settle_3 : decode cX5_settle 3 = .ok (.imul, 1) := by decide +kernel
theorem dX5_settle_4 : decode cX5_settle 4 = .ok (.iload_n 2, 1) := by decide +kernel
theorem dX5_settle_5 : decode cX5_settle 5 = .ok (.iadd, 1) := by decide +kernel
theorem dX5_settle_6 : decode cX5_settle 6 = .ok (.istore_n 3, 1) := by decide +kernel
theorem dX5_settle_7 : decode cX5_settle 7 = .ok (.iload_n 1, 1) := by decide +kernel
theorem dX5_settle_8 : decode cX5_settle 8 = .ok (.iconst 1, 1) := by decide +kernel
theorem dX5_settle_9 : decode cX5_settle 9 = .ok (.aload_n 0, 1) := by decide +kernel
theorem dX5_settle_10 : decode cX5_settle 10 = .ok (.getfield 36, 3) := by decide +kernel
theorem dX5_settle_13 : decode cX5_settle 13 = .ok (.ishl, 1) := by decide +kernel
theorem dX5_settle_14 : decode cX5_settle 14 = .ok (.iconst 1, 1) := by decide +kernel
theorem dX5_settle_15 : decode cX5_settle 15 = .ok (.isub, 1) := by decide +kernel
theorem dX5_settle_16 : decode cX5_settle 16 = .ok (.if_icmp .ne 7, 3) := by decide +kernel
theorem dX5_settle_19 : decode cX5_settle 19 = .ok (.iconst 1, 1) := by decide +kernel
theorem dX5_settle_20 : decode cX5_settle 20 = .ok (.goto 4, 3) := by decide +kernel
theorem dX5_settle_23 : decode cX5_settle 23 = .ok (.iconst 0, 1) := by decide +kernel
theorem dX5_settle_24 : decode cX5_settle 24 = .ok (.istore 4, 2) := by decide +kernel
theorem dX5_settle_26 : decode cX5_settle 26 = .ok (.aload_n 0, 1) := by decide +kernel
theorem dX5_settle_27 : decode cX5_settle 27 = .ok (.getfield 15, 3) := by decide +kernel
theorem dX5_settle_30 : decode cX5_settle 30 = .ok (.iload_n 3, 1) := by decide +kernel
theorem dX5_settle_31 : decode cX5_settle 31 = .ok (.iload 4, 2) := by decide +kernel
theorem dX5_settle_33 : decode cX5_settle 33 = .ok (.ifCond .eq 15, 3) := by decide +kernel
theorem dX5_settle_36 : decode cX5_settle 36 = .ok (.aload_n 0, 1) := by decide +kernel
theorem dX5_settle_37 : decode cX5_settle 37 = .ok (.getfield 9, 3) := by decide +kernel
theorem dX5_settle_40 : decode cX5_settle 40 = .ok (.iload_n 2, 1) := by decide +kernel
theorem dX5_settle_41 : decode cX5_settle 41 = .ok (.bipush 8, 2) := by decide +kernel
theorem dX5_settle_43 : decode cX5_settle 43 = .ok (.imul, 1) := by decide +kernel
theorem dX5_settle_44 : decode cX5_settle 44 = .ok (.iaload, 1) := by decide +kernel
theorem dX5_settle_45 : decode cX5_settle 45 = .ok (.goto 4, 3) := by decide +kernel
theorem dX5_settle_48 : decode cX5_settle 48 = .ok (.iconst 0, 1) := by decide +kernel
theorem dX5_settle_49 : decode cX5_settle 49 = .ok (.iastore, 1) := by decide +kernel
theorem dX5_settle_50 : decode cX5_settle 50 = .ok (.aload_n 0, 1) := by decide +kernel
theorem dX5_settle_51 : decode cX5_settle 51 = .ok (.getfield 18, 3) := by decide +kernel
theorem dX5_settle_54 : decode cX5_settle 54 = .ok (.iload_n 3, 1) := by decide +kernel
theorem dX5_settle_55 : decode cX5_settle 55 = .ok (.iload 4, 2) := by decide +kernel
theorem dX5_settle_57 : decode cX5_settle 57 = .ok (.ifCond .eq 7, 3) := by decide +kernel
theorem dX5_settle_60 : decode cX5_settle 60 = .ok (.iconst 1, 1) := by decide +kernel
theorem dX5_settle_61 : decode cX5_settle 61 = .ok (.goto 4, 3) := by decide +kernel
theorem dX5_settle_64 : decode cX5_settle 64 = .ok (.iconst 0, 1) := by decide +kernel
theorem dX5_settle_65 : decode cX5_settle 65 = .ok (.iastore, 1) := by decide +kernel
theorem dX5_settle_66 : decode cX5_settle 66 = .ok (.iconst 0, 1) := by decide +kernel
theorem dX5_settle_67 : decode cX5_settle 67 = .ok (.istore 5, 2) := by decide +kernel
theorem dX5_settle_69 : decode cX5_settle 69 = .ok (.iload 5, 2) := by decide +kernel
theorem dX5_settle_71 : decode cX5_settle 71 = .ok (.aload_n 0, 1) := by decide +kernel
theorem dX5_settle_72 : decode cX5_settle 72 = .ok (.getfield 36, 3) := by decide +kernel
theorem dX5_settle_75 : decode cX5_settle 75 = .ok (.if_icmp .ge 100, 3) := by decide +kernel
theorem dX5_settle_78 : decode cX5_settle 78 = .ok (.iload_n 1, 1) := by decide +kernel
theorem dX5_settle_79 : decode cX5_settle 79 = .ok (.iload 5, 2) := by decide +kernel
theorem dX5_settle_81 : decode cX5_settle 81 = .ok (.ishr, 1) := by decide +kernel
theorem dX5_settle_82 : decode cX5_settle 82 = .ok (.iconst 1, 1) := by decide +kernel
theorem dX5_settle_83 : decode cX5_settle 83 = .ok (.iand, 1) := by decide +kernel
theorem dX5_settle_84 : decode cX5_settle 84 = .ok (.ifCond .ne 85, 3) := by decide +kernel
theorem dX5_settle_87 : decode cX5_settle 87 = .ok (.aload_n 0, 1) := by decide +kernel
theorem dX5_settle_88 : decode cX5_settle 88 = .ok (.iload_n 1, 1) := by decide +kernel
theorem dX5_settle_89 : decode cX5_settle 89 = .ok (.iload_n 2, 1) := by decide +kernel
theorem dX5_settle_90 : decode cX5_settle 90 = .ok (.iload 5, 2) := by decide +kernel
theorem dX5_settle_92 : decode cX5_settle 92 = .ok (.invokevirtual 48, 3) := by decide +kernel
theorem dX5_settle_95 : decode cX5_settle 95 = .ok (.istore 6, 2) := by decide +kernel
theorem dX5_settle_97 : decode cX5_settle 97 = .ok (.aload_n 0, 1) := by decide +kernel
theorem dX5_settle_98 : decode cX5_settle 98 = .ok (.getfield 18, 3) := by decide +kernel
theorem dX5_settle_101 : decode cX5_settle 101 = .ok (.iload_n 3, 1) := by decide +kernel
theorem dX5_settle_102 : decode cX5_settle 102 = .ok (.iaload, 1) := by decide +kernel
theorem dX5_settle_103 : decode cX5_settle 103 = .ok (.ifCond .eq 14, 3) := by decide +kernel
theorem dX5_settle_106 : decode cX5_settle 106 = .ok (.iload 6, 2) := by decide +kernel
theorem dX5_settle_108 : decode cX5_settle 108 = .ok (.aload_n 0, 1) := by decide +kernel
theorem dX5_settle_109 : decode cX5_settle 109 = .ok (.getfield 15, 3) := by decide +kernel
theorem dX5_settle_112 : decode cX5_settle 112 = .ok (.iload_n 3, 1) := by decide +kernel
theorem dX5_settle_113 : decode cX5_settle 113 = .ok (.iaload, 1) := by decide +kernel
theorem dX5_settle_114 : decode cX5_settle 114 = .ok (.if_icmp .ge 18, 3) := by decide +kernel
theorem dX5_settle_117 : decode cX5_settle 117 = .ok (.aload_n 0, 1) := by decide +kernel
theorem dX5_settle_118 : decode cX5_settle 118 = .ok (.getfield 15, 3) := by decide +kernel
theorem dX5_settle_121 : decode cX5_settle 121 = .ok (.iload_n 3, 1) := by decide +kernel
theorem dX5_settle_122 : decode cX5_settle 122 = .ok (.iload 6, 2) := by decide +kernel
theorem dX5_settle_124 : decode cX5_settle 124 = .ok (.iastore, 1) := by decide +kernel
theorem dX5_settle_125 : decode cX5_settle 125 = .ok (.aload_n 0, 1) := by decide +kernel
theorem dX5_settle_126 : decode cX5_settle 126 = .ok (.getfield 18, 3) := by decide +kernel
theorem dX5_settle_129 : decode cX5_settle 129 = .ok (.iload_n 3, 1) := by decide +kernel
theorem dX5_settle_130 : decode cX5_settle 130 = .ok (.iconst 0, 1) := by decide +kernel
theorem dX5_settle_131 : decode cX5_settle 131 = .ok (.iastore, 1) := by decide +kernel
theorem dX5_settle_132 : decode cX5_settle 132 = .ok (.iload 6, 2) := by decide +kernel
theorem dX5_settle_134 : decode cX5_settle 134 = .ok (.aload_n 0, 1) := by decide +kernel
theorem dX5_settle_135 : decode cX5_settle 135 = .ok (.getfield 15, 3) := by decide +kernel
theorem dX5_settle_138 : decode cX5_settle 138 = .ok (.iload_n 3, 1) := by decide +kernel
theorem dX5_settle_139 : decode cX5_settle 139 = .ok (.iaload, 1) := by decide +kernel
theorem dX5_settle_140 : decode cX5_settle 140 = .ok (.if_icmp .ne 29, 3) := by decide +kernel
theorem dX5_settle_143 : decode cX5_settle 143 = .ok (.aload_n 0, 1) := by decide +kernel
theorem dX5_settle_144 : decode cX5_settle 144 = .ok (.getfield 18, 3) := by decide +kernel
theorem dX5_settle_147 : decode cX5_settle 147 = .ok (.iload_n 3, 1) := by decide +kernel
theorem dX5_settle_148 : decode cX5_settle 148 = .ok (.dup2, 1) := by decide +kernel
theorem dX5_settle_149 : decode cX5_settle 149 = .ok (.iaload, 1) := by decide +kernel
theorem dX5_settle_150 : decode cX5_settle 150 = .ok (.aload_n 0, 1) := by decide +kernel
theorem dX5_settle_151 : decode cX5_settle 151 = .ok (.getfield 18, 3) := by decide +kernel
theorem dX5_settle_154 : decode cX5_settle 154 = .ok (.iload_n 1, 1) := by decide +kernel
theorem dX5_settle_155 : decode cX5_settle 155 = .ok (.iconst 1, 1) := by decide +kernel
theorem dX5_settle_156 : decode cX5_settle 156 = .ok (.iload 5, 2) := by decide +kernel
theorem dX5_settle_158 : decode cX5_settle 158 = .ok (.ishl, 1) := by decide +kernel
theorem dX5_settle_159 : decode cX5_settle 159 = .ok (.ior, 1) := by decide +kernel
theorem dX5_settle_160 : decode cX5_settle 160 = .ok (.bipush 8, 2) := by decide +kernel
theorem dX5_settle_162 : decode cX5_settle 162 = .ok (.imul, 1) := by decide +kernel
theorem dX5_settle_163 : decode cX5_settle 163 = .ok (.iload 5, 2) := by decide +kernel
theorem dX5_settle_165 : decode cX5_settle 165 = .ok (.iadd, 1) := by decide +kernel
theorem dX5_settle_166 : decode cX5_settle 166 = .ok (.iaload, 1) := by decide +kernel
theorem dX5_settle_167 : decode cX5_settle 167 = .ok (.iadd, 1) := by decide +kernel
theorem dX5_settle_168 : decode cX5_settle 168 = .ok (.iastore, 1) := by decide +kernel
theorem dX5_settle_169 : decode cX5_settle 169 = .ok (.iinc 5 1, 3) := by decide +kernel
theorem dX5_settle_172 : decode cX5_settle 172 = .ok (.goto (-103), 3) := by decide +kernel
theorem dX5_settle_175 : decode cX5_settle 175 = .ok (.return_, 1) := by decide +kernel
theorem dX5_sumBy_0 : decode cX5_sumBy 0 = .ok (.aload_n 0, 1) := by decide +kernel
theorem dX5_sumBy_1 : decode cX5_sumBy 1 = .ok (.getfield 9, 3) := by decide +kernel
theorem dX5_sumBy_4 : decode cX5_sumBy 4 = .ok (.iload_n 2, 1) := by decide +kernel
theorem dX5_sumBy_5 : decode cX5_sumBy 5 = .ok (.bipush 8, 2) := by decide +kernel
theorem dX5_sumBy_7 : decode cX5_sumBy 7 = .ok (.imul, 1) := by decide +kernel
theorem dX5_sumBy_8 : decode cX5_sumBy 8 = .ok (.iload_n 3, 1) := by decide +kernel
theorem dX5_sumBy_9 : decode cX5_sumBy 9 = .ok (.iadd, 1) := by decide +kernel
theorem dX5_sumBy_10 : decode cX5_sumBy 10 = .ok (.iaload, 1) := by decide +kernel
theorem dX5_sumBy_11 : decode cX5_sumBy 11 = .ok (.aload_n 0, 1) := by decide +kernel
theorem dX5_sumBy_12 : decode cX5_sumBy 12 = .ok (.getfield 15, 3) := by decide +kernel
theorem dX5_sumBy_15 : decode cX5_sumBy 15 = .ok (.iload_n 1, 1) := by decide +kernel
theorem dX5_sumBy_16 : decode cX5_sumBy 16 = .ok (.iconst 1, 1) := by decide +kernel
theorem dX5_sumBy_17 : decode cX5_sumBy 17 = .ok (.iload_n 3, 1) := by decide +kernel
theorem dX5_sumBy_18 : decode cX5_sumBy 18 = .ok (.ishl, 1) := by decide +kernel
theorem dX5_sumBy_19 : decode cX5_sumBy 19 = .ok (.ior, 1) := by decide +kernel
theorem dX5_sumBy_20 : decode cX5_sumBy 20 = .ok (.bipush 8, 2) := by decide +kernel
theorem dX5_sumBy_22 : decode cX5_sumBy 22 = .ok (.imul, 1) := by decide +kernel
theorem dX5_sumBy_23 : decode cX5_sumBy 23 = .ok (.iload_n 3, 1) := by decide +kernel
theorem dX5_sumBy_24 : decode cX5_sumBy 24 = .ok (.iadd, 1) := by decide +kernel
theorem dX5_sumBy_25 : decode cX5_sumBy 25 = .ok (.iaload, 1) := by decide +kernel
theorem dX5_sumBy_26 : decode cX5_sumBy 26 = .ok (.iadd, 1) := by decide +kernel
theorem dX5_sumBy_27 : decode cX5_sumBy 27 = .ok (.ireturn, 1) := by decide +kernel
theorem dX5_layRow_0 : decode cX5_layRow 0 = .ok (.iconst 1, 1) := by decide +kernel
theorem dX5_layRow_1 : decode cX5_layRow 1 = .ok (.istore_n 1, 1) := by decide +kernel
theorem dX5_layRow_2 : decode cX5_layRow 2 = .ok (.iconst 0, 1) := by decide +kernel
theorem dX5_layRow_3 : decode cX5_layRow 3 = .ok (.istore_n 2, 1) := by decide +kernel
theorem dX5_layRow_4 : decode cX5_layRow 4 = .ok (.aload_n 0, 1) := by decide +kernel
theorem dX5_layRow_5 : decode cX5_layRow 5 = .ok (.getfield 21, 3) := by decide +kernel
theorem dX5_layRow_8 : decode cX5_layRow 8 = .ok (.iconst 0, 1) := by decide +kernel
theorem dX5_layRow_9 : decode cX5_layRow 9 = .ok (.iconst 0, 1) := by decide +kernel
theorem dX5_layRow_10 : decode cX5_layRow 10 = .ok (.iastore, 1) := by decide +kernel
theorem dX5_layRow_11 : decode cX5_layRow 11 = .ok (.iconst 1, 1) := by decide +kernel
theorem dX5_layRow_12 : decode cX5_layRow 12 = .ok (.istore_n 3, 1) := by decide +kernel
theorem dX5_layRow_13 : decode cX5_layRow 13 = .ok (.iload_n 3, 1) := by decide +kernel
theorem dX5_layRow_14 : decode cX5_layRow 14 = .ok (.aload_n 0, 1) := by decide +kernel
theorem dX5_layRow_15 : decode cX5_layRow 15 = .ok (.getfield 36, 3) := by decide +kernel
theorem dX5_layRow_18 : decode cX5_layRow 18 = .ok (.if_icmp .ge 35, 3) := by decide +kernel
theorem dX5_layRow_21 : decode cX5_layRow 21 = .ok (.aload_n 0, 1) := by decide +kernel
theorem dX5_layRow_22 : decode cX5_layRow 22 = .ok (.iload_n 1, 1) := by decide +kernel
theorem dX5_layRow_23 : decode cX5_layRow 23 = .ok (.iload_n 2, 1) := by decide +kernel
theorem dX5_layRow_24 : decode cX5_layRow 24 = .ok (.invokevirtual 51, 3) := by decide +kernel
theorem dX5_layRow_27 : decode cX5_layRow 27 = .ok (.istore 4, 2) := by decide +kernel
theorem dX5_layRow_29 : decode cX5_layRow 29 = .ok (.aload_n 0, 1) := by decide +kernel
theorem dX5_layRow_30 : decode cX5_layRow 30 = .ok (.getfield 21, 3) := by decide +kernel
theorem dX5_layRow_33 : decode cX5_layRow 33 = .ok (.iload_n 3, 1) := by decide +kernel
theorem dX5_layRow_34 : decode cX5_layRow 34 = .ok (.iload 4, 2) := by decide +kernel
theorem dX5_layRow_36 : decode cX5_layRow 36 = .ok (.iastore, 1) := by decide +kernel
theorem dX5_layRow_37 : decode cX5_layRow 37 = .ok (.iload_n 1, 1) := by decide +kernel
theorem dX5_layRow_38 : decode cX5_layRow 38 = .ok (.iconst 1, 1) := by decide +kernel
theorem dX5_layRow_39 : decode cX5_layRow 39 = .ok (.iload 4, 2) := by decide +kernel
theorem dX5_layRow_41 : decode cX5_layRow 41 = .ok (.ishl, 1) := by decide +kernel
theorem dX5_layRow_42 : decode cX5_layRow 42 = .ok (.ior, 1) := by decide +kernel
theorem dX5_layRow_43 : decode cX5_layRow 43 = .ok (.istore_n 1, 1) := by decide +kernel
theorem dX5_layRow_44 : decode cX5_layRow 44 = .ok (.iload 4, 2) := by decide +kernel
theorem dX5_layRow_46 : decode cX5_layRow 46 = .ok (.istore_n 2, 1) := by decide +kernel
theorem dX5_layRow_47 : decode cX5_layRow 47 = .ok (.iinc 3 1, 3) := by decide +kernel
theorem dX5_layRow_50 : decode cX5_layRow 50 = .ok (.goto (-37), 3) := by decide +kernel
theorem dX5_layRow_53 : decode cX5_layRow 53 = .ok (.return_, 1) := by decide +kernel
theorem dX5_firstBest_0 : decode cX5_firstBest 0 = .ok (.iconst 0, 1) := by decide +kernel
theorem dX5_firstBest_1 : decode cX5_firstBest 1 = .ok (.istore_n 3, 1) := by decide +kernel
theorem dX5_firstBest_2 : decode cX5_firstBest 2 = .ok (.iload_n 3, 1) := by decide +kernel
theorem dX5_firstBest_3 : decode cX5_firstBest 3 = .ok (.aload_n 0, 1) := by decide +kernel
theorem dX5_firstBest_4 : decode cX5_firstBest 4 = .ok (.getfield 36, 3) := by decide +kernel
theorem dX5_firstBest_7 : decode cX5_firstBest 7 = .ok (.if_icmp .ge 40, 3) := by decide +kernel
theorem dX5_firstBest_10 : decode cX5_firstBest 10 = .ok (.iload_n 1, 1) := by decide +kernel
theorem dX5_firstBest_11 : decode cX5_firstBest 11 = .ok (.iload_n 3, 1) := by decide +kernel
theorem dX5_firstBest_12 : decode cX5_firstBest 12 = .ok (.ishr, 1) := by decide +kernel
theorem dX5_firstBest_13 : decode cX5_firstBest 13 = .ok (.iconst 1, 1) := by decide +kernel
theorem dX5_firstBest_14 : decode cX5_firstBest 14 = .ok (.iand, 1) := by decide +kernel
theorem dX5_firstBest_15 : decode cX5_firstBest 15 = .ok (.ifCond .ne 26, 3) := by decide +kernel
theorem dX5_firstBest_18 : decode cX5_firstBest 18 = .ok (.aload_n 0, 1) := by decide +kernel
theorem dX5_firstBest_19 : decode cX5_firstBest 19 = .ok (.iload_n 1, 1) := by decide +kernel
theorem dX5_firstBest_20 : decode cX5_firstBest 20 = .ok (.iload_n 2, 1) := by decide +kernel
theorem dX5_firstBest_21 : decode cX5_firstBest 21 = .ok (.iload_n 3, 1) := by decide +kernel
theorem dX5_firstBest_22 : decode cX5_firstBest 22 = .ok (.invokevirtual 48, 3) := by decide +kernel
theorem dX5_firstBest_25 : decode cX5_firstBest 25 = .ok (.aload_n 0, 1) := by decide +kernel
theorem dX5_firstBest_26 : decode cX5_firstBest 26 = .ok (.getfield 15, 3) := by decide +kernel
theorem dX5_firstBest_29 : decode cX5_firstBest 29 = .ok (.iload_n 1, 1) := by decide +kernel
theorem dX5_firstBest_30 : decode cX5_firstBest 30 = .ok (.bipush 8, 2) := by decide +kernel
theorem dX5_firstBest_32 : decode cX5_firstBest 32 = .ok (.imul, 1) := by decide +kernel
theorem dX5_firstBest_33 : decode cX5_firstBest 33 = .ok (.iload_n 2, 1) := by decide +kernel
theorem dX5_firstBest_34 : decode cX5_firstBest 34 = .ok (.iadd, 1) := by decide +kernel
theorem dX5_firstBest_35 : decode cX5_firstBest 35 = .ok (.iaload, 1) := by decide +kernel
theorem dX5_firstBest_36 : decode cX5_firstBest 36 = .ok (.if_icmp .ne 5, 3) := by decide +kernel
theorem dX5_firstBest_39 : decode cX5_firstBest 39 = .ok (.iload_n 3, 1) := by decide +kernel
theorem dX5_firstBest_40 : decode cX5_firstBest 40 = .ok (.ireturn, 1) := by decide +kernel
theorem dX5_firstBest_41 : decode cX5_firstBest 41 = .ok (.iinc 3 1, 3) := by decide +kernel
theorem dX5_firstBest_44 : decode cX5_firstBest 44 = .ok (.goto (-42), 3) := by decide +kernel
theorem dX5_firstBest_47 : decode cX5_firstBest 47 = .ok (.iconst 0, 1) := by decide +kernel
theorem dX5_firstBest_48 : decode cX5_firstBest 48 = .ok (.ireturn, 1) := by decide +kernel
theorem dX5_sum_0 : decode cX5_sum 0 = .ok (.aload_n 0, 1) := by decide +kernel
theorem dX5_sum_1 : decode cX5_sum 1 = .ok (.getfield 15, 3) := by decide +kernel
theorem dX5_sum_4 : decode cX5_sum 4 = .ok (.bipush 8, 2) := by decide +kernel
theorem dX5_sum_6 : decode cX5_sum 6 = .ok (.iaload, 1) := by decide +kernel
theorem dX5_sum_7 : decode cX5_sum 7 = .ok (.ireturn, 1) := by decide +kernel
theorem dX5_howMany_0 : decode cX5_howMany 0 = .ok (.aload_n 0, 1) := by decide +kernel
theorem dX5_howMany_1 : decode cX5_howMany 1 = .ok (.getfield 18, 3) := by decide +kernel
theorem dX5_howMany_4 : decode cX5_howMany 4 = .ok (.bipush 8, 2) := by decide +kernel
theorem dX5_howMany_6 : decode cX5_howMany 6 = .ok (.iaload, 1) := by decide +kernel
theorem dX5_howMany_7 : decode cX5_howMany 7 = .ok (.ireturn, 1) := by decide +kernel
theorem dX5_pictureAt_0 : decode cX5_pictureAt 0 = .ok (.iload_n 1, 1) := by decide +kernel
theorem dX5_pictureAt_1 : decode cX5_pictureAt 1 = .ok (.iconst 0, 1) := by decide +kernel
theorem dX5_pictureAt_2 : decode cX5_pictureAt 2 = .ok (.aload_n 0, 1) := by decide +kernel
theorem dX5_pictureAt_3 : decode cX5_pictureAt 3 = .ok (.getfield 21, 3) := by decide +kernel
theorem dX5_pictureAt_6 : decode cX5_pictureAt 6 = .ok (.arraylength, 1) := by decide +kernel
theorem dX5_pictureAt_7 : decode cX5_pictureAt 7 = .ok (.iconst 1, 1) := by decide +kernel
theorem dX5_pictureAt_8 : decode cX5_pictureAt 8 = .ok (.isub, 1) := by decide +kernel
theorem dX5_pictureAt_9 : decode cX5_pictureAt 9 = .ok (.invokestatic 54, 3) := by decide +kernel
theorem dX5_pictureAt_12 : decode cX5_pictureAt 12 = .ok (.ifCond .eq 12, 3) := by decide +kernel
theorem dX5_pictureAt_15 : decode cX5_pictureAt 15 = .ok (.aload_n 0, 1) := by decide +kernel
theorem dX5_pictureAt_16 : decode cX5_pictureAt 16 = .ok (.getfield 21, 3) := by decide +kernel
theorem dX5_pictureAt_19 : decode cX5_pictureAt 19 = .ok (.iload_n 1, 1) := by decide +kernel
theorem dX5_pictureAt_20 : decode cX5_pictureAt 20 = .ok (.iaload, 1) := by decide +kernel
theorem dX5_pictureAt_21 : decode cX5_pictureAt 21 = .ok (.goto 5, 3) := by decide +kernel
theorem dX5_pictureAt_24 : decode cX5_pictureAt 24 = .ok (.bipush (-2), 2) := by decide +kernel
theorem dX5_pictureAt_26 : decode cX5_pictureAt 26 = .ok (.ireturn, 1) := by decide +kernel
theorem dX6_init_0 : decode cX6_init 0 = .ok (.aload_n 0, 1) := by decide +kernel
theorem dX6_init_1 : decode cX6_init 1 = .ok (.invokespecial 3, 3) := by decide +kernel
theorem dX6_init_4 : decode cX6_init 4 = .ok (.aload_n 0, 1) := by decide +kernel
theorem dX6_init_5 : decode cX6_init 5 = .ok (.bipush 60, 2) := by decide +kernel
theorem dX6_init_7 : decode cX6_init 7 = .ok (.newarray .int, 2) := by decide +kernel
theorem dX6_init_9 : decode cX6_init 9 = .ok (.putfield 9, 3) := by decide +kernel
theorem dX6_init_12 : decode cX6_init 12 = .ok (.aload_n 0, 1) := by decide +kernel
theorem dX6_init_13 : decode cX6_init 13 = .ok (.iconst 1, 1) := by decide +kernel
theorem dX6_init_14 : decode cX6_init 14 = .ok (.putfield 15, 3) := by decide +kernel
theorem dX6_init_17 : decode cX6_init 17 = .ok (.return_, 1) := by decide +kernel
theorem dX6_isForm_0 : decode cX6_isForm 0 = .ok (.iload_n 0, 1) := by decide +kernel
theorem dX6_isForm_1 : decode cX6_isForm 1 = .ok (.iconst 0, 1) := by decide +kernel
theorem dX6_isForm_2 : decode cX6_isForm 2 = .ok (.iconst 2, 1) := by decide +kernel
theorem dX6_isForm_3 : decode cX6_isForm 3 = .ok (.invokestatic 19, 3) := by decide +kernel
theorem dX6_isForm_6 : decode cX6_isForm 6 = .ok (.ireturn, 1) := by decide +kernel
theorem dX6_renew_0 : decode cX6_renew 0 = .ok (.aload_n 0, 1) := by decide +kernel
theorem dX6_renew_1 : decode cX6_renew 1 = .ok (.iconst 0, 1) := by decide +kernel
theorem dX6_renew_2 : decode cX6_renew 2 = .ok (.putfield 15, 3) := by decide +kernel
theorem dX6_renew_5 : decode cX6_renew 5 = .ok (.aload_n 0, 1) := by decide +kernel
theorem dX6_renew_6 : decode cX6_renew 6 = .ok (.iload_n 1, 1) := by decide +kernel
theorem dX6_renew_7 : decode cX6_renew 7 = .ok (.putfield 23, 3) := by decide +kernel
theorem dX6_renew_10 : decode cX6_renew 10 = .ok (.aload_n 0, 1) := by decide +kernel
theorem dX6_renew_11 : decode cX6_renew 11 = .ok (.iload_n 2, 1) := by decide +kernel
theorem dX6_renew_12 : decode cX6_renew 12 = .ok (.bipush 60, 2) := by decide +kernel
theorem dX6_renew_14 : decode cX6_renew 14 = .ok (.invokestatic 27, 3) := by decide +kernel
theorem dX6_renew_17 : decode cX6_renew 17 = .ok (.putfield 33, 3) := by decide +kernel
theorem dX6_renew_20 : decode cX6_renew 20 = .ok (.aload_n 0, 1) := by decide +kernel
theorem dX6_renew_21 : decode cX6_renew 21 = .ok (.getfield 9, 3) := by decide +kernel
theorem dX6_renew_24 : decode cX6_renew 24 = .ok (.iconst 0, 1) := by decide +kernel
theorem dX6_renew_25 : decode cX6_renew 25 = .ok (.invokestatic 36, 3) := by decide +kernel
theorem dX6_renew_28 : decode cX6_renew 28 = .ok (.return_, 1) := by decide +kernel
theorem dX6_findingAt_0 : decode cX6_findingAt 0 = .ok (.aload_n 0, 1) := by decide +kernel
theorem dX6_findingAt_1 : decode cX6_findingAt 1 = .ok (.getfield 15, 3) := by decide +kernel
theorem dX6_findingAt_4 : decode cX6_findingAt 4 = .ok (.ifCond .eq 5, 3) := by decide +kernel
theorem dX6_findingAt_7 : decode cX6_findingAt 7 = .ok (.iconst 1, 1) := by decide +kernel
theorem dX6_findingAt_8 : decode cX6_findingAt 8 = .ok (.ireturn, 1) := by decide +kernel
theorem dX6_findingAt_9 : decode cX6_findingAt 9 = .ok (.aload_n 0, 1) := by decide +kernel
theorem dX6_findingAt_10 : decode cX6_findingAt 10 = .ok (.getfield 23, 3) := by decide +kernel
theorem dX6_findingAt_13 : decode cX6_findingAt 13 = .ok (.iload_n 1, 1) := by decide +kernel
theorem dX6_findingAt_14 : decode cX6_findingAt 14 = .ok (.if_icmp .eq 5, 3) := by decide +kernel
theorem dX6_findingAt_17 : decode cX6_findingAt 17 = .ok (.iconst 3, 1) := by decide +kernel
theorem dX6_findingAt_18 : decode cX6_findingAt 18 = .ok (.ireturn, 1) := by decide +kernel
theorem dX6_findingAt_19 : decode cX6_findingAt 19 = .ok (.iload_n 2, 1) := by decide +kernel
theorem dX6_findingAt_20 : decode cX6_findingAt 20 = .ok (.iconst 0, 1) := by decide +kernel
theorem dX6_findingAt_21 : decode cX6_findingAt 21 = .ok (.aload_n 0, 1) := by decide +kernel
theorem dX6_findingAt_22 : decode cX6_findingAt 22 = .ok (.getfield 33, 3) := by decide +kernel
theorem dX6_findingAt_25 : decode cX6_findingAt 25 = .ok (.iconst 1, 1) := by decide +kernel
theorem dX6_findingAt_26 : decode cX6_findingAt 26 = .ok (.isub, 1) := by decide +kernel
theorem dX6_findingAt_27 : decode cX6_findingAt 27 = .ok (.invokestatic 19, 3) := by decide +kernel
theorem dX6_findingAt_30 : decode cX6_findingAt 30 = .ok (.ifCond .eq 7, 3) := by decide +kernel
theorem dX6_findingAt_33 : decode cX6_findingAt 33 = .ok (.iconst 0, 1) := by decide +kernel
theorem dX6_findingAt_34 : decode cX6_findingAt 34 = .ok (.goto 4, 3) := by decide +kernel
theorem dX6_findingAt_37 : decode cX6_findingAt 37 = .ok (.iconst 2, 1) := by decide +kernel
theorem dX6_findingAt_38 : decode cX6_findingAt 38 = .ok (.ireturn, 1) := by decide +kernel
theorem dX6_holds_0 : decode cX6_holds 0 = .ok (.iload_n 2, 1) := by decide +kernel
theorem dX6_holds_1 : decode cX6_holds 1 = .ok (.ifCond .lt 29, 3) := by decide +kernel
theorem dX6_holds_4 : decode cX6_holds 4 = .ok (.iload_n 2, 1) := by decide +kernel
theorem dX6_holds_5 : decode cX6_holds 5 = .ok (.aload_n 0, 1) := by decide +kernel
theorem dX6_holds_6 : decode cX6_holds 6 = .ok (.getfield 33, 3) := by decide +kernel
theorem dX6_holds_9 : decode cX6_holds 9 = .ok (.if_icmp .gt 21, 3) := by decide +kernel
theorem dX6_holds_12 : decode cX6_holds 12 = .ok (.iload_n 1, 1) := by decide +kernel
theorem dX6_holds_13 : decode cX6_holds 13 = .ok (.iconst 0, 1) := by decide +kernel
theorem dX6_holds_14 : decode cX6_holds 14 = .ok (.aload_n 0, 1) := by decide +kernel
theorem dX6_holds_15 : decode cX6_holds 15 = .ok (.getfield 33, 3) := by decide +kernel
theorem dX6_holds_18 : decode cX6_holds 18 = .ok (.iload_n 2, 1) := by decide +kernel
theorem dX6_holds_19 : decode cX6_holds 19 = .ok (.isub, 1) := by decide +kernel
theorem dX6_holds_20 : decode cX6_holds 20 = .ok (.invokestatic 19, 3) := by decide +kernel
theorem dX6_holds_23 : decode cX6_holds 23 = .ok (.ifCond .eq 7, 3) := by decide +kernel
theorem dX6_holds_26 : decode cX6_holds 26 = .ok (.iconst 1, 1) := by decide +kernel
theorem dX6_holds_27 : decode cX6_holds 27 = .ok (.goto 4, 3) := by decide +kernel
theorem dX6_holds_30 : decode cX6_holds 30 = .ok (.iconst 0, 1) := by decide +kernel
theorem dX6_holds_31 : decode cX6_holds 31 = .ok (.ireturn, 1) := by decide +kernel
theorem dX6_itemAt_0 : decode cX6_itemAt 0 = .ok (.iload_n 1, 1) := by decide +kernel
theorem dX6_itemAt_1 : decode cX6_itemAt 1 = .ok (.iconst 0, 1) := by decide +kernel
theorem dX6_itemAt_2 : decode cX6_itemAt 2 = .ok (.aload_n 0, 1) := by decide +kernel
theorem dX6_itemAt_3 : decode cX6_itemAt 3 = .ok (.getfield 33, 3) := by decide +kernel
theorem dX6_itemAt_6 : decode cX6_itemAt 6 = .ok (.iconst 1, 1) := by decide +kernel
theorem dX6_itemAt_7 : decode cX6_itemAt 7 = .ok (.isub, 1) := by decide +kernel
theorem dX6_itemAt_8 : decode cX6_itemAt 8 = .ok (.invokestatic 19, 3) := by decide +kernel
theorem dX6_itemAt_11 : decode cX6_itemAt 11 = .ok (.ifCond .eq 12, 3) := by decide +kernel
theorem dX6_itemAt_14 : decode cX6_itemAt 14 = .ok (.aload_n 0, 1) := by decide +kernel
theorem dX6_itemAt_15 : decode cX6_itemAt 15 = .ok (.getfield 9, 3) := by decide +kernel
theorem dX6_itemAt_18 : decode cX6_itemAt 18 = .ok (.iload_n 1, 1) := by decide +kernel
theorem dX6_itemAt_19 : decode cX6_itemAt 19 = .ok (.iaload, 1) := by decide +kernel
theorem dX6_itemAt_20 : decode cX6_itemAt 20 = .ok (.goto 4, 3) := by decide +kernel
theorem dX6_itemAt_23 : decode cX6_itemAt 23 = .ok (.iconst 0, 1) := by decide +kernel
theorem dX6_itemAt_24 : decode cX6_itemAt 24 = .ok (.ireturn, 1) := by decide +kernel
theorem dX6_store_0 : decode cX6_store 0 = .ok (.iload_n 1, 1) := by decide +kernel
theorem dX6_store_1 : decode cX6_store 1 = .ok (.iconst 0, 1) := by decide +kernel
theorem dX6_store_2 : decode cX6_store 2 = .ok (.aload_n 0, 1) := by decide +kernel
theorem dX6_store_3 : decode cX6_store 3 = .ok (.getfield 33, 3) := by decide +kernel
theorem dX6_store_6 : decode cX6_store 6 = .ok (.iconst 1, 1) := by decide +kernel
theorem dX6_store_7 : decode cX6_store 7 = .ok (.isub, 1) := by decide +kernel
theorem dX6_store_8 : decode cX6_store 8 = .ok (.invokestatic 19, 3) := by decide +kernel
theorem dX6_store_11 : decode cX6_store 11 = .ok (.ifCond .eq 35, 3) := by decide +kernel
theorem dX6_store_14 : decode cX6_store 14 = .ok (.aload_n 0, 1) := by decide +kernel
theorem dX6_store_15 : decode cX6_store 15 = .ok (.getfield 9, 3) := by decide +kernel
theorem dX6_store_18 : decode cX6_store 18 = .ok (.iload_n 1, 1) := by decide +kernel
theorem dX6_store_19 : decode cX6_store 19 = .ok (.aload_n 0, 1) := by decide +kernel
theorem dX6_store_20 : decode cX6_store 20 = .ok (.getfield 23, 3) := by decide +kernel
theorem dX6_store_23 : decode cX6_store 23 = .ok (.ifCond .ne 8, 3) := by decide +kernel
theorem dX6_store_26 : decode cX6_store 26 = .ok (.iload_n 2, 1) := by decide +kernel
theorem dX6_store_27 : decode cX6_store 27 = .ok (.i2b, 1) := by decide +kernel
theorem dX6_store_28 : decode cX6_store 28 = .ok (.goto 17, 3) := by decide +kernel
theorem dX6_store_31 : decode cX6_store 31 = .ok (.aload_n 0, 1) := by decide +kernel
theorem dX6_store_32 : decode cX6_store 32 = .ok (.getfield 23, 3) := by decide +kernel
theorem dX6_store_35 : decode cX6_store 35 = .ok (.iconst 1, 1) := by decide +kernel
theorem dX6_store_36 : decode cX6_store 36 = .ok (.if_icmp .ne 8, 3) := by decide +kernel
theorem dX6_store_39 : decode cX6_store 39 = .ok (.iload_n 2, 1) := by decide +kernel
theorem dX6_store_40 : decode cX6_store 40 = .ok (.i2s, 1) := by decide +kernel
theorem dX6_store_41 : decode cX6_store 41 = .ok (.goto 4, 3) := by decide +kernel
theorem dX6_store_44 : decode cX6_store 44 = .ok (.iload_n 2, 1) := by decide +kernel
theorem dX6_store_45 : decode cX6_store 45 = .ok (.iastore, 1) := by decide +kernel
theorem dX6_store_46 : decode cX6_store 46 = .ok (.return_, 1) := by decide +kernel
theorem dX7_init_0 : decode cX7_init 0 = .ok (.aload_n 0, 1) := by decide +kernel
theorem dX7_init_1 : decode cX7_init 1 = .ok (.invokespecial 3, 3) := by decide +kernel
theorem dX7_init_4 : decode cX7_init 4 = .ok (.aload_n 0, 1) := by decide +kernel
theorem dX7_init_5 : decode cX7_init 5 = .ok (.bipush 80, 2) := by decide +kernel
theorem dX7_init_7 : decode cX7_init 7 = .ok (.newarray .int, 2) := by decide +kernel
theorem dX7_init_9 : decode cX7_init 9 = .ok (.putfield 9, 3) := by decide +kernel
theorem dX7_init_12 : decode cX7_init 12 = .ok (.aload_n 0, 1) := by decide +kernel
theorem dX7_init_13 : decode cX7_init 13 = .ok (.bipush 48, 2) := by decide +kernel
theorem dX7_init_15 : decode cX7_init 15 = .ok (.newarray .int, 2) := by decide +kernel
theorem dX7_init_17 : decode cX7_init 17 = .ok (.putfield 15, 3) := by decide +kernel
theorem dX7_init_20 : decode cX7_init 20 = .ok (.aload_n 0, 1) := by decide +kernel
theorem dX7_init_21 : decode cX7_init 21 = .ok (.bipush 12, 2) := by decide +kernel
theorem dX7_init_23 : decode cX7_init 23 = .ok (.newarray .int, 2) := by decide +kernel
theorem dX7_init_25 : decode cX7_init 25 = .ok (.putfield 18, 3) := by decide +kernel
theorem dX7_init_28 : decode cX7_init 28 = .ok (.aload_n 0, 1) := by decide +kernel
theorem dX7_init_29 : decode cX7_init 29 = .ok (.iconst (-1), 1) := by decide +kernel
theorem dX7_init_30 : decode cX7_init 30 = .ok (.putfield 21, 3) := by decide +kernel
theorem dX7_init_33 : decode cX7_init 33 = .ok (.return_, 1) := by decide +kernel
theorem dX7_append_0 : decode cX7_append 0 = .ok (.aload_n 0, 1) := by decide +kernel
theorem dX7_append_1 : decode cX7_append 1 = .ok (.getfield 25, 3) := by decide +kernel
theorem dX7_append_4 : decode cX7_append 4 = .ok (.ifCond .lt 15, 3) := by decide +kernel
theorem dX7_append_7 : decode cX7_append 7 = .ok (.aload_n 0, 1) := by decide +kernel
theorem dX7_append_8 : decode cX7_append 8 = .ok (.getfield 25, 3) := by decide +kernel
theorem dX7_append_11 : decode cX7_append 11 = .ok (.aload_n 0, 1) := by decide +kernel
theorem dX7_append_12 : decode cX7_append 12 = .ok (.getfield 9, 3) := by decide +kernel
theorem dX7_append_15 : decode cX7_append 15 = .ok (.arraylength, 1) := by decide +kernel
theorem dX7_append_16 : decode cX7_append 16 = .ok (.if_icmp .lt 6, 3) := by decide +kernel
theorem dX7_append_19 : decode cX7_append 19 = .ok (.bipush (-4), 2) := by decide +kernel
theorem dX7_append_21 : decode cX7_append 21 = .ok (.ireturn, 1) := by decide +kernel
theorem dX7_append_22 : decode cX7_append 22 = .ok (.aload_n 0, 1) := by decide +kernel
theorem dX7_append_23 : decode cX7_append 23 = .ok (.getfield 9, 3) := by decide +kernel
theorem dX7_append_26 : decode cX7_append 26 = .ok (.aload_n 0, 1) := by decide +kernel
theorem dX7_append_27 : decode cX7_append 27 = .ok (.getfield 25, 3) := by decide +kernel
theorem dX7_append_30 : decode cX7_append 30 = .ok (.iload_n 1, 1) := by decide +kernel
theorem dX7_append_31 : decode cX7_append 31 = .ok (.iastore, 1) := by decide +kernel
theorem dX7_append_32 : decode cX7_append 32 = .ok (.aload_n 0, 1) := by decide +kernel
theorem dX7_append_33 : decode cX7_append 33 = .ok (.dup, 1) := by decide +kernel
theorem dX7_append_34 : decode cX7_append 34 = .ok (.getfield 25, 3) := by decide +kernel
theorem dX7_append_37 : decode cX7_append 37 = .ok (.iconst 1, 1) := by decide +kernel
theorem dX7_append_38 : decode cX7_append 38 = .ok (.iadd, 1) := by decide +kernel
theorem dX7_append_39 : decode cX7_append 39 = .ok (.putfield 25, 3) := by decide +kernel
theorem dX7_append_42 : decode cX7_append 42 = .ok (.aload_n 0, 1) := by decide +kernel
theorem dX7_append_43 : decode cX7_append 43 = .ok (.invokevirtual 28, 3) := by decide +kernel
theorem dX7_append_46 : decode cX7_append 46 = .ok (.aload_n 0, 1) := by decide +kernel
theorem dX7_append_47 : decode cX7_append 47 = .ok (.getfield 25, 3) := by decide +kernel
theorem dX7_append_50 : decode cX7_append 50 = .ok (.ireturn, 1) := by decide +kernel
theorem dX7_clear_0 : decode cX7_clear 0 = .ok (.aload_n 0, 1) := by decide +kernel
theorem dX7_clear_1 : decode cX7_clear 1 = .ok (.getfield 25, 3) := by decide +kernel
theorem dX7_clear_4 : decode cX7_clear 4 = .ok (.istore_n 1, 1) := by decide +kernel
theorem dX7_clear_5 : decode cX7_clear 5 = .ok (.aload_n 0, 1) := by decide +kernel
theorem dX7_clear_6 : decode cX7_clear 6 = .ok (.iconst 0, 1) := by decide +kernel
theorem dX7_clear_7 : decode cX7_clear 7 = .ok (.putfield 25, 3) := by decide +kernel
theorem dX7_clear_10 : decode cX7_clear 10 = .ok (.aload_n 0, 1) := by decide +kernel
theorem dX7_clear_11 : decode cX7_clear 11 = .ok (.invokevirtual 28, 3) := by decide +kernel
theorem dX7_clear_14 : decode cX7_clear 14 = .ok (.iload_n 1, 1) := by decide +kernel
theorem dX7_clear_15 : decode cX7_clear 15 = .ok (.ireturn, 1) := by decide +kernel
theorem dX7_parse_0 : decode cX7_parse 0 = .ok (.aload_n 0, 1) := by decide +kernel
theorem dX7_parse_1 : decode cX7_parse 1 = .ok (.aload_n 0, 1) := by decide +kernel
theorem dX7_parse_2 : decode cX7_parse 2 = .ok (.invokevirtual 31, 3) := by decide +kernel
theorem dX7_parse_5 : decode cX7_parse 5 = .ok (.putfield 21, 3) := by decide +kernel
theorem dX7_parse_8 : decode cX7_parse 8 = .ok (.aload_n 0, 1) := by decide +kernel
theorem dX7_parse_9 : decode cX7_parse 9 = .ok (.aload_n 0, 1) := by decide +kernel
theorem dX7_parse_10 : decode cX7_parse 10 = .ok (.getfield 21, 3) := by decide +kernel
theorem dX7_parse_13 : decode cX7_parse 13 = .ok (.iconst (-1), 1) := by decide +kernel
theorem dX7_parse_14 : decode cX7_parse 14 = .ok (.if_icmp .ne 14, 3) := by decide +kernel
theorem dX7_parse_17 : decode cX7_parse 17 = .ok (.aload_n 0, 1) := by decide +kernel
theorem dX7_parse_18 : decode cX7_parse 18 = .ok (.getfield 25, 3) := by decide +kernel
theorem dX7_parse_21 : decode cX7_parse 21 = .ok (.iconst 1, 1) := by decide +kernel
theorem dX7_parse_22 : decode cX7_parse 22 = .ok (.iadd, 1) := by decide +kernel
theorem dX7_parse_23 : decode cX7_parse 23 = .ok (.iconst 5, 1) := by decide +kernel
theorem dX7_parse_24 : decode cX7_parse 24 = .ok (.idiv, 1) := by decide +kernel
theorem dX7_parse_25 : decode cX7_parse 25 = .ok (.goto 4, 3) := by decide +kernel
theorem dX7_parse_28 : decode cX7_parse 28 = .ok (.iconst 0, 1) := by decide +kernel
theorem dX7_parse_29 : decode cX7_parse 29 = .ok (.putfield 35, 3) := by decide +kernel
theorem dX7_parse_32 : decode cX7_parse 32 = .ok (.iconst 0, 1) := by decide +kernel
theorem dX7_parse_33 : decode cX7_parse 33 = .ok (.istore_n 1, 1) := by decide +kernel
theorem dX7_parse_34 : decode cX7_parse 34 = .ok (.iload_n 1, 1) := by decide +kernel
theorem dX7_parse_35 : decode cX7_parse 35 = .ok (.aload_n 0, 1) := by decide +kernel
theorem dX7_parse_36 : decode cX7_parse 36 = .ok (.getfield 35, 3) := by decide +kernel
theorem dX7_parse_39 : decode cX7_parse 39 = .ok (.iconst 4, 1) := by decide +kernel
theorem dX7_parse_40 : decode cX7_parse 40 = .ok (.imul, 1) := by decide +kernel
theorem dX7_parse_41 : decode cX7_parse 41 = .ok (.if_icmp .ge 69, 3) := by decide +kernel
theorem dX7_parse_44 : decode cX7_parse 44 = .ok (.iload_n 1, 1) := by decide +kernel
theorem dX7_parse_45 : decode cX7_parse 45 = .ok (.aload_n 0, 1) := by decide +kernel
theorem dX7_parse_46 : decode cX7_parse 46 = .ok (.getfield 15, 3) := by decide +kernel
theorem dX7_parse_49 : decode cX7_parse 49 = .ok (.arraylength, 1) := by decide +kernel
theorem dX7_parse_50 : decode cX7_parse 50 = .ok (.if_icmp .ge 60, 3) := by decide +kernel
theorem dX7_parse_53 : decode cX7_parse 53 = .ok (.iload_n 1, 1) := by decide +kernel
theorem dX7_parse_54 : decode cX7_parse 54 = .ok (.iconst 4, 1) := by decide +kernel
theorem dX7_parse_55 : decode cX7_parse 55 = .ok (.idiv, 1) := by decide +kernel
theorem dX7_parse_56 : decode cX7_parse 56 = .ok (.iconst 5, 1) := by decide +kernel
theorem dX7_parse_57 : decode cX7_parse 57 = .ok (.imul, 1) := by decide +kernel
theorem dX7_parse_58 : decode cX7_parse 58 = .ok (.iload_n 1, 1) := by decide +kernel
theorem dX7_parse_59 : decode cX7_parse 59 = .ok (.iconst 4, 1) := by decide +kernel
theorem dX7_parse_60 : decode cX7_parse 60 = .ok (.irem, 1) := by decide +kernel
theorem dX7_parse_61 : decode cX7_parse 61 = .ok (.iadd, 1) := by decide +kernel
theorem dX7_parse_62 : decode cX7_parse 62 = .ok (.istore_n 2, 1) := by decide +kernel
theorem dX7_parse_63 : decode cX7_parse 63 = .ok (.iload_n 2, 1) := by decide +kernel
theorem dX7_parse_64 : decode cX7_parse 64 = .ok (.aload_n 0, 1) := by decide +kernel
theorem dX7_parse_65 : decode cX7_parse 65 = .ok (.getfield 9, 3) := by decide +kernel
theorem dX7_parse_68 : decode cX7_parse 68 = .ok (.arraylength, 1) := by decide +kernel
theorem dX7_parse_69 : decode cX7_parse 69 = .ok (.if_icmp .ge 12, 3) := by decide +kernel
theorem dX7_parse_72 : decode cX7_parse 72 = .ok (.aload_n 0, 1) := by decide +kernel
theorem dX7_parse_73 : decode cX7_parse 73 = .ok (.getfield 9, 3) := by decide +kernel
theorem dX7_parse_76 : decode cX7_parse 76 = .ok (.iload_n 2, 1) := by decide +kernel
theorem dX7_parse_77 : decode cX7_parse 77 = .ok (.iaload, 1) := by decide +kernel
theorem dX7_parse_78 : decode cX7_parse 78 = .ok (.goto 5, 3) := by decide +kernel
theorem dX7_parse_81 : decode cX7_parse 81 = .ok (.bipush 45, 2) := by decide +kernel
theorem dX7_parse_83 : decode cX7_parse 83 = .ok (.istore_n 3, 1) := by decide +kernel
theorem dX7_parse_84 : decode cX7_parse 84 = .ok (.aload_n 0, 1) := by decide +kernel
theorem dX7_parse_85 : decode cX7_parse 85 = .ok (.getfield 15, 3) := by decide +kernel
theorem dX7_parse_88 : decode cX7_parse 88 = .ok (.iload_n 1, 1) := by decide +kernel
theorem dX7_parse_89 : decode cX7_parse 89 = .ok (.iload_n 3, 1) := by decide +kernel
theorem dX7_parse_90 : decode cX7_parse 90 = .ok (.bipush 45, 2) := by decide +kernel
theorem dX7_parse_92 : decode cX7_parse 92 = .ok (.if_icmp .ne 7, 3) := by decide +kernel
theorem dX7_parse_95 : decode cX7_parse 95 = .ok (.iconst (-1), 1) := by decide +kernel
theorem dX7_parse_96 : decode cX7_parse 96 = .ok (.goto 7, 3) := by decide +kernel
theorem dX7_parse_99 : decode cX7_parse 99 = .ok (.iload_n 3, 1) := by decide +kernel
theorem dX7_parse_100 : decode cX7_parse 100 = .ok (.bipush 48, 2) := by decide +kernel
theorem dX7_parse_102 : decode cX7_parse 102 = .ok (.isub, 1) := by decide +kernel
theorem dX7_parse_103 : decode cX7_parse 103 = .ok (.iastore, 1) := by decide +kernel
theorem dX7_parse_104 : decode cX7_parse 104 = .ok (.iinc 1 1, 3) := by decide +kernel
theorem dX7_parse_107 : decode cX7_parse 107 = .ok (.goto (-73), 3) := by decide +kernel
theorem dX7_parse_110 : decode cX7_parse 110 = .ok (.return_, 1) := by decide +kernel
theorem dX7_firstFault_0 : decode cX7_firstFault 0 = .ok (.iconst 0, 1) := by decide +kernel
theorem dX7_firstFault_1 : decode cX7_firstFault 1 = .ok (.istore_n 1, 1) := by decide +kernel
theorem dX7_firstFault_2 : decode cX7_firstFault 2 = .ok (.iload_n 1, 1) := by decide +kernel
theorem dX7_firstFault_3 : decode cX7_firstFault 3 = .ok (.aload_n 0, 1) := by decide +kernel
theorem dX7_firstFault_4 : decode cX7_firstFault 4 = .ok (.getfield 25, 3) := by decide +kernel
theorem dX7_firstFault_7 : decode cX7_firstFault 7 = .ok (.if_icmp .ge 41, 3) := by decide +kernel
theorem dX7_firstFault_10 : decode cX7_firstFault 10 = .ok (.iload_n 1, 1) := by decide +kernel
theorem dX7_firstFault_11 : decode cX7_firstFault 11 = .ok (.aload_n 0, 1) := by decide +kernel
theorem dX7_firstFault_12 : decode cX7_firstFault 12 = .ok (.getfield 9, 3) := by decide +kernel
theorem dX7_firstFault_15 : decode cX7_firstFault 15 = .ok (.arraylength, 1) := by decide +kernel
theorem dX7_firstFault_16 : decode cX7_firstFault 16 = .ok (.if_icmp .ge 32, 3) := by decide +kernel
theorem dX7_firstFault_19 : decode cX7_firstFault 19 = .ok (.iload_n 1, 1) := by decide +kernel
theorem dX7_firstFault_20 : decode cX7_firstFault 20 = .ok (.bipush 60, 2) := by decide +kernel
theorem dX7_firstFault_22 : decode cX7_firstFault 22 = .ok (.if_icmp .eq 18, 3) := by decide +kernel
theorem dX7_firstFault_25 : decode cX7_firstFault 25 = .ok (.iload_n 1, 1) := by decide +kernel
theorem dX7_firstFault_26 : decode cX7_firstFault 26 = .ok (.iconst 5, 1) := by decide +kernel
theorem dX7_firstFault_27 : decode cX7_firstFault 27 = .ok (.irem, 1) := by decide +kernel
theorem dX7_firstFault_28 : decode cX7_firstFault 28 = .ok (.aload_n 0, 1) := by decide +kernel
theorem dX7_firstFault_29 : decode cX7_firstFault 29 = .ok (.getfield 9, 3) := by decide +kernel
theorem dX7_firstFault_32 : decode cX7_firstFault 32 = .ok (.iload_n 1, 1) := by decide +kernel
theorem dX7_firstFault_33 : decode cX7_firstFault 33 = .ok (.iaload, 1) := by decide +kernel
theorem dX7_firstFault_34 : decode cX7_firstFault 34 = .ok (.invokestatic 38, 3) := by decide +kernel
theorem dX7_firstFault_37 : decode cX7_firstFault 37 = .ok (.ifCond .ne 5, 3) := by decide +kernel
theorem dX7_firstFault_40 : decode cX7_firstFault 40 = .ok (.iload_n 1, 1) := by decide +kernel
theorem dX7_firstFault_41 : decode cX7_firstFault 41 = .ok (.ireturn, 1) := by decide +kernel
theorem dX7_firstFault_42 : decode cX7_firstFault 42 = .ok (.iinc 1 1, 3) := by decide +kernel
theorem dX7_firstFault_45 : decode cX7_firstFault 45 = .ok (.goto (-43), 3) := by decide +kernel
theorem dX7_firstFault_48 : decode cX7_firstFault 48 = .ok (.aload_n 0, 1) := by decide +kernel
theorem dX7_firstFault_49 : decode cX7_firstFault 49 = .ok (.getfield 25, 3) := by decide +kernel
theorem dX7_firstFault_52 : decode cX7_firstFault 52 = .ok (.ifCond .eq 13, 3) := by decide +kernel
theorem dX7_firstFault_55 : decode cX7_firstFault 55 = .ok (.aload_n 0, 1) := by decide +kernel
theorem dX7_firstFault_56 : decode cX7_firstFault 56 = .ok (.getfield 25, 3) := by decide +kernel
theorem dX7_firstFault_59 : decode cX7_firstFault 59 = .ok (.iconst 5, 1) := by decide +kernel
theorem dX7_firstFault_60 : decode cX7_firstFault 60 = .ok (.irem, 1) := by decide +kernel
theorem dX7_firstFault_61 : decode cX7_firstFault 61 = .ok (.iconst 4, 1) := by decide +kernel
theorem dX7_firstFault_62 : decode cX7_firstFault 62 = .ok (.if_icmp .ne 7, 3) := by decide +kernel
theorem dX7_firstFault_65 : decode cX7_firstFault 65 = .ok (.iconst 1, 1) := by decide +kernel
theorem dX7_firstFault_66 : decode cX7_firstFault 66 = .ok (.goto 4, 3) := by decide +kernel
theorem dX7_firstFault_69 : decode cX7_firstFault 69 = .ok (.iconst 0, 1) := by decide +kernel
theorem dX7_firstFault_70 : decode cX7_firstFault 70 = .ok (.istore_n 1, 1) := by decide +kernel
theorem dX7_firstFault_71 : decode cX7_firstFault 71 = .ok (.iload_n 1, 1) := by decide +kernel
theorem dX7_firstFault_72 : decode cX7_firstFault 72 = .ok (.ifCond .eq 7, 3) := by decide +kernel
theorem dX7_firstFault_75 : decode cX7_firstFault 75 = .ok (.iconst (-1), 1) := by decide +kernel
theorem dX7_firstFault_76 : decode cX7_firstFault 76 = .ok (.goto 7, 3) := by decide +kernel
theorem dX7_firstFault_79 : decode cX7_firstFault 79 = .ok (.aload_n 0, 1) := by decide +kernel
theorem dX7_firstFault_80 : decode cX7_firstFault 80 = .ok (.getfield 25, 3) := by decide +kernel
theorem dX7_firstFault_83 : decode cX7_firstFault 83 = .ok (.ireturn, 1) := by decide +kernel
theorem dX7_goesOn_0 : decode cX7_goesOn 0 = .ok (.iload_n 0, 1) := by decide +kernel
theorem dX7_goesOn_1 : decode cX7_goesOn 1 = .ok (.iconst 4, 1) := by decide +kernel
theorem dX7_goesOn_2 : decode cX7_goesOn 2 = .ok (.if_icmp .ne 15, 3) := by decide +kernel
theorem dX7_goesOn_5 : decode cX7_goesOn 5 = .ok (.iload_n 1, 1) := by decide +kernel
theorem dX7_goesOn_6 : decode cX7_goesOn 6 = .ok (.bipush 59, 2) := by decide +kernel
theorem dX7_goesOn_8 : decode cX7_goesOn 8 = .ok (.if_icmp .ne 7, 3) := by decide +kernel
theorem dX7_goesOn_11 : decode cX7_goesOn 11 = .ok (.iconst 1, 1) := by decide +kernel
theorem dX7_goesOn_12 : decode cX7_goesOn 12 = .ok (.goto 4, 3) := by decide +kernel
theorem dX7_goesOn_15 : decode cX7_goesOn 15 = .ok (.iconst 0, 1) := by decide +kernel
theorem dX7_goesOn_16 : decode cX7_goesOn 16 = .ok (.ireturn, 1) := by decide +kernel
theorem dX7_goesOn_17 : decode cX7_goesOn 17 = .ok (.iload_n 1, 1) := by decide +kernel
theorem dX7_goesOn_18 : decode cX7_goesOn 18 = .ok (.bipush 45, 2) := by decide +kernel
theorem dX7_goesOn_20 : decode cX7_goesOn 20 = .ok (.if_icmp .eq 14, 3) := by decide +kernel
theorem dX7_goesOn_23 : decode cX7_goesOn 23 = .ok (.iload_n 1, 1) := by decide +kernel
theorem dX7_goesOn_24 : decode cX7_goesOn 24 = .ok (.bipush 48, 2) := by decide +kernel
theorem dX7_goesOn_26 : decode cX7_goesOn 26 = .ok (.bipush 57, 2) := by decide +kernel
theorem dX7_goesOn_28 : decode cX7_goesOn 28 = .ok (.invokestatic 42, 3) := by decide +kernel
theorem dX7_goesOn_31 : decode cX7_goesOn 31 = .ok (.ifCond .eq 7, 3) := by decide +kernel
theorem dX7_goesOn_34 : decode cX7_goesOn 34 = .ok (.iconst 1, 1) := by decide +kernel
theorem dX7_goesOn_35 : decode cX7_goesOn 35 = .ok (.goto 4, 3) := by decide +kernel
theorem dX7_goesOn_38 : decode cX7_goesOn 38 = .ok (.iconst 0, 1) := by decide +kernel
theorem dX7_goesOn_39 : decode cX7_goesOn 39 = .ok (.ireturn, 1) := by decide +kernel
theorem dX7_has_0 : decode cX7_has 0 = .ok (.iload_n 1, 1) := by decide +kernel
theorem dX7_has_1 : decode cX7_has 1 = .ok (.iconst 0, 1) := by decide +kernel
theorem dX7_has_2 : decode cX7_has 2 = .ok (.aload_n 0, 1) := by decide +kernel
theorem dX7_has_3 : decode cX7_has 3 = .ok (.getfield 35, 3) := by decide +kernel
theorem dX7_has_6 : decode cX7_has 6 = .ok (.iconst 1, 1) := by decide +kernel
theorem dX7_has_7 : decode cX7_has 7 = .ok (.isub, 1) := by decide +kernel
theorem dX7_has_8 : decode cX7_has 8 = .ok (.invokestatic 42, 3) := by decide +kernel
theorem dX7_has_11 : decode cX7_has 11 = .ok (.ireturn, 1) := by decide +kernel
theorem dX7_placeAt_0 : decode cX7_placeAt 0 = .ok (.iload_n 1, 1) := by decide +kernel
theorem dX7_placeAt_1 : decode cX7_placeAt 1 = .ok (.ifCond .lt 20, 3) := by decide +kernel
theorem dX7_placeAt_4 : decode cX7_placeAt 4 = .ok (.iload_n 1, 1) := by decide +kernel
theorem dX7_placeAt_5 : decode cX7_placeAt 5 = .ok (.aload_n 0, 1) := by decide +kernel
theorem dX7_placeAt_6 : decode cX7_placeAt 6 = .ok (.getfield 35, 3) := by decide +kernel
theorem dX7_placeAt_9 : decode cX7_placeAt 9 = .ok (.if_icmp .ge 12, 3) := by decide +kernel
theorem dX7_placeAt_12 : decode cX7_placeAt 12 = .ok (.iload_n 2, 1) := by decide +kernel
theorem dX7_placeAt_13 : decode cX7_placeAt 13 = .ok (.ifCond .lt 8, 3) := by decide +kernel
theorem dX7_placeAt_16 : decode cX7_placeAt 16 = .ok (.iload_n 2, 1) := by decide +kernel
theorem dX7_placeAt_17 : decode cX7_placeAt 17 = .ok (.iconst 4, 1) := by decide +kernel
theorem dX7_placeAt_18 : decode cX7_placeAt 18 = .ok (.if_icmp .lt 5, 3) := by decide +kernel
theorem dX7_placeAt_21 : decode cX7_placeAt 21 = .ok (.iconst (-1), 1) := by decide +kernel
theorem dX7_placeAt_22 : decode cX7_placeAt 22 = .ok (.ireturn, 1) := by decide +kernel
theorem dX7_placeAt_23 : decode cX7_placeAt 23 = .ok (.iload_n 1, 1) := by decide +kernel
theorem dX7_placeAt_24 : decode cX7_placeAt 24 = .ok (.iconst 4, 1) := by decide +kernel
theorem dX7_placeAt_25 : decode cX7_placeAt 25 = .ok (.imul, 1) := by decide +kernel
theorem dX7_placeAt_26 : decode cX7_placeAt 26 = .ok (.iload_n 2, 1) := by decide +kernel
theorem dX7_placeAt_27 : decode cX7_placeAt 27 = .ok (.iadd, 1) := by decide +kernel
theorem dX7_placeAt_28 : decode cX7_placeAt 28 = .ok (.istore_n 3, 1) := by decide +kernel
theorem dX7_placeAt_29 : decode cX7_placeAt 29 = .ok (.iload_n 3, 1) := by decide +kernel
theorem dX7_placeAt_30 : decode cX7_placeAt 30 = .ok (.aload_n 0, 1) := by decide +kernel
theorem dX7_placeAt_31 : decode cX7_placeAt 31 = .ok (.getfield 15, 3) := by decide +kernel
theorem dX7_placeAt_34 : decode cX7_placeAt 34 = .ok (.arraylength, 1) := by decide +kernel
theorem dX7_placeAt_35 : decode cX7_placeAt 35 = .ok (.if_icmp .ge 12, 3) := by decide +kernel
theorem dX7_placeAt_38 : decode cX7_placeAt 38 = .ok (.aload_n 0, 1) := by decide +kernel
theorem dX7_placeAt_39 : decode cX7_placeAt 39 = .ok (.getfield 15, 3) := by decide +kernel
theorem dX7_placeAt_42 : decode cX7_placeAt 42 = .ok (.iload_n 3, 1) := by decide +kernel
theorem dX7_placeAt_43 : decode cX7_placeAt 43 = .ok (.iaload, 1) := by decide +kernel
theorem dX7_placeAt_44 : decode cX7_placeAt 44 = .ok (.goto 4, 3) := by decide +kernel
theorem dX7_placeAt_47 : decode cX7_placeAt 47 = .ok (.iconst (-1), 1) := by decide +kernel
theorem dX7_placeAt_48 : decode cX7_placeAt 48 = .ok (.ireturn, 1) := by decide +kernel
theorem dX7_stepBetween_0 : decode cX7_stepBetween 0 = .ok (.iconst 0, 1) := by decide +kernel
theorem dX7_stepBetween_1 : decode cX7_stepBetween 1 = .ok (.istore 4, 2) := by decide +kernel
theorem dX7_stepBetween_3 : decode cX7_stepBetween 3 = .ok (.iconst 0, 1) := by decide +kernel
theorem dX7_stepBetween_4 : decode cX7_stepBetween 4 = .ok (.istore 5, 2) := by decide +kernel
theorem dX7_stepBetween_6 : decode cX7_stepBetween 6 = .ok (.iload 5, 2) := by decide +kernel
theorem dX7_stepBetween_8 : decode cX7_stepBetween 8 = .ok (.iconst 4, 1) := by decide +kernel
theorem dX7_stepBetween_9 : decode cX7_stepBetween 9 = .ok (.if_icmp .ge 32, 3) := by decide +kernel
theorem dX7_stepBetween_12 : decode cX7_stepBetween 12 = .ok (.iload 4, 2) := by decide +kernel
theorem dX7_stepBetween_14 : decode cX7_stepBetween 14 = .ok (.aload_n 0, 1) := by decide +kernel
theorem dX7_stepBetween_15 : decode cX7_stepBetween 15 = .ok (.iload_n 1, 1) := by decide +kernel
theorem dX7_stepBetween_16 : decode cX7_stepBetween 16 = .ok (.iload 5, 2) := by decide +kernel
theorem dX7_stepBetween_18 : decode cX7_stepBetween 18 = .ok (.invokevirtual 46, 3) := by decide +kernel
theorem dX7_stepBetween_21 : decode cX7_stepBetween 21 = .ok (.aload_n 0, 1) := by decide +kernel
theorem dX7_stepBetween_22 : decode cX7_stepBetween 22 = .ok (.iload_n 2, 1) := by decide +kernel
theorem dX7_stepBetween_23 : decode cX7_stepBetween 23 = .ok (.iload 5, 2) := by decide +kernel
theorem dX7_stepBetween_25 : decode cX7_stepBetween 25 = .ok (.invokevirtual 46, 3) := by decide +kernel
theorem dX7_stepBetween_28 : decode cX7_stepBetween 28 = .ok (.iload_n 3, 1) := by decide +kernel
theorem dX7_stepBetween_29 : decode cX7_stepBetween 29 = .ok (.invokestatic 50, 3) := by decide +kernel
theorem dX7_stepBetween_32 : decode cX7_stepBetween 32 = .ok (.iadd, 1) := by decide +kernel
theorem dX7_stepBetween_33 : decode cX7_stepBetween 33 = .ok (.istore 4, 2) := by decide +kernel
theorem dX7_stepBetween_35 : decode cX7_stepBetween 35 = .ok (.iinc 5 1, 3) := by decide +kernel
theorem dX7_stepBetween_38 : decode cX7_stepBetween 38 = .ok (.goto (-32), 3) := by decide +kernel
theorem dX7_stepBetween_41 : decode cX7_stepBetween 41 = .ok (.iload 4, 2) := by decide +kernel
theorem dX7_stepBetween_43 : decode cX7_stepBetween 43 = .ok (.ireturn, 1) := by decide +kernel
theorem dX7_partStep_0 : decode cX7_partStep 0 = .ok (.iload_n 0, 1) := by decide +kernel
theorem dX7_partStep_1 : decode cX7_partStep 1 = .ok (.iconst (-1), 1) := by decide +kernel
theorem dX7_partStep_2 : decode cX7_partStep 2 = .ok (.if_icmp .eq 8, 3) := by decide +kernel
theorem dX7_partStep_5 : decode cX7_partStep 5 = .ok (.iload_n 1, 1) := by decide +kernel
theorem dX7_partStep_6 : decode cX7_partStep 6 = .ok (.iconst (-1), 1) := by decide +kernel
theorem dX7_partStep_7 : decode cX7_partStep 7 = .ok (.if_icmp .ne 14, 3) := by decide +kernel
theorem dX7_partStep_10 : decode cX7_partStep 10 = .ok (.iload_n 0, 1) := by decide +kernel
theorem dX7_partStep_11 : decode cX7_partStep 11 = .ok (.iload_n 1, 1) := by decide +kernel
theorem dX7_partStep_12 : decode cX7_partStep 12 = .ok (.if_icmp .ne 7, 3) := by decide +kernel
theorem dX7_partStep_15 : decode cX7_partStep 15 = .ok (.iconst 0, 1) := by decide +kernel
theorem dX7_partStep_16 : decode cX7_partStep 16 = .ok (.goto 4, 3) := by decide +kernel
theorem dX7_partStep_19 : decode cX7_partStep 19 = .ok (.iload_n 2, 1) := by decide +kernel
theorem dX7_partStep_20 : decode cX7_partStep 20 = .ok (.ireturn, 1) := by decide +kernel
theorem dX7_partStep_21 : decode cX7_partStep 21 = .ok (.iload_n 0, 1) := by decide +kernel
theorem dX7_partStep_22 : decode cX7_partStep 22 = .ok (.iload_n 1, 1) := by decide +kernel
theorem dX7_partStep_23 : decode cX7_partStep 23 = .ok (.isub, 1) := by decide +kernel
theorem dX7_partStep_24 : decode cX7_partStep 24 = .ok (.invokestatic 54, 3) := by decide +kernel
theorem dX7_partStep_27 : decode cX7_partStep 27 = .ok (.ireturn, 1) := by decide +kernel
theorem dX7_behind_0 : decode cX7_behind 0 = .ok (.iload_n 1, 1) := by decide +kernel
theorem dX7_behind_1 : decode cX7_behind 1 = .ok (.iconst 1, 1) := by decide +kernel
theorem dX7_behind_2 : decode cX7_behind 2 = .ok (.iadd, 1) := by decide +kernel
theorem dX7_behind_3 : decode cX7_behind 3 = .ok (.aload_n 0, 1) := by decide +kernel
theorem dX7_behind_4 : decode cX7_behind 4 = .ok (.getfield 35, 3) := by decide +kernel
theorem dX7_behind_7 : decode cX7_behind 7 = .ok (.if_icmp .ge 9, 3) := by decide +kernel
theorem dX7_behind_10 : decode cX7_behind 10 = .ok (.iload_n 1, 1) := by decide +kernel
theorem dX7_behind_11 : decode cX7_behind 11 = .ok (.iconst 1, 1) := by decide +kernel
theorem dX7_behind_12 : decode cX7_behind 12 = .ok (.iadd, 1) := by decide +kernel
theorem dX7_behind_13 : decode cX7_behind 13 = .ok (.goto 4, 3) := by decide +kernel
theorem dX7_behind_16 : decode cX7_behind 16 = .ok (.iconst 0, 1) := by decide +kernel
theorem dX7_behind_17 : decode cX7_behind 17 = .ok (.ireturn, 1) := by decide +kernel
theorem dX7_stepsRound_0 : decode cX7_stepsRound 0 = .ok (.iconst 0, 1) := by decide +kernel
theorem dX7_stepsRound_1 : decode cX7_stepsRound 1 = .ok (.istore_n 2, 1) := by decide +kernel
theorem dX7_stepsRound_2 : decode cX7_stepsRound 2 = .ok (.iconst 0, 1) := by decide +kernel
theorem dX7_stepsRound_3 : decode cX7_stepsRound 3 = .ok (.istore_n 3, 1) := by decide +kernel
theorem dX7_stepsRound_4 : decode cX7_stepsRound 4 = .ok (.iload_n 3, 1) := by decide +kernel
theorem dX7_stepsRound_5 : decode cX7_stepsRound 5 = .ok (.aload_n 0, 1) := by decide +kernel
theorem dX7_stepsRound_6 : decode cX7_stepsRound 6 = .ok (.getfield 35, 3) := by decide +kernel
theorem dX7_stepsRound_9 : decode cX7_stepsRound 9 = .ok (.if_icmp .ge 23, 3) := by decide +kernel
theorem dX7_stepsRound_12 : decode cX7_stepsRound 12 = .ok (.iload_n 2, 1) := by decide +kernel
theorem dX7_stepsRound_13 : decode cX7_stepsRound 13 = .ok (.aload_n 0, 1) := by decide +kernel
theorem dX7_stepsRound_14 : decode cX7_stepsRound 14 = .ok (.iload_n 3, 1) := by decide +kernel
theorem dX7_stepsRound_15 : decode cX7_stepsRound 15 = .ok (.aload_n 0, 1) := by decide +kernel
theorem dX7_stepsRound_16 : decode cX7_stepsRound 16 = .ok (.iload_n 3, 1) := by decide +kernel
theorem dX7_stepsRound_17 : decode cX7_stepsRound 17 = .ok (.invokevirtual 60, 3) := by decide +kernel
theorem dX7_stepsRound_20 : decode cX7_stepsRound 20 = .ok (.iload_n 1, 1) := by decide +kernel
theorem dX7_stepsRound_21 : decode cX7_stepsRound 21 = .ok (.invokevirtual 63, 3) := by decide +kernel
theorem dX7_stepsRound_24 : decode cX7_stepsRound 24 = .ok (.iadd, 1) := by decide +kernel
theorem dX7_stepsRound_25 : decode cX7_stepsRound 25 = .ok (.istore_n 2, 1) := by decide +kernel
theorem dX7_stepsRound_26 : decode cX7_stepsRound 26 = .ok (.iinc 3 1, 3) := by decide +kernel
theorem dX7_stepsRound_29 : decode cX7_stepsRound 29 = .ok (.goto (-25), 3) := by decide +kernel
theorem dX7_stepsRound_32 : decode cX7_stepsRound 32 = .ok (.iload_n 2, 1) := by decide +kernel
theorem dX7_stepsRound_33 : decode cX7_stepsRound 33 = .ok (.ireturn, 1) := by decide +kernel
theorem dX7_halfAt_0 : decode cX7_halfAt 0 = .ok (.aload_n 0, 1) := by decide +kernel
theorem dX7_halfAt_1 : decode cX7_halfAt 1 = .ok (.iload_n 1, 1) := by decide +kernel
theorem dX7_halfAt_2 : decode cX7_halfAt 2 = .ok (.iload_n 2, 1) := by decide +kernel
theorem dX7_halfAt_3 : decode cX7_halfAt 3 = .ok (.invokevirtual 46, 3) := by decide +kernel
theorem dX7_halfAt_6 : decode cX7_halfAt 6 = .ok (.istore_n 3, 1) := by decide +kernel
theorem dX7_halfAt_7 : decode cX7_halfAt 7 = .ok (.aload_n 0, 1) := by decide +kernel
theorem dX7_halfAt_8 : decode cX7_halfAt 8 = .ok (.aload_n 0, 1) := by decide +kernel
theorem dX7_halfAt_9 : decode cX7_halfAt 9 = .ok (.iload_n 1, 1) := by decide +kernel
theorem dX7_halfAt_10 : decode cX7_halfAt 10 = .ok (.invokevirtual 60, 3) := by decide +kernel
theorem dX7_halfAt_13 : decode cX7_halfAt 13 = .ok (.iload_n 2, 1) := by decide +kernel
theorem dX7_halfAt_14 : decode cX7_halfAt 14 = .ok (.invokevirtual 46, 3) := by decide +kernel
theorem dX7_halfAt_17 : decode cX7_halfAt 17 = .ok (.istore 4, 2) := by decide +kernel
theorem dX7_halfAt_19 : decode cX7_halfAt 19 = .ok (.iload_n 3, 1) := by decide +kernel
theorem dX7_halfAt_20 : decode cX7_halfAt 20 = .ok (.iconst (-1), 1) := by decide +kernel
theorem dX7_halfAt_21 : decode cX7_halfAt 21 = .ok (.if_icmp .ne 6, 3) := by decide +kernel
theorem dX7_halfAt_24 : decode cX7_halfAt 24 = .ok (.iload 4, 2) := by decide +kernel
theorem dX7_halfAt_26 : decode cX7_halfAt 26 = .ok (.ireturn, 1) := by decide +kernel
theorem dX7_halfAt_27 : decode cX7_halfAt 27 = .ok (.iload 4, 2) := by decide +kernel
theorem dX7_halfAt_29 : decode cX7_halfAt 29 = .ok (.iconst (-1), 1) := by decide +kernel
theorem dX7_halfAt_30 : decode cX7_halfAt 30 = .ok (.if_icmp .ne 7, 3) := by decide +kernel
theorem dX7_halfAt_33 : decode cX7_halfAt 33 = .ok (.iload_n 3, 1) := by decide +kernel
theorem dX7_halfAt_34 : decode cX7_halfAt 34 = .ok (.goto 9, 3) := by decide +kernel
theorem dX7_halfAt_37 : decode cX7_halfAt 37 = .ok (.iload_n 3, 1) := by decide +kernel
theorem dX7_halfAt_38 : decode cX7_halfAt 38 = .ok (.iload 4, 2) := by decide +kernel
theorem dX7_halfAt_40 : decode cX7_halfAt 40 = .ok (.iadd, 1) := by decide +kernel
theorem dX7_halfAt_41 : decode cX7_halfAt 41 = .ok (.iconst 2, 1) := by decide +kernel
theorem dX7_halfAt_42 : decode cX7_halfAt 42 = .ok (.idiv, 1) := by decide +kernel
theorem dX7_halfAt_43 : decode cX7_halfAt 43 = .ok (.ireturn, 1) := by decide +kernel
theorem dX7_lowering_0 : decode cX7_lowering 0 = .ok (.aload_n 0, 1) := by decide +kernel
theorem dX7_lowering_1 : decode cX7_lowering 1 = .ok (.iload_n 1, 1) := by decide +kernel
theorem dX7_lowering_2 : decode cX7_lowering 2 = .ok (.invokevirtual 60, 3) := by decide +kernel
theorem dX7_lowering_5 : decode cX7_lowering 5 = .ok (.istore_n 3, 1) := by decide +kernel
theorem dX7_lowering_6 : decode cX7_lowering 6 = .ok (.aload_n 0, 1) := by decide +kernel
theorem dX7_lowering_7 : decode cX7_lowering 7 = .ok (.iload_n 1, 1) := by decide +kernel
theorem dX7_lowering_8 : decode cX7_lowering 8 = .ok (.iload_n 3, 1) := by decide +kernel
theorem dX7_lowering_9 : decode cX7_lowering 9 = .ok (.iload_n 2, 1) := by decide +kernel
theorem dX7_lowering_10 : decode cX7_lowering 10 = .ok (.invokevirtual 63, 3) := by decide +kernel
theorem dX7_lowering_13 : decode cX7_lowering 13 = .ok (.istore 4, 2) := by decide +kernel
theorem dX7_lowering_15 : decode cX7_lowering 15 = .ok (.iconst 0, 1) := by decide +kernel
theorem dX7_lowering_16 : decode cX7_lowering 16 = .ok (.istore 5, 2) := by decide +kernel
theorem dX7_lowering_18 : decode cX7_lowering 18 = .ok (.iconst 0, 1) := by decide +kernel
theorem dX7_lowering_19 : decode cX7_lowering 19 = .ok (.istore 6, 2) := by decide +kernel
theorem dX7_lowering_21 : decode cX7_lowering 21 = .ok (.iconst 0, 1) := by decide +kernel
theorem dX7_lowering_22 : decode cX7_lowering 22 = .ok (.istore 7, 2) := by decide +kernel
theorem dX7_lowering_24 : decode cX7_lowering 24 = .ok (.iload 7, 2) := by decide +kernel
theorem dX7_lowering_26 : decode cX7_lowering 26 = .ok (.iconst 4, 1) := by decide +kernel
theorem dX7_lowering_27 : decode cX7_lowering 27 = .ok (.if_icmp .ge 54, 3) := by decide +kernel
theorem dX7_lowering_30 : decode cX7_lowering 30 = .ok (.aload_n 0, 1) := by decide +kernel
theorem dX7_lowering_31 : decode cX7_lowering 31 = .ok (.iload_n 1, 1) := by decide +kernel
theorem dX7_lowering_32 : decode cX7_lowering 32 = .ok (.iload 7, 2) := by decide +kernel
theorem dX7_lowering_34 : decode cX7_lowering 34 = .ok (.invokevirtual 66, 3) := by decide +kernel
theorem dX7_lowering_37 : decode cX7_lowering 37 = .ok (.istore 8, 2) := by decide +kernel
theorem dX7_lowering_39 : decode cX7_lowering 39 = .ok (.iload 5, 2) := by decide +kernel
theorem dX7_lowering_41 : decode cX7_lowering 41 = .ok (.aload_n 0, 1) := by decide +kernel
theorem dX7_lowering_42 : decode cX7_lowering 42 = .ok (.iload_n 1, 1) := by decide +kernel
theorem dX7_lowering_43 : decode cX7_lowering 43 = .ok (.iload 7, 2) := by decide +kernel
theorem dX7_lowering_45 : decode cX7_lowering 45 = .ok (.invokevirtual 46, 3) := by decide +kernel
theorem dX7_lowering_48 : decode cX7_lowering 48 = .ok (.iload 8, 2) := by decide +kernel
theorem dX7_lowering_50 : decode cX7_lowering 50 = .ok (.iload_n 2, 1) := by decide +kernel
theorem dX7_lowering_51 : decode cX7_lowering 51 = .ok (.invokestatic 50, 3) := by decide +kernel
theorem dX7_lowering_54 : decode cX7_lowering 54 = .ok (.iadd, 1) := by decide +kernel
theorem dX7_lowering_55 : decode cX7_lowering 55 = .ok (.istore 5, 2) := by decide +kernel
theorem dX7_lowering_57 : decode cX7_lowering 57 = .ok (.iload 6, 2) := by decide +kernel
theorem dX7_lowering_59 : decode cX7_lowering 59 = .ok (.iload 8, 2) := by decide +kernel
theorem dX7_lowering_61 : decode cX7_lowering 61 = .ok (.aload_n 0, 1) := by decide +kernel
theorem dX7_lowering_62 : decode cX7_lowering 62 = .ok (.iload_n 3, 1) := by decide +kernel
theorem dX7_lowering_63 : decode cX7_lowering 63 = .ok (.iload 7, 2) := by decide +kernel
theorem dX7_lowering_65 : decode cX7_lowering 65 = .ok (.invokevirtual 46, 3) := by decide +kernel
theorem dX7_lowering_68 : decode cX7_lowering 68 = .ok (.iload_n 2, 1) := by decide +kernel
theorem dX7_lowering_69 : decode cX7_lowering 69 = .ok (.invokestatic 50, 3) := by decide +kernel
theorem dX7_lowering_72 : decode cX7_lowering 72 = .ok (.iadd, 1) := by decide +kernel
theorem dX7_lowering_73 : decode cX7_lowering 73 = .ok (.istore 6, 2) := by decide +kernel
theorem dX7_lowering_75 : decode cX7_lowering 75 = .ok (.iinc 7 1, 3) := by decide +kernel
theorem dX7_lowering_78 : decode cX7_lowering 78 = .ok (.goto (-54), 3) := by decide +kernel
theorem dX7_lowering_81 : decode cX7_lowering 81 = .ok (.iload 4, 2) := by decide +kernel
theorem dX7_lowering_83 : decode cX7_lowering 83 = .ok (.iload 4, 2) := by decide +kernel
theorem dX7_lowering_85 : decode cX7_lowering 85 = .ok (.imul, 1) := by decide +kernel
theorem dX7_lowering_86 : decode cX7_lowering 86 = .ok (.iload 5, 2) := by decide +kernel
theorem dX7_lowering_88 : decode cX7_lowering 88 = .ok (.iload 5, 2) := by decide +kernel
theorem dX7_lowering_90 : decode cX7_lowering 90 = .ok (.imul, 1) := by decide +kernel
theorem dX7_lowering_91 : decode cX7_lowering 91 = .ok (.isub, 1) := by decide +kernel
theorem dX7_lowering_92 : decode cX7_lowering 92 = .ok (.iload 6, 2) := by decide +kernel
theorem dX7_lowering_94 : decode cX7_lowering 94 = .ok (.iload 6, 2) := by decide +kernel
theorem dX7_lowering_96 : decode cX7_lowering 96 = .ok (.imul, 1) := by decide +kernel
theorem dX7_lowering_97 : decode cX7_lowering 97 = .ok (.isub, 1) := by decide +kernel
theorem dX7_lowering_98 : decode cX7_lowering 98 = .ok (.ireturn, 1) := by decide +kernel
theorem dX7_missingBehind_0 : decode cX7_missingBehind 0 = .ok (.iconst (-1), 1) := by decide +kernel
theorem dX7_missingBehind_1 : decode cX7_missingBehind 1 = .ok (.istore_n 2, 1) := by decide +kernel
theorem dX7_missingBehind_2 : decode cX7_missingBehind 2 = .ok (.iconst 0, 1) := by decide +kernel
theorem dX7_missingBehind_3 : decode cX7_missingBehind 3 = .ok (.istore_n 3, 1) := by decide +kernel
theorem dX7_missingBehind_4 : decode cX7_missingBehind 4 = .ok (.iconst 0, 1) := by decide +kernel
theorem dX7_missingBehind_5 : decode cX7_missingBehind 5 = .ok (.istore 4, 2) := by decide +kernel
theorem dX7_missingBehind_7 : decode cX7_missingBehind 7 = .ok (.iload 4, 2) := by decide +kernel
theorem dX7_missingBehind_9 : decode cX7_missingBehind 9 = .ok (.aload_n 0, 1) := by decide +kernel
theorem dX7_missingBehind_10 : decode cX7_missingBehind 10 = .ok (.getfield 35, 3) := by decide +kernel
theorem dX7_missingBehind_13 : decode cX7_missingBehind 13 = .ok (.if_icmp .ge 30, 3) := by decide +kernel
theorem dX7_missingBehind_16 : decode cX7_missingBehind 16 = .ok (.aload_n 0, 1) := by decide +kernel
theorem dX7_missingBehind_17 : decode cX7_missingBehind 17 = .ok (.iload 4, 2) := by decide +kernel
theorem dX7_missingBehind_19 : decode cX7_missingBehind 19 = .ok (.iload_n 1, 1) := by decide +kernel
theorem dX7_missingBehind_20 : decode cX7_missingBehind 20 = .ok (.invokevirtual 69, 3) := by decide +kernel
theorem dX7_missingBehind_23 : decode cX7_missingBehind 23 = .ok (.istore 5, 2) := by decide +kernel
theorem dX7_missingBehind_25 : decode cX7_missingBehind 25 = .ok (.iload 5, 2) := by decide +kernel
theorem dX7_missingBehind_27 : decode cX7_missingBehind 27 = .ok (.iload_n 3, 1) := by decide +kernel
theorem dX7_missingBehind_28 : decode cX7_missingBehind 28 = .ok (.if_icmp .le 9, 3) := by decide +kernel
theorem dX7_missingBehind_31 : decode cX7_missingBehind 31 = .ok (.iload 5, 2) := by decide +kernel
theorem dX7_missingBehind_33 : decode cX7_missingBehind 33 = .ok (.istore_n 3, 1) := by decide +kernel
theorem dX7_missingBehind_34 : decode cX7_missingBehind 34 = .ok (.iload 4, 2) := by decide +kernel
theorem dX7_missingBehind_36 : decode cX7_missingBehind 36 = .ok (.istore_n 2, 1) := by decide +kernel
theorem dX7_missingBehind_37 : decode cX7_missingBehind 37 = .ok (.iinc 4 1, 3) := by decide +kernel
theorem dX7_missingBehind_40 : decode cX7_missingBehind 40 = .ok (.goto (-33), 3) := by decide +kernel
theorem dX7_missingBehind_43 : decode cX7_missingBehind 43 = .ok (.iload_n 2, 1) := by decide +kernel
theorem dX7_missingBehind_44 : decode cX7_missingBehind 44 = .ok (.ireturn, 1) := by decide +kernel
theorem dX7_fewest_0 : decode cX7_fewest 0 = .ok (.aload_n 0, 1) := by decide +kernel
theorem dX7_fewest_1 : decode cX7_fewest 1 = .ok (.iload_n 1, 1) := by decide +kernel
theorem dX7_fewest_2 : decode cX7_fewest 2 = .ok (.iload_n 2, 1) := by decide +kernel
theorem dX7_fewest_3 : decode cX7_fewest 3 = .ok (.invokevirtual 72, 3) := by decide +kernel
theorem dX7_fewest_6 : decode cX7_fewest 6 = .ok (.iconst 1, 1) := by decide +kernel
theorem dX7_fewest_7 : decode cX7_fewest 7 = .ok (.aload_n 0, 1) := by decide +kernel
theorem dX7_fewest_8 : decode cX7_fewest 8 = .ok (.getfield 35, 3) := by decide +kernel
theorem dX7_fewest_11 : decode cX7_fewest 11 = .ok (.ishl, 1) := by decide +kernel
theorem dX7_fewest_12 : decode cX7_fewest 12 = .ok (.iconst 1, 1) := by decide +kernel
theorem dX7_fewest_13 : decode cX7_fewest 13 = .ok (.isub, 1) := by decide +kernel
theorem dX7_fewest_14 : decode cX7_fewest 14 = .ok (.istore_n 3, 1) := by decide +kernel
theorem dX7_fewest_15 : decode cX7_fewest 15 = .ok (.iload_n 3, 1) := by decide +kernel
theorem dX7_fewest_16 : decode cX7_fewest 16 = .ok (.istore 4, 2) := by decide +kernel
theorem dX7_fewest_18 : decode cX7_fewest 18 = .ok (.iconst 1, 1) := by decide +kernel
theorem dX7_fewest_19 : decode cX7_fewest 19 = .ok (.istore 5, 2) := by decide +kernel
theorem dX7_fewest_21 : decode cX7_fewest 21 = .ok (.iload 5, 2) := by decide +kernel
theorem dX7_fewest_23 : decode cX7_fewest 23 = .ok (.iload_n 3, 1) := by decide +kernel
theorem dX7_fewest_24 : decode cX7_fewest 24 = .ok (.if_icmp .ge 35, 3) := by decide +kernel
theorem dX7_fewest_27 : decode cX7_fewest 27 = .ok (.iload 5, 2) := by decide +kernel
theorem dX7_fewest_29 : decode cX7_fewest 29 = .ok (.invokestatic 76, 3) := by decide +kernel
theorem dX7_fewest_32 : decode cX7_fewest 32 = .ok (.iload 4, 2) := by decide +kernel
theorem dX7_fewest_34 : decode cX7_fewest 34 = .ok (.invokestatic 76, 3) := by decide +kernel
theorem dX7_fewest_37 : decode cX7_fewest 37 = .ok (.if_icmp .ge 16, 3) := by decide +kernel
theorem dX7_fewest_40 : decode cX7_fewest 40 = .ok (.aload_n 0, 1) := by decide +kernel
theorem dX7_fewest_41 : decode cX7_fewest 41 = .ok (.iload 5, 2) := by decide +kernel
theorem dX7_fewest_43 : decode cX7_fewest 43 = .ok (.invokevirtual 81, 3) := by decide +kernel
theorem dX7_fewest_46 : decode cX7_fewest 46 = .ok (.ifCond .eq 7, 3) := by decide +kernel
theorem dX7_fewest_49 : decode cX7_fewest 49 = .ok (.iload 5, 2) := by decide +kernel
theorem dX7_fewest_51 : decode cX7_fewest 51 = .ok (.istore 4, 2) := by decide +kernel
theorem dX7_fewest_53 : decode cX7_fewest 53 = .ok (.iinc 5 1, 3) := by decide +kernel
theorem dX7_fewest_56 : decode cX7_fewest 56 = .ok (.goto (-35), 3) := by decide +kernel
theorem dX7_fewest_59 : decode cX7_fewest 59 = .ok (.iload 4, 2) := by decide +kernel
theorem dX7_fewest_61 : decode cX7_fewest 61 = .ok (.ireturn, 1) := by decide +kernel
theorem dX7_findNear_0 : decode cX7_findNear 0 = .ok (.iconst 0, 1) := by decide +kernel
theorem dX7_findNear_1 : decode cX7_findNear 1 = .ok (.istore_n 3, 1) := by decide +kernel
theorem dX7_findNear_2 : decode cX7_findNear 2 = .ok (.iload_n 3, 1) := by decide +kernel
theorem dX7_findNear_3 : decode cX7_findNear 3 = .ok (.aload_n 0, 1) := by decide +kernel
theorem dX7_findNear_4 : decode cX7_findNear 4 = .ok (.getfield 35, 3) := by decide +kernel
theorem dX7_findNear_7 : decode cX7_findNear 7 = .ok (.if_icmp .ge 68, 3) := by decide +kernel
theorem dX7_findNear_10 : decode cX7_findNear 10 = .ok (.iload_n 3, 1) := by decide +kernel
theorem dX7_findNear_11 : decode cX7_findNear 11 = .ok (.aload_n 0, 1) := by decide +kernel
theorem dX7_findNear_12 : decode cX7_findNear 12 = .ok (.getfield 18, 3) := by decide +kernel
theorem dX7_findNear_15 : decode cX7_findNear 15 = .ok (.arraylength, 1) := by decide +kernel
theorem dX7_findNear_16 : decode cX7_findNear 16 = .ok (.if_icmp .ge 59, 3) := by decide +kernel
theorem dX7_findNear_19 : decode cX7_findNear 19 = .ok (.aload_n 0, 1) := by decide +kernel
theorem dX7_findNear_20 : decode cX7_findNear 20 = .ok (.getfield 18, 3) := by decide +kernel
theorem dX7_findNear_23 : decode cX7_findNear 23 = .ok (.iload_n 3, 1) := by decide +kernel
theorem dX7_findNear_24 : decode cX7_findNear 24 = .ok (.iconst 0, 1) := by decide +kernel
theorem dX7_findNear_25 : decode cX7_findNear 25 = .ok (.iastore, 1) := by decide +kernel
theorem dX7_findNear_26 : decode cX7_findNear 26 = .ok (.iconst 0, 1) := by decide +kernel
theorem dX7_findNear_27 : decode cX7_findNear 27 = .ok (.istore 4, 2) := by decide +kernel
theorem dX7_findNear_29 : decode cX7_findNear 29 = .ok (.iload 4, 2) := by decide +kernel
theorem dX7_findNear_31 : decode cX7_findNear 31 = .ok (.aload_n 0, 1) := by decide +kernel
theorem dX7_findNear_32 : decode cX7_findNear 32 = .ok (.getfield 35, 3) := by decide +kernel
theorem dX7_findNear_35 : decode cX7_findNear 35 = .ok (.if_icmp .ge 34, 3) := by decide +kernel
theorem dX7_findNear_38 : decode cX7_findNear 38 = .ok (.aload_n 0, 1) := by decide +kernel
theorem dX7_findNear_39 : decode cX7_findNear 39 = .ok (.iload_n 3, 1) := by decide +kernel
theorem dX7_findNear_40 : decode cX7_findNear 40 = .ok (.iload 4, 2) := by decide +kernel
theorem dX7_findNear_42 : decode cX7_findNear 42 = .ok (.iload_n 2, 1) := by decide +kernel
theorem dX7_findNear_43 : decode cX7_findNear 43 = .ok (.invokevirtual 63, 3) := by decide +kernel
theorem dX7_findNear_46 : decode cX7_findNear 46 = .ok (.iload_n 1, 1) := by decide +kernel
theorem dX7_findNear_47 : decode cX7_findNear 47 = .ok (.if_icmp .gt 16, 3) := by decide +kernel
theorem dX7_findNear_50 : decode cX7_findNear 50 = .ok (.aload_n 0, 1) := by decide +kernel
theorem dX7_findNear_51 : decode cX7_findNear 51 = .ok (.getfield 18, 3) := by decide +kernel
theorem dX7_findNear_54 : decode cX7_findNear 54 = .ok (.iload_n 3, 1) := by decide +kernel
theorem dX7_findNear_55 : decode cX7_findNear 55 = .ok (.dup2, 1) := by decide +kernel
theorem dX7_findNear_56 : decode cX7_findNear 56 = .ok (.iaload, 1) := by decide +kernel
theorem dX7_findNear_57 : decode cX7_findNear 57 = .ok (.iconst 1, 1) := by decide +kernel
theorem dX7_findNear_58 : decode cX7_findNear 58 = .ok (.iload 4, 2) := by decide +kernel
theorem dX7_findNear_60 : decode cX7_findNear 60 = .ok (.ishl, 1) := by decide +kernel
theorem dX7_findNear_61 : decode cX7_findNear 61 = .ok (.ior, 1) := by decide +kernel
theorem dX7_findNear_62 : decode cX7_findNear 62 = .ok (.iastore, 1) := by decide +kernel
theorem dX7_findNear_63 : decode cX7_findNear 63 = .ok (.iinc 4 1, 3) := by decide +kernel
theorem dX7_findNear_66 : decode cX7_findNear 66 = .ok (.goto (-37), 3) := by decide +kernel
theorem dX7_findNear_69 : decode cX7_findNear 69 = .ok (.iinc 3 1, 3) := by decide +kernel
theorem dX7_findNear_72 : decode cX7_findNear 72 = .ok (.goto (-70), 3) := by decide +kernel
theorem dX7_findNear_75 : decode cX7_findNear 75 = .ok (.return_, 1) := by decide +kernel
theorem dX7_reaches_0 : decode cX7_reaches 0 = .ok (.iconst 0, 1) := by decide +kernel
theorem dX7_reaches_1 : decode cX7_reaches 1 = .ok (.istore_n 2, 1) := by decide +kernel
theorem dX7_reaches_2 : decode cX7_reaches 2 = .ok (.iload_n 2, 1) := by decide +kernel
theorem dX7_reaches_3 : decode cX7_reaches 3 = .ok (.aload_n 0, 1) := by decide +kernel
theorem dX7_reaches_4 : decode cX7_reaches 4 = .ok (.getfield 35, 3) := by decide +kernel
theorem dX7_reaches_7 : decode cX7_reaches 7 = .ok (.if_icmp .ge 31, 3) := by decide +kernel
theorem dX7_reaches_10 : decode cX7_reaches 10 = .ok (.iload_n 2, 1) := by decide +kernel
theorem dX7_reaches_11 : decode cX7_reaches 11 = .ok (.aload_n 0, 1) := by decide +kernel
theorem dX7_reaches_12 : decode cX7_reaches 12 = .ok (.getfield 18, 3) := by decide +kernel
theorem dX7_reaches_15 : decode cX7_reaches 15 = .ok (.arraylength, 1) := by decide +kernel
theorem dX7_reaches_16 : decode cX7_reaches 16 = .ok (.if_icmp .ge 22, 3) := by decide +kernel
theorem dX7_reaches_19 : decode cX7_reaches 19 = .ok (.aload_n 0, 1) := by decide +kernel
theorem dX7_reaches_20 : decode cX7_reaches 20 = .ok (.getfield 18, 3) := by decide +kernel
theorem dX7_reaches_23 : decode cX7_reaches 23 = .ok (.iload_n 2, 1) := by decide +kernel
theorem dX7_reaches_24 : decode cX7_reaches 24 = .ok (.iaload, 1) := by decide +kernel
theorem dX7_reaches_25 : decode cX7_reaches 25 = .ok (.iload_n 1, 1) := by decide +kernel
theorem dX7_reaches_26 : decode cX7_reaches 26 = .ok (.iand, 1) := by decide +kernel
theorem dX7_reaches_27 : decode cX7_reaches 27 = .ok (.ifCond .ne 5, 3) := by decide +kernel
theorem dX7_reaches_30 : decode cX7_reaches 30 = .ok (.iconst 0, 1) := by decide +kernel
theorem dX7_reaches_31 : decode cX7_reaches 31 = .ok (.ireturn, 1) := by decide +kernel
theorem dX7_reaches_32 : decode cX7_reaches 32 = .ok (.iinc 2 1, 3) := by decide +kernel
theorem dX7_reaches_35 : decode cX7_reaches 35 = .ok (.goto (-33), 3) := by decide +kernel
theorem dX7_reaches_38 : decode cX7_reaches 38 = .ok (.iconst 1, 1) := by decide +kernel
theorem dX7_reaches_39 : decode cX7_reaches 39 = .ok (.ireturn, 1) := by decide +kernel
theorem dX8_init_0 : decode cX8_init 0 = .ok (.aload_n 0, 1) := by decide +kernel
theorem dX8_init_1 : decode cX8_init 1 = .ok (.invokespecial 3, 3) := by decide +kernel
theorem dX8_init_4 : decode cX8_init 4 = .ok (.aload_n 0, 1) := by decide +kernel
theorem dX8_init_5 : decode cX8_init 5 = .ok (.bipush 40, 2) := by decide +kernel
theorem dX8_init_7 : decode cX8_init 7 = .ok (.newarray .int, 2) := by decide +kernel
theorem dX8_init_9 : decode cX8_init 9 = .ok (.putfield 9, 3) := by decide +kernel
theorem dX8_init_12 : decode cX8_init 12 = .ok (.aload_n 0, 1) := by decide +kernel
theorem dX8_init_13 : decode cX8_init 13 = .ok (.bipush 40, 2) := by decide +kernel
theorem dX8_init_15 : decode cX8_init 15 = .ok (.newarray .int, 2) := by decide +kernel
theorem dX8_init_17 : decode cX8_init 17 = .ok (.putfield 15, 3) := by decide +kernel
theorem dX8_init_20 : decode cX8_init 20 = .ok (.aload_n 0, 1) := by decide +kernel
theorem dX8_init_21 : decode cX8_init 21 = .ok (.bipush 40, 2) := by decide +kernel
theorem dX8_init_23 : decode cX8_init 23 = .ok (.newarray .int, 2) := by decide +kernel
theorem dX8_init_25 : decode cX8_init 25 = .ok (.putfield 18, 3) := by decide +kernel
theorem dX8_init_28 : decode cX8_init 28 = .ok (.return_, 1) := by decide +kernel
theorem dX8_add_0 : decode cX8_add 0 = .ok (.aload_n 0, 1) := by decide +kernel
theorem dX8_add_1 : decode cX8_add 1 = .ok (.getfield 21, 3) := by decide +kernel
theorem dX8_add_4 : decode cX8_add 4 = .ok (.ifCond .lt 12, 3) := by decide +kernel
theorem dX8_add_7 : decode cX8_add 7 = .ok (.aload_n 0, 1) := by decide +kernel
theorem dX8_add_8 : decode cX8_add 8 = .ok (.getfield 21, 3) := by decide +kernel
theorem dX8_add_11 : decode cX8_add 11 = .ok (.bipush 40, 2) := by decide +kernel
theorem dX8_add_13 : decode cX8_add 13 = .ok (.if_icmp .lt 6, 3) := by decide +kernel
theorem dX8_add_16 : decode cX8_add 16 = .ok (.bipush (-4), 2) := by decide +kernel
theorem dX8_add_18 : decode cX8_add 18 = .ok (.ireturn, 1) := by decide +kernel
theorem dX8_add_19 : decode cX8_add 19 = .ok (.aload_n 0, 1) := by decide +kernel
theorem dX8_add_20 : decode cX8_add 20 = .ok (.getfield 9, 3) := by decide +kernel
theorem dX8_add_23 : decode cX8_add 23 = .ok (.aload_n 0, 1) := by decide +kernel
theorem dX8_add_24 : decode cX8_add 24 = .ok (.getfield 21, 3) := by decide +kernel
theorem dX8_add_27 : decode cX8_add 27 = .ok (.iload_n 1, 1) := by decide +kernel
theorem dX8_add_28 : decode cX8_add 28 = .ok (.iastore, 1) := by decide +kernel
theorem dX8_add_29 : decode cX8_add 29 = .ok (.aload_n 0, 1) := by decide +kernel
theorem dX8_add_30 : decode cX8_add 30 = .ok (.getfield 15, 3) := by decide +kernel
theorem dX8_add_33 : decode cX8_add 33 = .ok (.aload_n 0, 1) := by decide +kernel
theorem dX8_add_34 : decode cX8_add 34 = .ok (.getfield 21, 3) := by decide +kernel
theorem dX8_add_37 : decode cX8_add 37 = .ok (.iload_n 2, 1) := by decide +kernel
theorem dX8_add_38 : decode cX8_add 38 = .ok (.iastore, 1) := by decide +kernel
theorem dX8_add_39 : decode cX8_add 39 = .ok (.aload_n 0, 1) := by decide +kernel
theorem dX8_add_40 : decode cX8_add 40 = .ok (.getfield 18, 3) := by decide +kernel
theorem dX8_add_43 : decode cX8_add 43 = .ok (.aload_n 0, 1) := by decide +kernel
theorem dX8_add_44 : decode cX8_add 44 = .ok (.getfield 21, 3) := by decide +kernel
theorem dX8_add_47 : decode cX8_add 47 = .ok (.iload_n 3, 1) := by decide +kernel
theorem dX8_add_48 : decode cX8_add 48 = .ok (.iastore, 1) := by decide +kernel
theorem dX8_add_49 : decode cX8_add 49 = .ok (.aload_n 0, 1) := by decide +kernel
theorem dX8_add_50 : decode cX8_add 50 = .ok (.dup, 1) := by decide +kernel
theorem dX8_add_51 : decode cX8_add 51 = .ok (.getfield 21, 3) := by decide +kernel
theorem dX8_add_54 : decode cX8_add 54 = .ok (.iconst 1, 1) := by decide +kernel
theorem dX8_add_55 : decode cX8_add 55 = .ok (.iadd, 1) := by decide +kernel
theorem dX8_add_56 : decode cX8_add 56 = .ok (.putfield 21, 3) := by decide +kernel
theorem dX8_add_59 : decode cX8_add 59 = .ok (.aload_n 0, 1) := by decide +kernel
theorem dX8_add_60 : decode cX8_add 60 = .ok (.getfield 21, 3) := by decide +kernel
theorem dX8_add_63 : decode cX8_add 63 = .ok (.ireturn, 1) := by decide +kernel
theorem dX8_toldOtherwise_0 : decode cX8_toldOtherwise 0 = .ok (.iconst 0, 1) := by decide +kernel
theorem dX8_toldOtherwise_1 : decode cX8_toldOtherwise 1 = .ok (.istore_n 3, 1) := by decide +kernel
theorem dX8_toldOtherwise_2 : decode cX8_toldOtherwise 2 = .ok (.iconst 0, 1) := by decide +kernel
theorem dX8_toldOtherwise_3 : decode cX8_toldOtherwise 3 = .ok (.istore 4, 2) := by decide +kernel
theorem dX8_toldOtherwise_5 : decode cX8_toldOtherwise 5 = .ok (.iload 4, 2) := by decide +kernel
theorem dX8_toldOtherwise_7 : decode cX8_toldOtherwise 7 = .ok (.aload_n 0, 1) := by decide +kernel
theorem dX8_toldOtherwise_8 : decode cX8_toldOtherwise 8 = .ok (.getfield 21, 3) := by decide +kernel
theorem dX8_toldOtherwise_11 : decode cX8_toldOtherwise 11 = .ok (.if_icmp .ge 59, 3) := by decide +kernel
theorem dX8_toldOtherwise_14 : decode cX8_toldOtherwise 14 = .ok (.iload 4, 2) := by decide +kernel
theorem dX8_toldOtherwise_16 : decode cX8_toldOtherwise 16 = .ok (.bipush 40, 2) := by decide +kernel
theorem dX8_toldOtherwise_18 : decode cX8_toldOtherwise 18 = .ok (.if_icmp .ge 52, 3) := by decide +kernel
theorem dX8_toldOtherwise_21 : decode cX8_toldOtherwise 21 = .ok (.aload_n 0, 1) := by decide +kernel
theorem dX8_toldOtherwise_22 : decode cX8_toldOtherwise 22 = .ok (.getfield 9, 3) := by decide +kernel
theorem dX8_toldOtherwise_25 : decode cX8_toldOtherwise 25 = .ok (.iload 4, 2) := by decide +kernel
theorem dX8_toldOtherwise_27 : decode cX8_toldOtherwise 27 = .ok (.iaload, 1) := by decide +kernel
theorem dX8_toldOtherwise_28 : decode cX8_toldOtherwise 28 = .ok (.iload_n 1, 1) := by decide +kernel
theorem dX8_toldOtherwise_29 : decode cX8_toldOtherwise 29 = .ok (.iload_n 2, 1) := by decide +kernel
theorem dX8_toldOtherwise_30 : decode cX8_toldOtherwise 30 = .ok (.aload_n 0, 1) := by decide +kernel
theorem dX8_toldOtherwise_31 : decode cX8_toldOtherwise 31 = .ok (.getfield 15, 3) := by decide +kernel
theorem dX8_toldOtherwise_34 : decode cX8_toldOtherwise 34 = .ok (.iload 4, 2) := by decide +kernel
theorem dX8_toldOtherwise_36 : decode cX8_toldOtherwise 36 = .ok (.iaload, 1) := by decide +kernel
theorem dX8_toldOtherwise_37 : decode cX8_toldOtherwise 37 = .ok (.imul, 1) := by decide +kernel
theorem dX8_toldOtherwise_38 : decode cX8_toldOtherwise 38 = .ok (.iadd, 1) := by decide +kernel
theorem dX8_toldOtherwise_39 : decode cX8_toldOtherwise 39 = .ok (.if_icmp .lt 7, 3) := by decide +kernel
theorem dX8_toldOtherwise_42 : decode cX8_toldOtherwise 42 = .ok (.iconst 1, 1) := by decide +kernel
theorem dX8_toldOtherwise_43 : decode cX8_toldOtherwise 43 = .ok (.goto 4, 3) := by decide +kernel
theorem dX8_toldOtherwise_46 : decode cX8_toldOtherwise 46 = .ok (.iconst 0, 1) := by decide +kernel
theorem dX8_toldOtherwise_47 : decode cX8_toldOtherwise 47 = .ok (.istore 5, 2) := by decide +kernel
theorem dX8_toldOtherwise_49 : decode cX8_toldOtherwise 49 = .ok (.iload 5, 2) := by decide +kernel
theorem dX8_toldOtherwise_51 : decode cX8_toldOtherwise 51 = .ok (.aload_n 0, 1) := by decide +kernel
theorem dX8_toldOtherwise_52 : decode cX8_toldOtherwise 52 = .ok (.getfield 18, 3) := by decide +kernel
theorem dX8_toldOtherwise_55 : decode cX8_toldOtherwise 55 = .ok (.iload 4, 2) := by decide +kernel
theorem dX8_toldOtherwise_57 : decode cX8_toldOtherwise 57 = .ok (.iaload, 1) := by decide +kernel
theorem dX8_toldOtherwise_58 : decode cX8_toldOtherwise 58 = .ok (.if_icmp .eq 6, 3) := by decide +kernel
theorem dX8_toldOtherwise_61 : decode cX8_toldOtherwise 61 = .ok (.iinc 3 1, 3) := by decide +kernel
theorem dX8_toldOtherwise_64 : decode cX8_toldOtherwise 64 = .ok (.iinc 4 1, 3) := by decide +kernel
theorem dX8_toldOtherwise_67 : decode cX8_toldOtherwise 67 = .ok (.goto (-62), 3) := by decide +kernel
theorem dX8_toldOtherwise_70 : decode cX8_toldOtherwise 70 = .ok (.iload_n 3, 1) := by decide +kernel
theorem dX8_toldOtherwise_71 : decode cX8_toldOtherwise 71 = .ok (.ireturn, 1) := by decide +kernel
theorem dX8_search_0 : decode cX8_search 0 = .ok (.aload_n 0, 1) := by decide +kernel
theorem dX8_search_1 : decode cX8_search 1 = .ok (.bipush 41, 2) := by decide +kernel
theorem dX8_search_3 : decode cX8_search 3 = .ok (.putfield 25, 3) := by decide +kernel
theorem dX8_search_6 : decode cX8_search 6 = .ok (.iconst 0, 1) := by decide +kernel
theorem dX8_search_7 : decode cX8_search 7 = .ok (.istore_n 1, 1) := by decide +kernel
theorem dX8_search_8 : decode cX8_search 8 = .ok (.iload_n 1, 1) := by decide +kernel
theorem dX8_search_9 : decode cX8_search 9 = .ok (.bipush 60, 2) := by decide +kernel
theorem dX8_search_11 : decode cX8_search 11 = .ok (.if_icmp .gt 53, 3) := by decide +kernel
theorem dX8_search_14 : decode cX8_search 14 = .ok (.iconst 0, 1) := by decide +kernel
theorem dX8_search_15 : decode cX8_search 15 = .ok (.istore_n 2, 1) := by decide +kernel
theorem dX8_search_16 : decode cX8_search 16 = .ok (.iload_n 2, 1) := by decide +kernel
theorem dX8_search_17 : decode cX8_search 17 = .ok (.bipush 9, 2) := by decide +kernel
theorem dX8_search_19 : decode cX8_search 19 = .ok (.if_icmp .gt 39, 3) := by decide +kernel
theorem dX8_search_22 : decode cX8_search 22 = .ok (.aload_n 0, 1) := by decide +kernel
theorem dX8_search_23 : decode cX8_search 23 = .ok (.iload_n 1, 1) := by decide +kernel
theorem dX8_search_24 : decode cX8_search 24 = .ok (.iload_n 2, 1) := by decide +kernel
theorem dX8_search_25 : decode cX8_search 25 = .ok (.invokevirtual 28, 3) := by decide +kernel
theorem dX8_search_28 : decode cX8_search 28 = .ok (.istore_n 3, 1) := by decide +kernel
theorem dX8_search_29 : decode cX8_search 29 = .ok (.iload_n 3, 1) := by decide +kernel
theorem dX8_search_30 : decode cX8_search 30 = .ok (.aload_n 0, 1) := by decide +kernel
theorem dX8_search_31 : decode cX8_search 31 = .ok (.getfield 25, 3) := by decide +kernel
theorem dX8_search_34 : decode cX8_search 34 = .ok (.if_icmp .ge 18, 3) := by decide +kernel
theorem dX8_search_37 : decode cX8_search 37 = .ok (.aload_n 0, 1) := by decide +kernel
theorem dX8_search_38 : decode cX8_search 38 = .ok (.iload_n 3, 1) := by decide +kernel
theorem dX8_search_39 : decode cX8_search 39 = .ok (.putfield 25, 3) := by decide +kernel
theorem dX8_search_42 : decode cX8_search 42 = .ok (.aload_n 0, 1) := by decide +kernel
theorem dX8_search_43 : decode cX8_search 43 = .ok (.iload_n 1, 1) := by decide +kernel
theorem dX8_search_44 : decode cX8_search 44 = .ok (.putfield 32, 3) := by decide +kernel
theorem dX8_search_47 : decode cX8_search 47 = .ok (.aload_n 0, 1) := by decide +kernel
theorem dX8_search_48 : decode cX8_search 48 = .ok (.iload_n 2, 1) := by decide +kernel
theorem dX8_search_49 : decode cX8_search 49 = .ok (.putfield 35, 3) := by decide +kernel
theorem dX8_search_52 : decode cX8_search 52 = .ok (.iinc 2 1, 3) := by decide +kernel
theorem dX8_search_55 : decode cX8_search 55 = .ok (.goto (-39), 3) := by decide +kernel
theorem dX8_search_58 : decode cX8_search 58 = .ok (.iinc 1 1, 3) := by decide +kernel
theorem dX8_search_61 : decode cX8_search 61 = .ok (.goto (-53), 3) := by decide +kernel
theorem dX8_search_64 : decode cX8_search 64 = .ok (.return_, 1) := by decide +kernel
theorem dX9_stands_0 : decode cX9_stands 0 = .ok (.iload_n 0, 1) := by decide +kernel
theorem dX9_stands_1 : decode cX9_stands 1 = .ok (.iconst 1, 1) := by decide +kernel
theorem dX9_stands_2 : decode cX9_stands 2 = .ok (.bipush 36, 2) := by decide +kernel
theorem dX9_stands_4 : decode cX9_stands 4 = .ok (.invokestatic 9, 3) := by decide +kernel
theorem dX9_stands_7 : decode cX9_stands 7 = .ok (.ifCond .eq 28, 3) := by decide +kernel
theorem dX9_stands_10 : decode cX9_stands 10 = .ok (.iload_n 1, 1) := by decide +kernel
theorem dX9_stands_11 : decode cX9_stands 11 = .ok (.iconst 0, 1) := by decide +kernel
theorem dX9_stands_12 : decode cX9_stands 12 = .ok (.sipush 999, 3) := by decide +kernel
theorem dX9_stands_15 : decode cX9_stands 15 = .ok (.invokestatic 9, 3) := by decide +kernel
theorem dX9_stands_18 : decode cX9_stands 18 = .ok (.ifCond .eq 17, 3) := by decide +kernel
theorem dX9_stands_21 : decode cX9_stands 21 = .ok (.iload_n 2, 1) := by decide +kernel
theorem dX9_stands_22 : decode cX9_stands 22 = .ok (.iconst 1, 1) := by decide +kernel
theorem dX9_stands_23 : decode cX9_stands 23 = .ok (.bipush 99, 2) := by decide +kernel
theorem dX9_stands_25 : decode cX9_stands 25 = .ok (.invokestatic 9, 3) := by decide +kernel
theorem dX9_stands_28 : decode cX9_stands 28 = .ok (.ifCond .eq 7, 3) := by decide +kernel
theorem dX9_stands_31 : decode cX9_stands 31 = .ok (.iconst 1, 1) := by decide +kernel
theorem dX9_stands_32 : decode cX9_stands 32 = .ok (.goto 4, 3) := by decide +kernel
theorem dX9_stands_35 : decode cX9_stands 35 = .ok (.iconst 0, 1) := by decide +kernel
theorem dX9_stands_36 : decode cX9_stands 36 = .ok (.ireturn, 1) := by decide +kernel
theorem dX9_isSecond_0 : decode cX9_isSecond 0 = .ok (.iload_n 0, 1) := by decide +kernel
theorem dX9_isSecond_1 : decode cX9_isSecond 1 = .ok (.iconst (-1), 1) := by decide +kernel
theorem dX9_isSecond_2 : decode cX9_isSecond 2 = .ok (.if_icmp .eq 13, 3) := by decide +kernel
theorem dX9_isSecond_5 : decode cX9_isSecond 5 = .ok (.iload_n 0, 1) := by decide +kernel
theorem dX9_isSecond_6 : decode cX9_isSecond 6 = .ok (.iconst 1, 1) := by decide +kernel
theorem dX9_isSecond_7 : decode cX9_isSecond 7 = .ok (.bipush 99, 2) := by decide +kernel
theorem dX9_isSecond_9 : decode cX9_isSecond 9 = .ok (.invokestatic 9, 3) := by decide +kernel
theorem dX9_isSecond_12 : decode cX9_isSecond 12 = .ok (.ifCond .eq 7, 3) := by decide +kernel
theorem dX9_isSecond_15 : decode cX9_isSecond 15 = .ok (.iconst 1, 1) := by decide +kernel
theorem dX9_isSecond_16 : decode cX9_isSecond 16 = .ok (.goto 4, 3) := by decide +kernel
theorem dX9_isSecond_19 : decode cX9_isSecond 19 = .ok (.iconst 0, 1) := by decide +kernel
theorem dX9_isSecond_20 : decode cX9_isSecond 20 = .ok (.ireturn, 1) := by decide +kernel
theorem dX9_seemsBelow_0 : decode cX9_seemsBelow 0 = .ok (.bipush 60, 2) := by decide +kernel
theorem dX9_seemsBelow_2 : decode cX9_seemsBelow 2 = .ok (.iload_n 0, 1) := by decide +kernel
theorem dX9_seemsBelow_3 : decode cX9_seemsBelow 3 = .ok (.imul, 1) := by decide +kernel
theorem dX9_seemsBelow_4 : decode cX9_seemsBelow 4 = .ok (.ireturn, 1) := by decide +kernel
theorem dX9_seemsAbove_0 : decode cX9_seemsAbove 0 = .ok (.iload_n 0, 1) := by decide +kernel
theorem dX9_seemsAbove_1 : decode cX9_seemsAbove 1 = .ok (.iload_n 1, 1) := by decide +kernel
theorem dX9_seemsAbove_2 : decode cX9_seemsAbove 2 = .ok (.imul, 1) := by decide +kernel
theorem dX9_seemsAbove_3 : decode cX9_seemsAbove 3 = .ok (.istore_n 3, 1) := by decide +kernel
theorem dX9_seemsAbove_4 : decode cX9_seemsAbove 4 = .ok (.iload_n 2, 1) := by decide +kernel
theorem dX9_seemsAbove_5 : decode cX9_seemsAbove 5 = .ok (.invokestatic 13, 3) := by decide +kernel
theorem dX9_seemsAbove_8 : decode cX9_seemsAbove 8 = .ok (.istore 4, 2) := by decide +kernel
theorem dX9_seemsAbove_10 : decode cX9_seemsAbove 10 = .ok (.iload_n 3, 1) := by decide +kernel
theorem dX9_seemsAbove_11 : decode cX9_seemsAbove 11 = .ok (.iload_n 3, 1) := by decide +kernel
theorem dX9_seemsAbove_12 : decode cX9_seemsAbove 12 = .ok (.iload 4, 2) := by decide +kernel
theorem dX9_seemsAbove_14 : decode cX9_seemsAbove 14 = .ok (.invokestatic 19, 3) := by decide +kernel
theorem dX9_seemsAbove_17 : decode cX9_seemsAbove 17 = .ok (.iload 4, 2) := by decide +kernel
theorem dX9_seemsAbove_19 : decode cX9_seemsAbove 19 = .ok (.imul, 1) := by decide +kernel
theorem dX9_seemsAbove_20 : decode cX9_seemsAbove 20 = .ok (.isub, 1) := by decide +kernel
theorem dX9_seemsAbove_21 : decode cX9_seemsAbove 21 = .ok (.ireturn, 1) := by decide +kernel
theorem dX9_alike_0 : decode cX9_alike 0 = .ok (.iload_n 0, 1) := by decide +kernel
theorem dX9_alike_1 : decode cX9_alike 1 = .ok (.iload_n 1, 1) := by decide +kernel
theorem dX9_alike_2 : decode cX9_alike 2 = .ok (.iload_n 3, 1) := by decide +kernel
theorem dX9_alike_3 : decode cX9_alike 3 = .ok (.invokestatic 25, 3) := by decide +kernel
theorem dX9_alike_6 : decode cX9_alike 6 = .ok (.iload_n 0, 1) := by decide +kernel
theorem dX9_alike_7 : decode cX9_alike 7 = .ok (.iload_n 2, 1) := by decide +kernel
theorem dX9_alike_8 : decode cX9_alike 8 = .ok (.iload_n 3, 1) := by decide +kernel
theorem dX9_alike_9 : decode cX9_alike 9 = .ok (.invokestatic 25, 3) := by decide +kernel
theorem dX9_alike_12 : decode cX9_alike 12 = .ok (.if_icmp .ne 7, 3) := by decide +kernel
theorem dX9_alike_15 : decode cX9_alike 15 = .ok (.iconst 1, 1) := by decide +kernel
theorem dX9_alike_16 : decode cX9_alike 16 = .ok (.goto 4, 3) := by decide +kernel
theorem dX9_alike_19 : decode cX9_alike 19 = .ok (.iconst 0, 1) := by decide +kernel
theorem dX9_alike_20 : decode cX9_alike 20 = .ok (.ireturn, 1) := by decide +kernel
theorem dX9_fit_0 : decode cX9_fit 0 = .ok (.iload_n 0, 1) := by decide +kernel
theorem dX9_fit_1 : decode cX9_fit 1 = .ok (.iload_n 1, 1) := by decide +kernel
theorem dX9_fit_2 : decode cX9_fit 2 = .ok (.iload_n 2, 1) := by decide +kernel
theorem dX9_fit_3 : decode cX9_fit 3 = .ok (.iload_n 3, 1) := by decide +kernel
theorem dX9_fit_4 : decode cX9_fit 4 = .ok (.invokestatic 29, 3) := by decide +kernel
theorem dX9_fit_7 : decode cX9_fit 7 = .ok (.ifCond .eq 24, 3) := by decide +kernel
theorem dX9_fit_10 : decode cX9_fit 10 = .ok (.iload 4, 2) := by decide +kernel
theorem dX9_fit_12 : decode cX9_fit 12 = .ok (.iconst (-1), 1) := by decide +kernel
theorem dX9_fit_13 : decode cX9_fit 13 = .ok (.if_icmp .eq 14, 3) := by decide +kernel
theorem dX9_fit_16 : decode cX9_fit 16 = .ok (.iload_n 0, 1) := by decide +kernel
theorem dX9_fit_17 : decode cX9_fit 17 = .ok (.iload_n 1, 1) := by decide +kernel
theorem dX9_fit_18 : decode cX9_fit 18 = .ok (.iload_n 2, 1) := by decide +kernel
theorem dX9_fit_19 : decode cX9_fit 19 = .ok (.iload 4, 2) := by decide +kernel
theorem dX9_fit_21 : decode cX9_fit 21 = .ok (.invokestatic 29, 3) := by decide +kernel
theorem dX9_fit_24 : decode cX9_fit 24 = .ok (.ifCond .eq 7, 3) := by decide +kernel
theorem dX9_fit_27 : decode cX9_fit 27 = .ok (.iconst 1, 1) := by decide +kernel
theorem dX9_fit_28 : decode cX9_fit 28 = .ok (.goto 4, 3) := by decide +kernel
theorem dX9_fit_31 : decode cX9_fit 31 = .ok (.iconst 0, 1) := by decide +kernel
theorem dX9_fit_32 : decode cX9_fit 32 = .ok (.ireturn, 1) := by decide +kernel
theorem dX9_howManyFit_0 : decode cX9_howManyFit 0 = .ok (.iconst 0, 1) := by decide +kernel
theorem dX9_howManyFit_1 : decode cX9_howManyFit 1 = .ok (.istore 5, 2) := by decide +kernel
theorem dX9_howManyFit_3 : decode cX9_howManyFit 3 = .ok (.iconst 0, 1) := by decide +kernel
theorem dX9_howManyFit_4 : decode cX9_howManyFit 4 = .ok (.istore 6, 2) := by decide +kernel
theorem dX9_howManyFit_6 : decode cX9_howManyFit 6 = .ok (.iload 6, 2) := by decide +kernel
theorem dX9_howManyFit_8 : decode cX9_howManyFit 8 = .ok (.iload 4, 2) := by decide +kernel
theorem dX9_howManyFit_10 : decode cX9_howManyFit 10 = .ok (.if_icmp .gt 32, 3) := by decide +kernel
theorem dX9_howManyFit_13 : decode cX9_howManyFit 13 = .ok (.iload 6, 2) := by decide +kernel
theorem dX9_howManyFit_15 : decode cX9_howManyFit 15 = .ok (.sipush 999, 3) := by decide +kernel
theorem dX9_howManyFit_18 : decode cX9_howManyFit 18 = .ok (.if_icmp .gt 24, 3) := by decide +kernel
theorem dX9_howManyFit_21 : decode cX9_howManyFit 21 = .ok (.iload_n 0, 1) := by decide +kernel
theorem dX9_howManyFit_22 : decode cX9_howManyFit 22 = .ok (.iload_n 1, 1) := by decide +kernel
theorem dX9_howManyFit_23 : decode cX9_howManyFit 23 = .ok (.iload 6, 2) := by decide +kernel
theorem dX9_howManyFit_25 : decode cX9_howManyFit 25 = .ok (.iload_n 2, 1) := by decide +kernel
theorem dX9_howManyFit_26 : decode cX9_howManyFit 26 = .ok (.iload_n 3, 1) := by decide +kernel
theorem dX9_howManyFit_27 : decode cX9_howManyFit 27 = .ok (.invokestatic 33, 3) := by decide +kernel
theorem dX9_howManyFit_30 : decode cX9_howManyFit 30 = .ok (.ifCond .eq 6, 3) := by decide +kernel
theorem dX9_howManyFit_33 : decode cX9_howManyFit 33 = .ok (.iinc 5 1, 3) := by decide +kernel
theorem dX9_howManyFit_36 : decode cX9_howManyFit 36 = .ok (.iinc 6 1, 3) := by decide +kernel
theorem dX9_howManyFit_39 : decode cX9_howManyFit 39 = .ok (.goto (-33), 3) := by decide +kernel
theorem dX9_howManyFit_42 : decode cX9_howManyFit 42 = .ok (.iload 5, 2) := by decide +kernel
theorem dX9_howManyFit_44 : decode cX9_howManyFit 44 = .ok (.ireturn, 1) := by decide +kernel
theorem dX9_fitting_0 : decode cX9_fitting 0 = .ok (.iconst 0, 1) := by decide +kernel
theorem dX9_fitting_1 : decode cX9_fitting 1 = .ok (.istore 5, 2) := by decide +kernel
theorem dX9_fitting_3 : decode cX9_fitting 3 = .ok (.iconst 0, 1) := by decide +kernel
theorem dX9_fitting_4 : decode cX9_fitting 4 = .ok (.istore 6, 2) := by decide +kernel
theorem dX9_fitting_6 : decode cX9_fitting 6 = .ok (.iload 6, 2) := by decide +kernel
theorem dX9_fitting_8 : decode cX9_fitting 8 = .ok (.sipush 999, 3) := by decide +kernel
theorem dX9_fitting_11 : decode cX9_fitting 11 = .ok (.if_icmp .gt 34, 3) := by decide +kernel
theorem dX9_fitting_14 : decode cX9_fitting 14 = .ok (.iload_n 0, 1) := by decide +kernel
theorem dX9_fitting_15 : decode cX9_fitting 15 = .ok (.iload_n 1, 1) := by decide +kernel
theorem dX9_fitting_16 : decode cX9_fitting 16 = .ok (.iload 6, 2) := by decide +kernel
theorem dX9_fitting_18 : decode cX9_fitting 18 = .ok (.iload_n 2, 1) := by decide +kernel
theorem dX9_fitting_19 : decode cX9_fitting 19 = .ok (.iload_n 3, 1) := by decide +kernel
theorem dX9_fitting_20 : decode cX9_fitting 20 = .ok (.invokestatic 33, 3) := by decide +kernel
theorem dX9_fitting_23 : decode cX9_fitting 23 = .ok (.ifCond .eq 16, 3) := by decide +kernel
theorem dX9_fitting_26 : decode cX9_fitting 26 = .ok (.iload 5, 2) := by decide +kernel
theorem dX9_fitting_28 : decode cX9_fitting 28 = .ok (.iload 4, 2) := by decide +kernel
theorem dX9_fitting_30 : decode cX9_fitting 30 = .ok (.if_icmp .ne 6, 3) := by decide +kernel
theorem dX9_fitting_33 : decode cX9_fitting 33 = .ok (.iload 6, 2) := by decide +kernel
theorem dX9_fitting_35 : decode cX9_fitting 35 = .ok (.ireturn, 1) := by decide +kernel
theorem dX9_fitting_36 : decode cX9_fitting 36 = .ok (.iinc 5 1, 3) := by decide +kernel
theorem dX9_fitting_39 : decode cX9_fitting 39 = .ok (.iinc 6 1, 3) := by decide +kernel
theorem dX9_fitting_42 : decode cX9_fitting 42 = .ok (.goto (-36), 3) := by decide +kernel
theorem dX9_fitting_45 : decode cX9_fitting 45 = .ok (.iconst (-1), 1) := by decide +kernel
theorem dX9_fitting_46 : decode cX9_fitting 46 = .ok (.ireturn, 1) := by decide +kernel
theorem dX10_init_0 : decode cX10_init 0 = .ok (.aload_n 0, 1) := by decide +kernel
theorem dX10_init_1 : decode cX10_init 1 = .ok (.invokespecial 1, 3) := by decide +kernel
theorem dX10_init_4 : decode cX10_init 4 = .ok (.aload_n 0, 1) := by decide +kernel
theorem dX10_init_5 : decode cX10_init 5 = .ok (.new 7, 3) := by decide +kernel
theorem dX10_init_8 : decode cX10_init 8 = .ok (.dup, 1) := by decide +kernel
theorem dX10_init_9 : decode cX10_init 9 = .ok (.invokespecial 9, 3) := by decide +kernel
theorem dX10_init_12 : decode cX10_init 12 = .ok (.putfield 10, 3) := by decide +kernel
theorem dX10_init_15 : decode cX10_init 15 = .ok (.aload_n 0, 1) := by decide +kernel
theorem dX10_init_16 : decode cX10_init 16 = .ok (.new 7, 3) := by decide +kernel
theorem dX10_init_19 : decode cX10_init 19 = .ok (.dup, 1) := by decide +kernel
theorem dX10_init_20 : decode cX10_init 20 = .ok (.invokespecial 9, 3) := by decide +kernel
theorem dX10_init_23 : decode cX10_init 23 = .ok (.putfield 16, 3) := by decide +kernel
theorem dX10_init_26 : decode cX10_init 26 = .ok (.aload_n 0, 1) := by decide +kernel
theorem dX10_init_27 : decode cX10_init 27 = .ok (.new 19, 3) := by decide +kernel
theorem dX10_init_30 : decode cX10_init 30 = .ok (.dup, 1) := by decide +kernel
theorem dX10_init_31 : decode cX10_init 31 = .ok (.invokespecial 21, 3) := by decide +kernel
theorem dX10_init_34 : decode cX10_init 34 = .ok (.putfield 22, 3) := by decide +kernel
theorem dX10_init_37 : decode cX10_init 37 = .ok (.aload_n 0, 1) := by decide +kernel
theorem dX10_init_38 : decode cX10_init 38 = .ok (.new 19, 3) := by decide +kernel
theorem dX10_init_41 : decode cX10_init 41 = .ok (.dup, 1) := by decide +kernel
theorem dX10_init_42 : decode cX10_init 42 = .ok (.invokespecial 21, 3) := by decide +kernel
theorem dX10_init_45 : decode cX10_init 45 = .ok (.putfield 26, 3) := by decide +kernel
theorem dX10_init_48 : decode cX10_init 48 = .ok (.aload_n 0, 1) := by decide +kernel
theorem dX10_init_49 : decode cX10_init 49 = .ok (.iconst 4, 1) := by decide +kernel
theorem dX10_init_50 : decode cX10_init 50 = .ok (.anewarray 29, 3) := by decide +kernel
theorem dX10_init_53 : decode cX10_init 53 = .ok (.dup, 1) := by decide +kernel
theorem dX10_init_54 : decode cX10_init 54 = .ok (.iconst 0, 1) := by decide +kernel
theorem dX10_init_55 : decode cX10_init 55 = .ok (.new 29, 3) := by decide +kernel
theorem dX10_init_58 : decode cX10_init 58 = .ok (.dup, 1) := by decide +kernel
theorem dX10_init_59 : decode cX10_init 59 = .ok (.invokespecial 31, 3) := by decide +kernel
theorem dX10_init_62 : decode cX10_init 62 = .ok (.aastore, 1) := by decide +kernel
theorem dX10_init_63 : decode cX10_init 63 = .ok (.dup, 1) := by decide +kernel
theorem dX10_init_64 : decode cX10_init 64 = .ok (.iconst 1, 1) := by decide +kernel
theorem dX10_init_65 : decode cX10_init 65 = .ok (.new 29, 3) := by decide +kernel
theorem dX10_init_68 : decode cX10_init 68 = .ok (.dup, 1) := by decide +kernel
theorem dX10_init_69 : decode cX10_init 69 = .ok (.invokespecial 31, 3) := by decide +kernel
theorem dX10_init_72 : decode cX10_init 72 = .ok (.aastore, 1) := by decide +kernel
theorem dX10_init_73 : decode cX10_init 73 = .ok (.dup, 1) := by decide +kernel
theorem dX10_init_74 : decode cX10_init 74 = .ok (.iconst 2, 1) := by decide +kernel
theorem dX10_init_75 : decode cX10_init 75 = .ok (.new 29, 3) := by decide +kernel
theorem dX10_init_78 : decode cX10_init 78 = .ok (.dup, 1) := by decide +kernel
theorem dX10_init_79 : decode cX10_init 79 = .ok (.invokespecial 31, 3) := by decide +kernel
theorem dX10_init_82 : decode cX10_init 82 = .ok (.aastore, 1) := by decide +kernel
theorem dX10_init_83 : decode cX10_init 83 = .ok (.dup, 1) := by decide +kernel
theorem dX10_init_84 : decode cX10_init 84 = .ok (.iconst 3, 1) := by decide +kernel
theorem dX10_init_85 : decode cX10_init 85 = .ok (.new 29, 3) := by decide +kernel
theorem dX10_init_88 : decode cX10_init 88 = .ok (.dup, 1) := by decide +kernel
theorem dX10_init_89 : decode cX10_init 89 = .ok (.invokespecial 31, 3) := by decide +kernel
theorem dX10_init_92 : decode cX10_init 92 = .ok (.aastore, 1) := by decide +kernel
theorem dX10_init_93 : decode cX10_init 93 = .ok (.putfield 32, 3) := by decide +kernel
theorem dX10_init_96 : decode cX10_init 96 = .ok (.aload_n 0, 1) := by decide +kernel
theorem dX10_init_97 : decode cX10_init 97 = .ok (.new 36, 3) := by decide +kernel
theorem dX10_init_100 : decode cX10_init 100 = .ok (.dup, 1) := by decide +kernel
theorem dX10_init_101 : decode cX10_init 101 = .ok (.invokespecial 38, 3) := by decide +kernel
theorem dX10_init_104 : decode cX10_init 104 = .ok (.putfield 39, 3) := by decide +kernel
theorem dX10_init_107 : decode cX10_init 107 = .ok (.aload_n 0, 1) := by decide +kernel
theorem dX10_init_108 : decode cX10_init 108 = .ok (.new 43, 3) := by decide +kernel
theorem dX10_init_111 : decode cX10_init 111 = .ok (.dup, 1) := by decide +kernel
theorem dX10_init_112 : decode cX10_init 112 = .ok (.invokespecial 45, 3) := by decide +kernel
theorem dX10_init_115 : decode cX10_init 115 = .ok (.putfield 46, 3) := by decide +kernel
theorem dX10_init_118 : decode cX10_init 118 = .ok (.aload_n 0, 1) := by decide +kernel
theorem dX10_init_119 : decode cX10_init 119 = .ok (.new 50, 3) := by decide +kernel
theorem dX10_init_122 : decode cX10_init 122 = .ok (.dup, 1) := by decide +kernel
theorem dX10_init_123 : decode cX10_init 123 = .ok (.invokespecial 52, 3) := by decide +kernel
theorem dX10_init_126 : decode cX10_init 126 = .ok (.putfield 53, 3) := by decide +kernel
theorem dX10_init_129 : decode cX10_init 129 = .ok (.aload_n 0, 1) := by decide +kernel
theorem dX10_init_130 : decode cX10_init 130 = .ok (.new 57, 3) := by decide +kernel
theorem dX10_init_133 : decode cX10_init 133 = .ok (.dup, 1) := by decide +kernel
theorem dX10_init_134 : decode cX10_init 134 = .ok (.invokespecial 59, 3) := by decide +kernel
theorem dX10_init_137 : decode cX10_init 137 = .ok (.putfield 60, 3) := by decide +kernel
theorem dX10_init_140 : decode cX10_init 140 = .ok (.aload_n 0, 1) := by decide +kernel
theorem dX10_init_141 : decode cX10_init 141 = .ok (.iconst 3, 1) := by decide +kernel
theorem dX10_init_142 : decode cX10_init 142 = .ok (.putfield 64, 3) := by decide +kernel
theorem dX10_init_145 : decode cX10_init 145 = .ok (.aload_n 0, 1) := by decide +kernel
theorem dX10_init_146 : decode cX10_init 146 = .ok (.bipush 10, 2) := by decide +kernel
theorem dX10_init_148 : decode cX10_init 148 = .ok (.putfield 68, 3) := by decide +kernel
theorem dX10_init_151 : decode cX10_init 151 = .ok (.return_, 1) := by decide +kernel
theorem dX10_type_0 : decode cX10_type 0 = .ok (.aload_n 0, 1) := by decide +kernel
theorem dX10_type_1 : decode cX10_type 1 = .ok (.iload_n 1, 1) := by decide +kernel
theorem dX10_type_2 : decode cX10_type 2 = .ok (.invokevirtual 71, 3) := by decide +kernel
theorem dX10_type_5 : decode cX10_type 5 = .ok (.astore_n 3, 1) := by decide +kernel
theorem dX10_type_6 : decode cX10_type 6 = .ok (.aload_n 3, 1) := by decide +kernel
theorem dX10_type_7 : decode cX10_type 7 = .ok (.ifnull 14, 3) := by decide +kernel
theorem dX10_type_10 : decode cX10_type 10 = .ok (.iload_n 2, 1) := by decide +kernel
theorem dX10_type_11 : decode cX10_type 11 = .ok (.iconst 0, 1) := by decide +kernel
theorem dX10_type_12 : decode cX10_type 12 = .ok (.sipush 255, 3) := by decide +kernel
theorem dX10_type_15 : decode cX10_type 15 = .ok (.invokestatic 75, 3) := by decide +kernel
theorem dX10_type_18 : decode cX10_type 18 = .ok (.ifCond .ne 6, 3) := by decide +kernel
theorem dX10_type_21 : decode cX10_type 21 = .ok (.bipush (-2), 2) := by decide +kernel
theorem dX10_type_23 : decode cX10_type 23 = .ok (.ireturn, 1) := by decide +kernel
theorem dX10_type_24 : decode cX10_type 24 = .ok (.aload_n 3, 1) := by decide +kernel
theorem dX10_type_25 : decode cX10_type 25 = .ok (.iload_n 2, 1) := by decide +kernel
theorem dX10_type_26 : decode cX10_type 26 = .ok (.invokevirtual 79, 3) := by decide +kernel
theorem dX10_type_29 : decode cX10_type 29 = .ok (.ireturn, 1) := by decide +kernel
theorem dX10_wipe_0 : decode cX10_wipe 0 = .ok (.aload_n 0, 1) := by decide +kernel
theorem dX10_wipe_1 : decode cX10_wipe 1 = .ok (.iload_n 1, 1) := by decide +kernel
theorem dX10_wipe_2 : decode cX10_wipe 2 = .ok (.invokevirtual 71, 3) := by decide +kernel
theorem dX10_wipe_5 : decode cX10_wipe 5 = .ok (.astore_n 2, 1) := by decide +kernel
theorem dX10_wipe_6 : decode cX10_wipe 6 = .ok (.aload_n 2, 1) := by decide +kernel
theorem dX10_wipe_7 : decode cX10_wipe 7 = .ok (.ifnonnull 8, 3) := by decide +kernel
theorem dX10_wipe_10 : decode cX10_wipe 10 = .ok (.bipush (-2), 2) := by decide +kernel
theorem dX10_wipe_12 : decode cX10_wipe 12 = .ok (.goto 7, 3) := by decide +kernel
theorem dX10_wipe_15 : decode cX10_wipe 15 = .ok (.aload_n 2, 1) := by decide +kernel
theorem dX10_wipe_16 : decode cX10_wipe 16 = .ok (.invokevirtual 83, 3) := by decide +kernel
theorem dX10_wipe_19 : decode cX10_wipe 19 = .ok (.ireturn, 1) := by decide +kernel
theorem dX10_fault_0 : decode cX10_fault 0 = .ok (.aload_n 0, 1) := by decide +kernel
theorem dX10_fault_1 : decode cX10_fault 1 = .ok (.iload_n 1, 1) := by decide +kernel
theorem dX10_fault_2 : decode cX10_fault 2 = .ok (.invokevirtual 71, 3) := by decide +kernel
theorem dX10_fault_5 : decode cX10_fault 5 = .ok (.astore_n 2, 1) := by decide +kernel
theorem dX10_fault_6 : decode cX10_fault 6 = .ok (.aload_n 2, 1) := by decide +kernel
theorem dX10_fault_7 : decode cX10_fault 7 = .ok (.ifnonnull 8, 3) := by decide +kernel
theorem dX10_fault_10 : decode cX10_fault 10 = .ok (.bipush (-2), 2) := by decide +kernel
theorem dX10_fault_12 : decode cX10_fault 12 = .ok (.goto 7, 3) := by decide +kernel
theorem dX10_fault_15 : decode cX10_fault 15 = .ok (.aload_n 2, 1) := by decide +kernel
theorem dX10_fault_16 : decode cX10_fault 16 = .ok (.getfield 87, 3) := by decide +kernel
theorem dX10_fault_19 : decode cX10_fault 19 = .ok (.ireturn, 1) := by decide +kernel
theorem dX10_place_0 : decode cX10_place 0 = .ok (.aload_n 0, 1) := by decide +kernel
theorem dX10_place_1 : decode cX10_place 1 = .ok (.iload_n 1, 1) := by decide +kernel
theorem dX10_place_2 : decode cX10_place 2 = .ok (.invokevirtual 71, 3) := by decide +kernel
theorem dX10_place_5 : decode cX10_place 5 = .ok (.astore 4, 2) := by decide +kernel
theorem dX10_place_7 : decode cX10_place 7 = .ok (.aload 4, 2) := by decide +kernel
theorem dX10_place_9 : decode cX10_place 9 = .ok (.ifnull 21, 3) := by decide +kernel
theorem dX10_place_12 : decode cX10_place 12 = .ok (.aload 4, 2) := by decide +kernel
theorem dX10_place_14 : decode cX10_place 14 = .ok (.iload_n 2, 1) := by decide +kernel
theorem dX10_place_15 : decode cX10_place 15 = .ok (.invokevirtual 90, 3) := by decide +kernel
theorem dX10_place_18 : decode cX10_place 18 = .ok (.ifCond .eq 12, 3) := by decide +kernel
theorem dX10_place_21 : decode cX10_place 21 = .ok (.iload_n 3, 1) := by decide +kernel
theorem dX10_place_22 : decode cX10_place 22 = .ok (.iconst 0, 1) := by decide +kernel
theorem dX10_place_23 : decode cX10_place 23 = .ok (.iconst 3, 1) := by decide +kernel
theorem dX10_place_24 : decode cX10_place 24 = .ok (.invokestatic 75, 3) := by decide +kernel
theorem dX10_place_27 : decode cX10_place 27 = .ok (.ifCond .ne 6, 3) := by decide +kernel
theorem dX10_place_30 : decode cX10_place 30 = .ok (.bipush (-2), 2) := by decide +kernel
theorem dX10_place_32 : decode cX10_place 32 = .ok (.ireturn, 1) := by decide +kernel
theorem dX10_place_33 : decode cX10_place 33 = .ok (.aload 4, 2) := by decide +kernel
theorem dX10_place_35 : decode cX10_place 35 = .ok (.iload_n 2, 1) := by decide +kernel
theorem dX10_place_36 : decode cX10_place 36 = .ok (.iload_n 3, 1) := by decide +kernel
theorem dX10_place_37 : decode cX10_place 37 = .ok (.invokevirtual 94, 3) := by decide +kernel
theorem dX10_place_40 : decode cX10_place 40 = .ok (.ireturn, 1) := by decide +kernel
theorem dX10_step_0 : decode cX10_step 0 = .ok (.aload_n 0, 1) := by decide +kernel
theorem dX10_step_1 : decode cX10_step 1 = .ok (.iload_n 1, 1) := by decide +kernel
theorem dX10_step_2 : decode cX10_step 2 = .ok (.invokevirtual 71, 3) := by decide +kernel
theorem dX10_step_5 : decode cX10_step 5 = .ok (.astore 4, 2) := by decide +kernel
theorem dX10_step_7 : decode cX10_step 7 = .ok (.aload 4, 2) := by decide +kernel
theorem dX10_step_9 : decode cX10_step 9 = .ok (.ifnull 21, 3) := by decide +kernel
theorem dX10_step_12 : decode cX10_step 12 = .ok (.aload 4, 2) := by decide +kernel
theorem dX10_step_14 : decode cX10_step 14 = .ok (.iload_n 2, 1) := by decide +kernel
theorem dX10_step_15 : decode cX10_step 15 = .ok (.invokevirtual 90, 3) := by decide +kernel
theorem dX10_step_18 : decode cX10_step 18 = .ok (.ifCond .eq 12, 3) := by decide +kernel
theorem dX10_step_21 : decode cX10_step 21 = .ok (.aload 4, 2) := by decide +kernel
theorem dX10_step_23 : decode cX10_step 23 = .ok (.iload_n 3, 1) := by decide +kernel
theorem dX10_step_24 : decode cX10_step 24 = .ok (.invokevirtual 90, 3) := by decide +kernel
theorem dX10_step_27 : decode cX10_step 27 = .ok (.ifCond .ne 6, 3) := by decide +kernel
theorem dX10_step_30 : decode cX10_step 30 = .ok (.bipush (-2), 2) := by decide +kernel
theorem dX10_step_32 : decode cX10_step 32 = .ok (.ireturn, 1) := by decide +kernel
theorem dX10_step_33 : decode cX10_step 33 = .ok (.aload 4, 2) := by decide +kernel
theorem dX10_step_35 : decode cX10_step 35 = .ok (.iload_n 2, 1) := by decide +kernel
theorem dX10_step_36 : decode cX10_step 36 = .ok (.iload_n 3, 1) := by decide +kernel
theorem dX10_step_37 : decode cX10_step 37 = .ok (.aload_n 0, 1) := by decide +kernel
theorem dX10_step_38 : decode cX10_step 38 = .ok (.getfield 64, 3) := by decide +kernel
theorem dX10_step_41 : decode cX10_step 41 = .ok (.invokevirtual 98, 3) := by decide +kernel
theorem dX10_step_44 : decode cX10_step 44 = .ok (.ireturn, 1) := by decide +kernel
theorem dX10_whole_0 : decode cX10_whole 0 = .ok (.aload_n 0, 1) := by decide +kernel
theorem dX10_whole_1 : decode cX10_whole 1 = .ok (.iload_n 1, 1) := by decide +kernel
theorem dX10_whole_2 : decode cX10_whole 2 = .ok (.invokevirtual 71, 3) := by decide +kernel
theorem dX10_whole_5 : decode cX10_whole 5 = .ok (.astore_n 2, 1) := by decide +kernel
theorem dX10_whole_6 : decode cX10_whole 6 = .ok (.aload_n 2, 1) := by decide +kernel
theorem dX10_whole_7 : decode cX10_whole 7 = .ok (.ifnonnull 8, 3) := by decide +kernel
theorem dX10_whole_10 : decode cX10_whole 10 = .ok (.bipush (-2), 2) := by decide +kernel
theorem dX10_whole_12 : decode cX10_whole 12 = .ok (.goto 11, 3) := by decide +kernel
theorem dX10_whole_15 : decode cX10_whole 15 = .ok (.aload_n 2, 1) := by decide +kernel
theorem dX10_whole_16 : decode cX10_whole 16 = .ok (.aload_n 0, 1) := by decide +kernel
theorem dX10_whole_17 : decode cX10_whole 17 = .ok (.getfield 64, 3) := by decide +kernel
theorem dX10_whole_20 : decode cX10_whole 20 = .ok (.invokevirtual 102, 3) := by decide +kernel
theorem dX10_whole_23 : decode cX10_whole 23 = .ok (.ireturn, 1) := by decide +kernel
theorem dX10_set_0 : decode cX10_set 0 = .ok (.iload_n 1, 1) := by decide +kernel
theorem dX10_set_1 : decode cX10_set 1 = .ok (.ifCond .ne 26, 3) := by decide +kernel
theorem dX10_set_4 : decode cX10_set 4 = .ok (.iload_n 2, 1) := by decide +kernel
theorem dX10_set_5 : decode cX10_set 5 = .ok (.iconst 0, 1) := by decide +kernel
theorem dX10_set_6 : decode cX10_set 6 = .ok (.bipush 9, 2) := by decide +kernel
theorem dX10_set_8 : decode cX10_set 8 = .ok (.invokestatic 75, 3) := by decide +kernel
theorem dX10_set_11 : decode cX10_set 11 = .ok (.ifCond .eq 16, 3) := by decide +kernel
theorem dX10_set_14 : decode cX10_set 14 = .ok (.aload_n 0, 1) := by decide +kernel
theorem dX10_set_15 : decode cX10_set 15 = .ok (.getfield 64, 3) := by decide +kernel
theorem dX10_set_18 : decode cX10_set 18 = .ok (.istore_n 3, 1) := by decide +kernel
theorem dX10_set_19 : decode cX10_set 19 = .ok (.aload_n 0, 1) := by decide +kernel
theorem dX10_set_20 : decode cX10_set 20 = .ok (.iload_n 2, 1) := by decide +kernel
theorem dX10_set_21 : decode cX10_set 21 = .ok (.putfield 64, 3) := by decide +kernel
theorem dX10_set_24 : decode cX10_set 24 = .ok (.goto 34, 3) := by decide +kernel
theorem dX10_set_27 : decode cX10_set 27 = .ok (.iload_n 1, 1) := by decide +kernel
theorem dX10_set_28 : decode cX10_set 28 = .ok (.iconst 1, 1) := by decide +kernel
theorem dX10_set_29 : decode cX10_set 29 = .ok (.if_icmp .ne 26, 3) := by decide +kernel
theorem dX10_set_32 : decode cX10_set 32 = .ok (.iload_n 2, 1) := by decide +kernel
theorem dX10_set_33 : decode cX10_set 33 = .ok (.iconst 0, 1) := by decide +kernel
theorem dX10_set_34 : decode cX10_set 34 = .ok (.bipush 60, 2) := by decide +kernel
theorem dX10_set_36 : decode cX10_set 36 = .ok (.invokestatic 75, 3) := by decide +kernel
theorem dX10_set_39 : decode cX10_set 39 = .ok (.ifCond .eq 16, 3) := by decide +kernel
theorem dX10_set_42 : decode cX10_set 42 = .ok (.aload_n 0, 1) := by decide +kernel
theorem dX10_set_43 : decode cX10_set 43 = .ok (.getfield 68, 3) := by decide +kernel
theorem dX10_set_46 : decode cX10_set 46 = .ok (.istore_n 3, 1) := by decide +kernel
theorem dX10_set_47 : decode cX10_set 47 = .ok (.aload_n 0, 1) := by decide +kernel
theorem dX10_set_48 : decode cX10_set 48 = .ok (.iload_n 2, 1) := by decide +kernel
theorem dX10_set_49 : decode cX10_set 49 = .ok (.putfield 68, 3) := by decide +kernel
theorem dX10_set_52 : decode cX10_set 52 = .ok (.goto 6, 3) := by decide +kernel
theorem dX10_set_55 : decode cX10_set 55 = .ok (.bipush (-2), 2) := by decide +kernel
theorem dX10_set_57 : decode cX10_set 57 = .ok (.istore_n 3, 1) := by decide +kernel
theorem dX10_set_58 : decode cX10_set 58 = .ok (.iload_n 3, 1) := by decide +kernel
theorem dX10_set_59 : decode cX10_set 59 = .ok (.ireturn, 1) := by decide +kernel
theorem dX10_drum_0 : decode cX10_drum 0 = .ok (.iload_n 1, 1) := by decide +kernel
theorem dX10_drum_1 : decode cX10_drum 1 = .ok (.iload_n 2, 1) := by decide +kernel
theorem dX10_drum_2 : decode cX10_drum 2 = .ok (.invokestatic 105, 3) := by decide +kernel
theorem dX10_drum_5 : decode cX10_drum 5 = .ok (.ifCond .eq 12, 3) := by decide +kernel
theorem dX10_drum_8 : decode cX10_drum 8 = .ok (.iload_n 3, 1) := by decide +kernel
theorem dX10_drum_9 : decode cX10_drum 9 = .ok (.iconst 0, 1) := by decide +kernel
theorem dX10_drum_10 : decode cX10_drum 10 = .ok (.iconst 1, 1) := by decide +kernel
theorem dX10_drum_11 : decode cX10_drum 11 = .ok (.invokestatic 75, 3) := by decide +kernel
theorem dX10_drum_14 : decode cX10_drum 14 = .ok (.ifCond .ne 6, 3) := by decide +kernel
theorem dX10_drum_17 : decode cX10_drum 17 = .ok (.bipush (-2), 2) := by decide +kernel
theorem dX10_drum_19 : decode cX10_drum 19 = .ok (.ireturn, 1) := by decide +kernel
theorem dX10_drum_20 : decode cX10_drum 20 = .ok (.iload_n 3, 1) := by decide +kernel
theorem dX10_drum_21 : decode cX10_drum 21 = .ok (.ifCond .ne 11, 3) := by decide +kernel
theorem dX10_drum_24 : decode cX10_drum 24 = .ok (.iload_n 1, 1) := by decide +kernel
theorem dX10_drum_25 : decode cX10_drum 25 = .ok (.iload_n 2, 1) := by decide +kernel
theorem dX10_drum_26 : decode cX10_drum 26 = .ok (.invokestatic 111, 3) := by decide +kernel
theorem dX10_drum_29 : decode cX10_drum 29 = .ok (.goto 8, 3) := by decide +kernel
theorem dX10_drum_32 : decode cX10_drum 32 = .ok (.iload_n 1, 1) := by decide +kernel
theorem dX10_drum_33 : decode cX10_drum 33 = .ok (.iload_n 2, 1) := by decide +kernel
theorem dX10_drum_34 : decode cX10_drum 34 = .ok (.invokestatic 114, 3) := by decide +kernel
theorem dX10_drum_37 : decode cX10_drum 37 = .ok (.ireturn, 1) := by decide +kernel
theorem dX10_drift_0 : decode cX10_drift 0 = .ok (.iload_n 1, 1) := by decide +kernel
theorem dX10_drift_1 : decode cX10_drift 1 = .ok (.iload_n 2, 1) := by decide +kernel
theorem dX10_drift_2 : decode cX10_drift 2 = .ok (.invokestatic 105, 3) := by decide +kernel
theorem dX10_drift_5 : decode cX10_drift 5 = .ok (.ifCond .eq 12, 3) := by decide +kernel
theorem dX10_drift_8 : decode cX10_drift 8 = .ok (.iload_n 3, 1) := by decide +kernel
theorem dX10_drift_9 : decode cX10_drift 9 = .ok (.iconst 0, 1) := by decide +kernel
theorem dX10_drift_10 : decode cX10_drift 10 = .ok (.iconst 1, 1) := by decide +kernel
theorem dX10_drift_11 : decode cX10_drift 11 = .ok (.invokestatic 75, 3) := by decide +kernel
theorem dX10_drift_14 : decode cX10_drift 14 = .ok (.ifCond .ne 9, 3) := by decide +kernel
theorem dX10_drift_17 : decode cX10_drift 17 = .ok (.bipush (-2), 2) := by decide +kernel
theorem dX10_drift_19 : decode cX10_drift 19 = .ok (.invokestatic 117, 3) := by decide +kernel
theorem dX10_drift_22 : decode cX10_drift 22 = .ok (.lreturn, 1) := by decide +kernel
theorem dX10_drift_23 : decode cX10_drift 23 = .ok (.iload_n 1, 1) := by decide +kernel
theorem dX10_drift_24 : decode cX10_drift 24 = .ok (.iload_n 2, 1) := by decide +kernel
theorem dX10_drift_25 : decode cX10_drift 25 = .ok (.invokestatic 121, 3) := by decide +kernel
theorem dX10_drift_28 : decode cX10_drift 28 = .ok (.iload_n 1, 1) := by decide +kernel
theorem dX10_drift_29 : decode cX10_drift 29 = .ok (.iload_n 3, 1) := by decide +kernel
theorem dX10_drift_30 : decode cX10_drift 30 = .ok (.invokestatic 124, 3) := by decide +kernel
theorem dX10_drift_33 : decode cX10_drift 33 = .ok (.i2l, 1) := by decide +kernel
theorem dX10_drift_34 : decode cX10_drift 34 = .ok (.lreturn, 1) := by decide +kernel
theorem dX10_seen_0 : decode cX10_seen 0 = .ok (.aload_n 0, 1) := by decide +kernel
theorem dX10_seen_1 : decode cX10_seen 1 = .ok (.iload_n 1, 1) := by decide +kernel
theorem dX10_seen_2 : decode cX10_seen 2 = .ok (.invokevirtual 71, 3) := by decide +kernel
theorem dX10_seen_5 : decode cX10_seen 5 = .ok (.astore 4, 2) := by decide +kernel
theorem dX10_seen_7 : decode cX10_seen 7 = .ok (.aload 4, 2) := by decide +kernel
theorem dX10_seen_9 : decode cX10_seen 9 = .ok (.ifnull 24, 3) := by decide +kernel
theorem dX10_seen_12 : decode cX10_seen 12 = .ok (.iload_n 2, 1) := by decide +kernel
theorem dX10_seen_13 : decode cX10_seen 13 = .ok (.iconst 1, 1) := by decide +kernel
theorem dX10_seen_14 : decode cX10_seen 14 = .ok (.bipush 24, 2) := by decide +kernel
theorem dX10_seen_16 : decode cX10_seen 16 = .ok (.invokestatic 75, 3) := by decide +kernel
theorem dX10_seen_19 : decode cX10_seen 19 = .ok (.ifCond .eq 14, 3) := by decide +kernel
theorem dX10_seen_22 : decode cX10_seen 22 = .ok (.iload_n 3, 1) := by decide +kernel
theorem dX10_seen_23 : decode cX10_seen 23 = .ok (.iconst (-1), 1) := by decide +kernel
theorem dX10_seen_24 : decode cX10_seen 24 = .ok (.sipush 999, 3) := by decide +kernel
theorem dX10_seen_27 : decode cX10_seen 27 = .ok (.invokestatic 75, 3) := by decide +kernel
theorem dX10_seen_30 : decode cX10_seen 30 = .ok (.ifCond .ne 6, 3) := by decide +kernel
theorem dX10_seen_33 : decode cX10_seen 33 = .ok (.bipush (-2), 2) := by decide +kernel
theorem dX10_seen_35 : decode cX10_seen 35 = .ok (.ireturn, 1) := by decide +kernel
theorem dX10_seen_36 : decode cX10_seen 36 = .ok (.aload 4, 2) := by decide +kernel
theorem dX10_seen_38 : decode cX10_seen 38 = .ok (.getfield 129, 3) := by decide +kernel
theorem dX10_seen_41 : decode cX10_seen 41 = .ok (.ifCond .ne 6, 3) := by decide +kernel
theorem dX10_seen_44 : decode cX10_seen 44 = .ok (.bipush (-3), 2) := by decide +kernel
theorem dX10_seen_46 : decode cX10_seen 46 = .ok (.ireturn, 1) := by decide +kernel
theorem dX10_seen_47 : decode cX10_seen 47 = .ok (.iload_n 3, 1) := by decide +kernel
theorem dX10_seen_48 : decode cX10_seen 48 = .ok (.iconst (-1), 1) := by decide +kernel
theorem dX10_seen_49 : decode cX10_seen 49 = .ok (.if_icmp .ne 15, 3) := by decide +kernel
theorem dX10_seen_52 : decode cX10_seen 52 = .ok (.iload_n 2, 1) := by decide +kernel
theorem dX10_seen_53 : decode cX10_seen 53 = .ok (.aload 4, 2) := by decide +kernel
theorem dX10_seen_55 : decode cX10_seen 55 = .ok (.getfield 129, 3) := by decide +kernel
theorem dX10_seen_58 : decode cX10_seen 58 = .ok (.invokestatic 132, 3) := by decide +kernel
theorem dX10_seen_61 : decode cX10_seen 61 = .ok (.goto 13, 3) := by decide +kernel
theorem dX10_seen_64 : decode cX10_seen 64 = .ok (.iload_n 2, 1) := by decide +kernel
theorem dX10_seen_65 : decode cX10_seen 65 = .ok (.aload 4, 2) := by decide +kernel
theorem dX10_seen_67 : decode cX10_seen 67 = .ok (.getfield 129, 3) := by decide +kernel
theorem dX10_seen_70 : decode cX10_seen 70 = .ok (.iload_n 3, 1) := by decide +kernel
theorem dX10_seen_71 : decode cX10_seen 71 = .ok (.invokestatic 135, 3) := by decide +kernel
theorem dX10_seen_74 : decode cX10_seen 74 = .ok (.ireturn, 1) := by decide +kernel
theorem dX10_numbers_0 : decode cX10_numbers 0 = .ok (.iload_n 1, 1) := by decide +kernel
theorem dX10_numbers_1 : decode cX10_numbers 1 = .ok (.iconst 0, 1) := by decide +kernel
theorem dX10_numbers_2 : decode cX10_numbers 2 = .ok (.bipush 24, 2) := by decide +kernel
theorem dX10_numbers_4 : decode cX10_numbers 4 = .ok (.invokestatic 75, 3) := by decide +kernel
theorem dX10_numbers_7 : decode cX10_numbers 7 = .ok (.ifCond .eq 17, 3) := by decide +kernel
theorem dX10_numbers_10 : decode cX10_numbers 10 = .ok (.iload_n 2, 1) := by decide +kernel
theorem dX10_numbers_11 : decode cX10_numbers 11 = .ok (.iconst 0, 1) := by decide +kernel
theorem dX10_numbers_12 : decode cX10_numbers 12 = .ok (.iconst 3, 1) := by decide +kernel
theorem dX10_numbers_13 : decode cX10_numbers 13 = .ok (.invokestatic 75, 3) := by decide +kernel
theorem dX10_numbers_16 : decode cX10_numbers 16 = .ok (.ifCond .eq 8, 3) := by decide +kernel
theorem dX10_numbers_19 : decode cX10_numbers 19 = .ok (.iload_n 3, 1) := by decide +kernel
theorem dX10_numbers_20 : decode cX10_numbers 20 = .ok (.iconst (-1), 1) := by decide +kernel
theorem dX10_numbers_21 : decode cX10_numbers 21 = .ok (.if_icmp .ge 6, 3) := by decide +kernel
theorem dX10_numbers_24 : decode cX10_numbers 24 = .ok (.bipush (-2), 2) := by decide +kernel
theorem dX10_numbers_26 : decode cX10_numbers 26 = .ok (.ireturn, 1) := by decide +kernel
theorem dX10_numbers_27 : decode cX10_numbers 27 = .ok (.iload_n 1, 1) := by decide +kernel
theorem dX10_numbers_28 : decode cX10_numbers 28 = .ok (.iload_n 2, 1) := by decide +kernel
theorem dX10_numbers_29 : decode cX10_numbers 29 = .ok (.iload_n 3, 1) := by decide +kernel
theorem dX10_numbers_30 : decode cX10_numbers 30 = .ok (.invokestatic 138, 3) := by decide +kernel
theorem dX10_numbers_33 : decode cX10_numbers 33 = .ok (.ireturn, 1) := by decide +kernel
theorem dX10_wheel_0 : decode cX10_wheel 0 = .ok (.iload_n 1, 1) := by decide +kernel
theorem dX10_wheel_1 : decode cX10_wheel 1 = .ok (.iload_n 2, 1) := by decide +kernel
theorem dX10_wheel_2 : decode cX10_wheel 2 = .ok (.iload_n 3, 1) := by decide +kernel
theorem dX10_wheel_3 : decode cX10_wheel 3 = .ok (.invokestatic 141, 3) := by decide +kernel
theorem dX10_wheel_6 : decode cX10_wheel 6 = .ok (.ifCond .eq 13, 3) := by decide +kernel
theorem dX10_wheel_9 : decode cX10_wheel 9 = .ok (.iload 4, 2) := by decide +kernel
theorem dX10_wheel_11 : decode cX10_wheel 11 = .ok (.iconst 0, 1) := by decide +kernel
theorem dX10_wheel_12 : decode cX10_wheel 12 = .ok (.iconst 1, 1) := by decide +kernel
theorem dX10_wheel_13 : decode cX10_wheel 13 = .ok (.invokestatic 75, 3) := by decide +kernel
theorem dX10_wheel_16 : decode cX10_wheel 16 = .ok (.ifCond .ne 9, 3) := by decide +kernel
theorem dX10_wheel_19 : decode cX10_wheel 19 = .ok (.bipush (-2), 2) := by decide +kernel
theorem dX10_wheel_21 : decode cX10_wheel 21 = .ok (.invokestatic 117, 3) := by decide +kernel
theorem dX10_wheel_24 : decode cX10_wheel 24 = .ok (.lreturn, 1) := by decide +kernel
theorem dX10_wheel_25 : decode cX10_wheel 25 = .ok (.iload_n 1, 1) := by decide +kernel
theorem dX10_wheel_26 : decode cX10_wheel 26 = .ok (.iload_n 2, 1) := by decide +kernel
theorem dX10_wheel_27 : decode cX10_wheel 27 = .ok (.iload_n 3, 1) := by decide +kernel
theorem dX10_wheel_28 : decode cX10_wheel 28 = .ok (.invokestatic 145, 3) := by decide +kernel
theorem dX10_wheel_31 : decode cX10_wheel 31 = .ok (.iload_n 3, 1) := by decide +kernel
theorem dX10_wheel_32 : decode cX10_wheel 32 = .ok (.invokestatic 148, 3) := by decide +kernel
theorem dX10_wheel_35 : decode cX10_wheel 35 = .ok (.iload 4, 2) := by decide +kernel
theorem dX10_wheel_37 : decode cX10_wheel 37 = .ok (.invokestatic 124, 3) := by decide +kernel
theorem dX10_wheel_40 : decode cX10_wheel 40 = .ok (.i2l, 1) := by decide +kernel
theorem dX10_wheel_41 : decode cX10_wheel 41 = .ok (.lreturn, 1) := by decide +kernel
theorem dX10_fits_0 : decode cX10_fits 0 = .ok (.iload_n 1, 1) := by decide +kernel
theorem dX10_fits_1 : decode cX10_fits 1 = .ok (.iload_n 2, 1) := by decide +kernel
theorem dX10_fits_2 : decode cX10_fits 2 = .ok (.iload_n 3, 1) := by decide +kernel
theorem dX10_fits_3 : decode cX10_fits 3 = .ok (.invokestatic 141, 3) := by decide +kernel
theorem dX10_fits_6 : decode cX10_fits 6 = .ok (.ifCond .eq 17, 3) := by decide +kernel
theorem dX10_fits_9 : decode cX10_fits 9 = .ok (.iload 4, 2) := by decide +kernel
theorem dX10_fits_11 : decode cX10_fits 11 = .ok (.invokestatic 151, 3) := by decide +kernel
theorem dX10_fits_14 : decode cX10_fits 14 = .ok (.ifCond .eq 9, 3) := by decide +kernel
theorem dX10_fits_17 : decode cX10_fits 17 = .ok (.iload 5, 2) := by decide +kernel
theorem dX10_fits_19 : decode cX10_fits 19 = .ok (.iconst (-1), 1) := by decide +kernel
theorem dX10_fits_20 : decode cX10_fits 20 = .ok (.if_icmp .ge 6, 3) := by decide +kernel
theorem dX10_fits_23 : decode cX10_fits 23 = .ok (.bipush (-2), 2) := by decide +kernel
theorem dX10_fits_25 : decode cX10_fits 25 = .ok (.ireturn, 1) := by decide +kernel
theorem dX10_fits_26 : decode cX10_fits 26 = .ok (.iload 5, 2) := by decide +kernel
theorem dX10_fits_28 : decode cX10_fits 28 = .ok (.iconst (-1), 1) := by decide +kernel
theorem dX10_fits_29 : decode cX10_fits 29 = .ok (.if_icmp .ne 15, 3) := by decide +kernel
theorem dX10_fits_32 : decode cX10_fits 32 = .ok (.iload_n 1, 1) := by decide +kernel
theorem dX10_fits_33 : decode cX10_fits 33 = .ok (.iload_n 2, 1) := by decide +kernel
theorem dX10_fits_34 : decode cX10_fits 34 = .ok (.iload_n 3, 1) := by decide +kernel
theorem dX10_fits_35 : decode cX10_fits 35 = .ok (.iload 4, 2) := by decide +kernel
theorem dX10_fits_37 : decode cX10_fits 37 = .ok (.sipush 999, 3) := by decide +kernel
theorem dX10_fits_40 : decode cX10_fits 40 = .ok (.invokestatic 154, 3) := by decide +kernel
theorem dX10_fits_43 : decode cX10_fits 43 = .ok (.ireturn, 1) := by decide +kernel
theorem dX10_fits_44 : decode cX10_fits 44 = .ok (.iload_n 1, 1) := by decide +kernel
theorem dX10_fits_45 : decode cX10_fits 45 = .ok (.iload_n 2, 1) := by decide +kernel
theorem dX10_fits_46 : decode cX10_fits 46 = .ok (.iload_n 3, 1) := by decide +kernel
theorem dX10_fits_47 : decode cX10_fits 47 = .ok (.iload 4, 2) := by decide +kernel
theorem dX10_fits_49 : decode cX10_fits 49 = .ok (.iload 5, 2) := by decide +kernel
theorem dX10_fits_51 : decode cX10_fits 51 = .ok (.invokestatic 158, 3) := by decide +kernel
theorem dX10_fits_54 : decode cX10_fits 54 = .ok (.ireturn, 1) := by decide +kernel
theorem dX10_upTo_0 : decode cX10_upTo 0 = .ok (.iload_n 1, 1) := by decide +kernel
theorem dX10_upTo_1 : decode cX10_upTo 1 = .ok (.iload_n 2, 1) := by decide +kernel
theorem dX10_upTo_2 : decode cX10_upTo 2 = .ok (.iload_n 3, 1) := by decide +kernel
theorem dX10_upTo_3 : decode cX10_upTo 3 = .ok (.invokestatic 141, 3) := by decide +kernel
theorem dX10_upTo_6 : decode cX10_upTo 6 = .ok (.ifCond .eq 23, 3) := by decide +kernel
theorem dX10_upTo_9 : decode cX10_upTo 9 = .ok (.iload 4, 2) := by decide +kernel
theorem dX10_upTo_11 : decode cX10_upTo 11 = .ok (.invokestatic 151, 3) := by decide +kernel
theorem dX10_upTo_14 : decode cX10_upTo 14 = .ok (.ifCond .eq 15, 3) := by decide +kernel
theorem dX10_upTo_17 : decode cX10_upTo 17 = .ok (.iload 5, 2) := by decide +kernel
theorem dX10_upTo_19 : decode cX10_upTo 19 = .ok (.iconst 0, 1) := by decide +kernel
theorem dX10_upTo_20 : decode cX10_upTo 20 = .ok (.sipush 999, 3) := by decide +kernel
theorem dX10_upTo_23 : decode cX10_upTo 23 = .ok (.invokestatic 75, 3) := by decide +kernel
theorem dX10_upTo_26 : decode cX10_upTo 26 = .ok (.ifCond .ne 6, 3) := by decide +kernel
theorem dX10_upTo_29 : decode cX10_upTo 29 = .ok (.bipush (-2), 2) := by decide +kernel
theorem dX10_upTo_31 : decode cX10_upTo 31 = .ok (.ireturn, 1) := by decide +kernel
theorem dX10_upTo_32 : decode cX10_upTo 32 = .ok (.iload_n 1, 1) := by decide +kernel
theorem dX10_upTo_33 : decode cX10_upTo 33 = .ok (.iload_n 2, 1) := by decide +kernel
theorem dX10_upTo_34 : decode cX10_upTo 34 = .ok (.iload_n 3, 1) := by decide +kernel
theorem dX10_upTo_35 : decode cX10_upTo 35 = .ok (.iload 4, 2) := by decide +kernel
theorem dX10_upTo_37 : decode cX10_upTo 37 = .ok (.iload 5, 2) := by decide +kernel
theorem dX10_upTo_39 : decode cX10_upTo 39 = .ok (.invokestatic 154, 3) := by decide +kernel
theorem dX10_upTo_42 : decode cX10_upTo 42 = .ok (.ireturn, 1) := by decide +kernel
theorem dX10_dot_0 : decode cX10_dot 0 = .ok (.aload_n 0, 1) := by decide +kernel
theorem dX10_dot_1 : decode cX10_dot 1 = .ok (.iload_n 1, 1) := by decide +kernel
theorem dX10_dot_2 : decode cX10_dot 2 = .ok (.invokevirtual 161, 3) := by decide +kernel
theorem dX10_dot_5 : decode cX10_dot 5 = .ok (.astore 4, 2) := by decide +kernel
theorem dX10_dot_7 : decode cX10_dot 7 = .ok (.aload 4, 2) := by decide +kernel
theorem dX10_dot_9 : decode cX10_dot 9 = .ok (.ifnonnull 8, 3) := by decide +kernel
theorem dX10_dot_12 : decode cX10_dot 12 = .ok (.bipush (-2), 2) := by decide +kernel
theorem dX10_dot_14 : decode cX10_dot 14 = .ok (.goto 10, 3) := by decide +kernel
theorem dX10_dot_17 : decode cX10_dot 17 = .ok (.aload 4, 2) := by decide +kernel
theorem dX10_dot_19 : decode cX10_dot 19 = .ok (.iload_n 2, 1) := by decide +kernel
theorem dX10_dot_20 : decode cX10_dot 20 = .ok (.iload_n 3, 1) := by decide +kernel
theorem dX10_dot_21 : decode cX10_dot 21 = .ok (.invokevirtual 165, 3) := by decide +kernel
theorem dX10_dot_24 : decode cX10_dot 24 = .ok (.ireturn, 1) := by decide +kernel
theorem dX10_read_0 : decode cX10_read 0 = .ok (.aload_n 0, 1) := by decide +kernel
theorem dX10_read_1 : decode cX10_read 1 = .ok (.iload_n 1, 1) := by decide +kernel
theorem dX10_read_2 : decode cX10_read 2 = .ok (.invokevirtual 168, 3) := by decide +kernel
theorem dX10_read_5 : decode cX10_read 5 = .ok (.astore_n 3, 1) := by decide +kernel
theorem dX10_read_6 : decode cX10_read 6 = .ok (.aload_n 0, 1) := by decide +kernel
theorem dX10_read_7 : decode cX10_read 7 = .ok (.iload_n 2, 1) := by decide +kernel
theorem dX10_read_8 : decode cX10_read 8 = .ok (.invokevirtual 161, 3) := by decide +kernel
theorem dX10_read_11 : decode cX10_read 11 = .ok (.astore 4, 2) := by decide +kernel
theorem dX10_read_13 : decode cX10_read 13 = .ok (.aload_n 3, 1) := by decide +kernel
theorem dX10_read_14 : decode cX10_read 14 = .ok (.ifnull 8, 3) := by decide +kernel
theorem dX10_read_17 : decode cX10_read 17 = .ok (.aload 4, 2) := by decide +kernel
theorem dX10_read_19 : decode cX10_read 19 = .ok (.ifnonnull 6, 3) := by decide +kernel
theorem dX10_read_22 : decode cX10_read 22 = .ok (.bipush (-2), 2) := by decide +kernel
theorem dX10_read_24 : decode cX10_read 24 = .ok (.ireturn, 1) := by decide +kernel
theorem dX10_read_25 : decode cX10_read 25 = .ok (.aload_n 3, 1) := by decide +kernel
theorem dX10_read_26 : decode cX10_read 26 = .ok (.getfield 172, 3) := by decide +kernel
theorem dX10_read_29 : decode cX10_read 29 = .ok (.ifCond .eq 9, 3) := by decide +kernel
theorem dX10_read_32 : decode cX10_read 32 = .ok (.aload_n 0, 1) := by decide +kernel
theorem dX10_read_33 : decode cX10_read 33 = .ok (.iconst 1, 1) := by decide +kernel
theorem dX10_read_34 : decode cX10_read 34 = .ok (.invokevirtual 176, 3) := by decide +kernel
theorem dX10_read_37 : decode cX10_read 37 = .ok (.ireturn, 1) := by decide +kernel
theorem dX10_read_38 : decode cX10_read 38 = .ok (.iconst 0, 1) := by decide +kernel
theorem dX10_read_39 : decode cX10_read 39 = .ok (.istore 5, 2) := by decide +kernel
theorem dX10_read_41 : decode cX10_read 41 = .ok (.iload 5, 2) := by decide +kernel
theorem dX10_read_43 : decode cX10_read 43 = .ok (.aload_n 3, 1) := by decide +kernel
theorem dX10_read_44 : decode cX10_read 44 = .ok (.getfield 179, 3) := by decide +kernel
theorem dX10_read_47 : decode cX10_read 47 = .ok (.if_icmp .ge 24, 3) := by decide +kernel
theorem dX10_read_50 : decode cX10_read 50 = .ok (.aload 4, 2) := by decide +kernel
theorem dX10_read_52 : decode cX10_read 52 = .ok (.aload_n 3, 1) := by decide +kernel
theorem dX10_read_53 : decode cX10_read 53 = .ok (.iload 5, 2) := by decide +kernel
theorem dX10_read_55 : decode cX10_read 55 = .ok (.invokevirtual 182, 3) := by decide +kernel
theorem dX10_read_58 : decode cX10_read 58 = .ok (.iconst 0, 1) := by decide +kernel
theorem dX10_read_59 : decode cX10_read 59 = .ok (.invokevirtual 165, 3) := by decide +kernel
theorem dX10_read_62 : decode cX10_read 62 = .ok (.ifCond .lt 9, 3) := by decide +kernel
theorem dX10_read_65 : decode cX10_read 65 = .ok (.iinc 5 1, 3) := by decide +kernel
theorem dX10_read_68 : decode cX10_read 68 = .ok (.goto (-27), 3) := by decide +kernel
theorem dX10_read_71 : decode cX10_read 71 = .ok (.iload 5, 2) := by decide +kernel
theorem dX10_read_73 : decode cX10_read 73 = .ok (.ireturn, 1) := by decide +kernel
theorem dX10_blink_0 : decode cX10_blink 0 = .ok (.aload_n 0, 1) := by decide +kernel
theorem dX10_blink_1 : decode cX10_blink 1 = .ok (.iload_n 1, 1) := by decide +kernel
theorem dX10_blink_2 : decode cX10_blink 2 = .ok (.invokevirtual 161, 3) := by decide +kernel
theorem dX10_blink_5 : decode cX10_blink 5 = .ok (.astore_n 2, 1) := by decide +kernel
theorem dX10_blink_6 : decode cX10_blink 6 = .ok (.aload_n 2, 1) := by decide +kernel
theorem dX10_blink_7 : decode cX10_blink 7 = .ok (.ifnonnull 8, 3) := by decide +kernel
theorem dX10_blink_10 : decode cX10_blink 10 = .ok (.bipush (-2), 2) := by decide +kernel
theorem dX10_blink_12 : decode cX10_blink 12 = .ok (.goto 7, 3) := by decide +kernel
theorem dX10_blink_15 : decode cX10_blink 15 = .ok (.aload_n 2, 1) := by decide +kernel
theorem dX10_blink_16 : decode cX10_blink 16 = .ok (.invokevirtual 185, 3) := by decide +kernel
theorem dX10_blink_19 : decode cX10_blink 19 = .ok (.ireturn, 1) := by decide +kernel
theorem dX10_join_0 : decode cX10_join 0 = .ok (.iload_n 1, 1) := by decide +kernel
theorem dX10_join_1 : decode cX10_join 1 = .ok (.iconst 0, 1) := by decide +kernel
theorem dX10_join_2 : decode cX10_join 2 = .ok (.iconst 2, 1) := by decide +kernel
theorem dX10_join_3 : decode cX10_join 3 = .ok (.invokestatic 75, 3) := by decide +kernel
theorem dX10_join_6 : decode cX10_join 6 = .ok (.ifCond .ne 6, 3) := by decide +kernel
theorem dX10_join_9 : decode cX10_join 9 = .ok (.bipush (-2), 2) := by decide +kernel
theorem dX10_join_11 : decode cX10_join 11 = .ok (.ireturn, 1) := by decide +kernel
theorem dX10_join_12 : decode cX10_join 12 = .ok (.aload_n 0, 1) := by decide +kernel
theorem dX10_join_13 : decode cX10_join 13 = .ok (.getfield 39, 3) := by decide +kernel
theorem dX10_join_16 : decode cX10_join 16 = .ok (.aload_n 0, 1) := by decide +kernel
theorem dX10_join_17 : decode cX10_join 17 = .ok (.getfield 22, 3) := by decide +kernel
theorem dX10_join_20 : decode cX10_join 20 = .ok (.aload_n 0, 1) := by decide +kernel
theorem dX10_join_21 : decode cX10_join 21 = .ok (.getfield 26, 3) := by decide +kernel
theorem dX10_join_24 : decode cX10_join 24 = .ok (.aload_n 0, 1) := by decide +kernel
theorem dX10_join_25 : decode cX10_join 25 = .ok (.getfield 68, 3) := by decide +kernel
theorem dX10_join_28 : decode cX10_join 28 = .ok (.invokevirtual 186, 3) := by decide +kernel
theorem dX10_join_31 : decode cX10_join 31 = .ok (.iload_n 1, 1) := by decide +kernel
theorem dX10_join_32 : decode cX10_join 32 = .ok (.ifCond .ne 13, 3) := by decide +kernel
theorem dX10_join_35 : decode cX10_join 35 = .ok (.aload_n 0, 1) := by decide +kernel
theorem dX10_join_36 : decode cX10_join 36 = .ok (.getfield 39, 3) := by decide +kernel
theorem dX10_join_39 : decode cX10_join 39 = .ok (.invokevirtual 190, 3) := by decide +kernel
theorem dX10_join_42 : decode cX10_join 42 = .ok (.goto 25, 3) := by decide +kernel
theorem dX10_join_45 : decode cX10_join 45 = .ok (.iload_n 1, 1) := by decide +kernel
theorem dX10_join_46 : decode cX10_join 46 = .ok (.iconst 1, 1) := by decide +kernel
theorem dX10_join_47 : decode cX10_join 47 = .ok (.if_icmp .ne 13, 3) := by decide +kernel
theorem dX10_join_50 : decode cX10_join 50 = .ok (.aload_n 0, 1) := by decide +kernel
theorem dX10_join_51 : decode cX10_join 51 = .ok (.getfield 39, 3) := by decide +kernel
theorem dX10_join_54 : decode cX10_join 54 = .ok (.invokevirtual 193, 3) := by decide +kernel
theorem dX10_join_57 : decode cX10_join 57 = .ok (.goto 10, 3) := by decide +kernel
theorem dX10_join_60 : decode cX10_join 60 = .ok (.aload_n 0, 1) := by decide +kernel
theorem dX10_join_61 : decode cX10_join 61 = .ok (.getfield 39, 3) := by decide +kernel
theorem dX10_join_64 : decode cX10_join 64 = .ok (.invokevirtual 196, 3) := by decide +kernel
theorem dX10_join_67 : decode cX10_join 67 = .ok (.ireturn, 1) := by decide +kernel
theorem dX10_net_0 : decode cX10_net 0 = .ok (.aload_n 0, 1) := by decide +kernel
theorem dX10_net_1 : decode cX10_net 1 = .ok (.getfield 39, 3) := by decide +kernel
theorem dX10_net_4 : decode cX10_net 4 = .ok (.aload_n 0, 1) := by decide +kernel
theorem dX10_net_5 : decode cX10_net 5 = .ok (.getfield 22, 3) := by decide +kernel
theorem dX10_net_8 : decode cX10_net 8 = .ok (.aload_n 0, 1) := by decide +kernel
theorem dX10_net_9 : decode cX10_net 9 = .ok (.getfield 26, 3) := by decide +kernel
theorem dX10_net_12 : decode cX10_net 12 = .ok (.aload_n 0, 1) := by decide +kernel
theorem dX10_net_13 : decode cX10_net 13 = .ok (.getfield 68, 3) := by decide +kernel
theorem dX10_net_16 : decode cX10_net 16 = .ok (.invokevirtual 186, 3) := by decide +kernel
theorem dX10_net_19 : decode cX10_net 19 = .ok (.aload_n 0, 1) := by decide +kernel
theorem dX10_net_20 : decode cX10_net 20 = .ok (.getfield 39, 3) := by decide +kernel
theorem dX10_net_23 : decode cX10_net 23 = .ok (.getfield 199, 3) := by decide +kernel
theorem dX10_net_26 : decode cX10_net 26 = .ok (.ireturn, 1) := by decide +kernel
theorem dX10_joined_0 : decode cX10_joined 0 = .ok (.aload_n 0, 1) := by decide +kernel
theorem dX10_joined_1 : decode cX10_joined 1 = .ok (.iload_n 1, 1) := by decide +kernel
theorem dX10_joined_2 : decode cX10_joined 2 = .ok (.invokevirtual 161, 3) := by decide +kernel
theorem dX10_joined_5 : decode cX10_joined 5 = .ok (.astore_n 3, 1) := by decide +kernel
theorem dX10_joined_6 : decode cX10_joined 6 = .ok (.aload_n 3, 1) := by decide +kernel
theorem dX10_joined_7 : decode cX10_joined 7 = .ok (.ifnull 17, 3) := by decide +kernel
theorem dX10_joined_10 : decode cX10_joined 10 = .ok (.iload_n 2, 1) := by decide +kernel
theorem dX10_joined_11 : decode cX10_joined 11 = .ok (.iconst 0, 1) := by decide +kernel
theorem dX10_joined_12 : decode cX10_joined 12 = .ok (.aload_n 3, 1) := by decide +kernel
theorem dX10_joined_13 : decode cX10_joined 13 = .ok (.getfield 202, 3) := by decide +kernel
theorem dX10_joined_16 : decode cX10_joined 16 = .ok (.iconst 1, 1) := by decide +kernel
theorem dX10_joined_17 : decode cX10_joined 17 = .ok (.isub, 1) := by decide +kernel
theorem dX10_joined_18 : decode cX10_joined 18 = .ok (.invokestatic 75, 3) := by decide +kernel
theorem dX10_joined_21 : decode cX10_joined 21 = .ok (.ifCond .ne 6, 3) := by decide +kernel
theorem dX10_joined_24 : decode cX10_joined 24 = .ok (.bipush (-2), 2) := by decide +kernel
theorem dX10_joined_26 : decode cX10_joined 26 = .ok (.ireturn, 1) := by decide +kernel
theorem dX10_joined_27 : decode cX10_joined 27 = .ok (.aload_n 0, 1) := by decide +kernel
theorem dX10_joined_28 : decode cX10_joined 28 = .ok (.getfield 39, 3) := by decide +kernel
theorem dX10_joined_31 : decode cX10_joined 31 = .ok (.aload_n 0, 1) := by decide +kernel
theorem dX10_joined_32 : decode cX10_joined 32 = .ok (.getfield 22, 3) := by decide +kernel
theorem dX10_joined_35 : decode cX10_joined 35 = .ok (.aload_n 0, 1) := by decide +kernel
theorem dX10_joined_36 : decode cX10_joined 36 = .ok (.getfield 26, 3) := by decide +kernel
theorem dX10_joined_39 : decode cX10_joined 39 = .ok (.aload_n 0, 1) := by decide +kernel
theorem dX10_joined_40 : decode cX10_joined 40 = .ok (.getfield 68, 3) := by decide +kernel
theorem dX10_joined_43 : decode cX10_joined 43 = .ok (.invokevirtual 186, 3) := by decide +kernel
theorem dX10_joined_46 : decode cX10_joined 46 = .ok (.aload_n 0, 1) := by decide +kernel
theorem dX10_joined_47 : decode cX10_joined 47 = .ok (.getfield 39, 3) := by decide +kernel
theorem dX10_joined_50 : decode cX10_joined 50 = .ok (.aload_n 3, 1) := by decide +kernel
theorem dX10_joined_51 : decode cX10_joined 51 = .ok (.iload_n 2, 1) := by decide +kernel
theorem dX10_joined_52 : decode cX10_joined 52 = .ok (.invokevirtual 205, 3) := by decide +kernel
theorem dX10_joined_55 : decode cX10_joined 55 = .ok (.ireturn, 1) := by decide +kernel
theorem dX10_narrow_0 : decode cX10_narrow 0 = .ok (.iload_n 1, 1) := by decide +kernel
theorem dX10_narrow_1 : decode cX10_narrow 1 = .ok (.iconst 1, 1) := by decide +kernel
theorem dX10_narrow_2 : decode cX10_narrow 2 = .ok (.bipush 99, 2) := by decide +kernel
theorem dX10_narrow_4 : decode cX10_narrow 4 = .ok (.invokestatic 75, 3) := by decide +kernel
theorem dX10_narrow_7 : decode cX10_narrow 7 = .ok (.ifCond .eq 21, 3) := by decide +kernel
theorem dX10_narrow_10 : decode cX10_narrow 10 = .ok (.iload_n 2, 1) := by decide +kernel
theorem dX10_narrow_11 : decode cX10_narrow 11 = .ok (.iload_n 3, 1) := by decide +kernel
theorem dX10_narrow_12 : decode cX10_narrow 12 = .ok (.invokestatic 209, 3) := by decide +kernel
theorem dX10_narrow_15 : decode cX10_narrow 15 = .ok (.ifCond .eq 13, 3) := by decide +kernel
theorem dX10_narrow_18 : decode cX10_narrow 18 = .ok (.iload 4, 2) := by decide +kernel
theorem dX10_narrow_20 : decode cX10_narrow 20 = .ok (.iconst 0, 1) := by decide +kernel
theorem dX10_narrow_21 : decode cX10_narrow 21 = .ok (.iconst 1, 1) := by decide +kernel
theorem dX10_narrow_22 : decode cX10_narrow 22 = .ok (.invokestatic 75, 3) := by decide +kernel
theorem dX10_narrow_25 : decode cX10_narrow 25 = .ok (.ifCond .ne 9, 3) := by decide +kernel
theorem dX10_narrow_28 : decode cX10_narrow 28 = .ok (.bipush (-2), 2) := by decide +kernel
theorem dX10_narrow_30 : decode cX10_narrow 30 = .ok (.invokestatic 117, 3) := by decide +kernel
theorem dX10_narrow_33 : decode cX10_narrow 33 = .ok (.lreturn, 1) := by decide +kernel
theorem dX10_narrow_34 : decode cX10_narrow 34 = .ok (.iload_n 1, 1) := by decide +kernel
theorem dX10_narrow_35 : decode cX10_narrow 35 = .ok (.iload_n 3, 1) := by decide +kernel
theorem dX10_narrow_36 : decode cX10_narrow 36 = .ok (.imul, 1) := by decide +kernel
theorem dX10_narrow_37 : decode cX10_narrow 37 = .ok (.iload_n 2, 1) := by decide +kernel
theorem dX10_narrow_38 : decode cX10_narrow 38 = .ok (.iload_n 3, 1) := by decide +kernel
theorem dX10_narrow_39 : decode cX10_narrow 39 = .ok (.iadd, 1) := by decide +kernel
theorem dX10_narrow_40 : decode cX10_narrow 40 = .ok (.iload 4, 2) := by decide +kernel
theorem dX10_narrow_42 : decode cX10_narrow 42 = .ok (.invokestatic 124, 3) := by decide +kernel
theorem dX10_narrow_45 : decode cX10_narrow 45 = .ok (.i2l, 1) := by decide +kernel
theorem dX10_narrow_46 : decode cX10_narrow 46 = .ok (.lreturn, 1) := by decide +kernel
theorem dX10_wide_0 : decode cX10_wide 0 = .ok (.iload_n 1, 1) := by decide +kernel
theorem dX10_wide_1 : decode cX10_wide 1 = .ok (.iconst 0, 1) := by decide +kernel
theorem dX10_wide_2 : decode cX10_wide 2 = .ok (.bipush 99, 2) := by decide +kernel
theorem dX10_wide_4 : decode cX10_wide 4 = .ok (.invokestatic 75, 3) := by decide +kernel
theorem dX10_wide_7 : decode cX10_wide 7 = .ok (.ifCond .eq 11, 3) := by decide +kernel
theorem dX10_wide_10 : decode cX10_wide 10 = .ok (.iload_n 2, 1) := by decide +kernel
theorem dX10_wide_11 : decode cX10_wide 11 = .ok (.iload_n 3, 1) := by decide +kernel
theorem dX10_wide_12 : decode cX10_wide 12 = .ok (.invokestatic 209, 3) := by decide +kernel
theorem dX10_wide_15 : decode cX10_wide 15 = .ok (.ifCond .ne 6, 3) := by decide +kernel
theorem dX10_wide_18 : decode cX10_wide 18 = .ok (.bipush (-2), 2) := by decide +kernel
theorem dX10_wide_20 : decode cX10_wide 20 = .ok (.ireturn, 1) := by decide +kernel
theorem dX10_wide_21 : decode cX10_wide 21 = .ok (.iconst 1, 1) := by decide +kernel
theorem dX10_wide_22 : decode cX10_wide 22 = .ok (.istore 4, 2) := by decide +kernel
theorem dX10_wide_24 : decode cX10_wide 24 = .ok (.iload 4, 2) := by decide +kernel
theorem dX10_wide_26 : decode cX10_wide 26 = .ok (.sipush 999, 3) := by decide +kernel
theorem dX10_wide_29 : decode cX10_wide 29 = .ok (.if_icmp .gt 24, 3) := by decide +kernel
theorem dX10_wide_32 : decode cX10_wide 32 = .ok (.iload 4, 2) := by decide +kernel
theorem dX10_wide_34 : decode cX10_wide 34 = .ok (.iload_n 3, 1) := by decide +kernel
theorem dX10_wide_35 : decode cX10_wide 35 = .ok (.imul, 1) := by decide +kernel
theorem dX10_wide_36 : decode cX10_wide 36 = .ok (.iload_n 1, 1) := by decide +kernel
theorem dX10_wide_37 : decode cX10_wide 37 = .ok (.iload_n 2, 1) := by decide +kernel
theorem dX10_wide_38 : decode cX10_wide 38 = .ok (.iload_n 3, 1) := by decide +kernel
theorem dX10_wide_39 : decode cX10_wide 39 = .ok (.iadd, 1) := by decide +kernel
theorem dX10_wide_40 : decode cX10_wide 40 = .ok (.imul, 1) := by decide +kernel
theorem dX10_wide_41 : decode cX10_wide 41 = .ok (.if_icmp .lt 6, 3) := by decide +kernel
theorem dX10_wide_44 : decode cX10_wide 44 = .ok (.iload 4, 2) := by decide +kernel
theorem dX10_wide_46 : decode cX10_wide 46 = .ok (.ireturn, 1) := by decide +kernel
theorem dX10_wide_47 : decode cX10_wide 47 = .ok (.iinc 4 1, 3) := by decide +kernel
theorem dX10_wide_50 : decode cX10_wide 50 = .ok (.goto (-26), 3) := by decide +kernel
theorem dX10_wide_53 : decode cX10_wide 53 = .ok (.iconst (-1), 1) := by decide +kernel
theorem dX10_wide_54 : decode cX10_wide 54 = .ok (.ireturn, 1) := by decide +kernel
theorem dX10_slit_0 : decode cX10_slit 0 = .ok (.iload_n 1, 1) := by decide +kernel
theorem dX10_slit_1 : decode cX10_slit 1 = .ok (.iconst 0, 1) := by decide +kernel
theorem dX10_slit_2 : decode cX10_slit 2 = .ok (.bipush 99, 2) := by decide +kernel
theorem dX10_slit_4 : decode cX10_slit 4 = .ok (.invokestatic 75, 3) := by decide +kernel
theorem dX10_slit_7 : decode cX10_slit 7 = .ok (.ifCond .eq 13, 3) := by decide +kernel
theorem dX10_slit_10 : decode cX10_slit 10 = .ok (.iload_n 2, 1) := by decide +kernel
theorem dX10_slit_11 : decode cX10_slit 11 = .ok (.iconst 0, 1) := by decide +kernel
theorem dX10_slit_12 : decode cX10_slit 12 = .ok (.bipush 99, 2) := by decide +kernel
theorem dX10_slit_14 : decode cX10_slit 14 = .ok (.invokestatic 75, 3) := by decide +kernel
theorem dX10_slit_17 : decode cX10_slit 17 = .ok (.ifCond .ne 6, 3) := by decide +kernel
theorem dX10_slit_20 : decode cX10_slit 20 = .ok (.bipush (-2), 2) := by decide +kernel
theorem dX10_slit_22 : decode cX10_slit 22 = .ok (.ireturn, 1) := by decide +kernel
theorem dX10_slit_23 : decode cX10_slit 23 = .ok (.iconst 1, 1) := by decide +kernel
theorem dX10_slit_24 : decode cX10_slit 24 = .ok (.istore_n 3, 1) := by decide +kernel
theorem dX10_slit_25 : decode cX10_slit 25 = .ok (.iconst 2, 1) := by decide +kernel
theorem dX10_slit_26 : decode cX10_slit 26 = .ok (.istore 4, 2) := by decide +kernel
theorem dX10_slit_28 : decode cX10_slit 28 = .ok (.iload 4, 2) := by decide +kernel
theorem dX10_slit_30 : decode cX10_slit 30 = .ok (.bipush 20, 2) := by decide +kernel
theorem dX10_slit_32 : decode cX10_slit 32 = .ok (.if_icmp .gt 28, 3) := by decide +kernel
theorem dX10_slit_35 : decode cX10_slit 35 = .ok (.iload_n 1, 1) := by decide +kernel
theorem dX10_slit_36 : decode cX10_slit 36 = .ok (.iload_n 2, 1) := by decide +kernel
theorem dX10_slit_37 : decode cX10_slit 37 = .ok (.iload 4, 2) := by decide +kernel
theorem dX10_slit_39 : decode cX10_slit 39 = .ok (.invokestatic 212, 3) := by decide +kernel
theorem dX10_slit_42 : decode cX10_slit 42 = .ok (.iload_n 1, 1) := by decide +kernel
theorem dX10_slit_43 : decode cX10_slit 43 = .ok (.iload_n 2, 1) := by decide +kernel
theorem dX10_slit_44 : decode cX10_slit 44 = .ok (.iload_n 3, 1) := by decide +kernel
theorem dX10_slit_45 : decode cX10_slit 45 = .ok (.invokestatic 212, 3) := by decide +kernel
theorem dX10_slit_48 : decode cX10_slit 48 = .ok (.if_icmp .le 6, 3) := by decide +kernel
theorem dX10_slit_51 : decode cX10_slit 51 = .ok (.iload 4, 2) := by decide +kernel
theorem dX10_slit_53 : decode cX10_slit 53 = .ok (.istore_n 3, 1) := by decide +kernel
theorem dX10_slit_54 : decode cX10_slit 54 = .ok (.iinc 4 1, 3) := by decide +kernel
theorem dX10_slit_57 : decode cX10_slit 57 = .ok (.goto (-29), 3) := by decide +kernel
theorem dX10_slit_60 : decode cX10_slit 60 = .ok (.iload_n 3, 1) := by decide +kernel
theorem dX10_slit_61 : decode cX10_slit 61 = .ok (.ireturn, 1) := by decide +kernel
theorem dX10_order_0 : decode cX10_order 0 = .ok (.aload_n 0, 1) := by decide +kernel
theorem dX10_order_1 : decode cX10_order 1 = .ok (.iload_n 1, 1) := by decide +kernel
theorem dX10_order_2 : decode cX10_order 2 = .ok (.invokevirtual 71, 3) := by decide +kernel
theorem dX10_order_5 : decode cX10_order 5 = .ok (.astore_n 3, 1) := by decide +kernel
theorem dX10_order_6 : decode cX10_order 6 = .ok (.aload_n 3, 1) := by decide +kernel
theorem dX10_order_7 : decode cX10_order 7 = .ok (.ifnull 8, 3) := by decide +kernel
theorem dX10_order_10 : decode cX10_order 10 = .ok (.iload_n 2, 1) := by decide +kernel
theorem dX10_order_11 : decode cX10_order 11 = .ok (.iconst (-1), 1) := by decide +kernel
theorem dX10_order_12 : decode cX10_order 12 = .ok (.if_icmp .ge 6, 3) := by decide +kernel
theorem dX10_order_15 : decode cX10_order 15 = .ok (.bipush (-2), 2) := by decide +kernel
theorem dX10_order_17 : decode cX10_order 17 = .ok (.ireturn, 1) := by decide +kernel
theorem dX10_order_18 : decode cX10_order 18 = .ok (.aload_n 3, 1) := by decide +kernel
theorem dX10_order_19 : decode cX10_order 19 = .ok (.invokestatic 215, 3) := by decide +kernel
theorem dX10_order_22 : decode cX10_order 22 = .ok (.istore 4, 2) := by decide +kernel
theorem dX10_order_24 : decode cX10_order 24 = .ok (.iload 4, 2) := by decide +kernel
theorem dX10_order_26 : decode cX10_order 26 = .ok (.ifCond .eq 6, 3) := by decide +kernel
theorem dX10_order_29 : decode cX10_order 29 = .ok (.iload 4, 2) := by decide +kernel
theorem dX10_order_31 : decode cX10_order 31 = .ok (.ireturn, 1) := by decide +kernel
theorem dX10_order_32 : decode cX10_order 32 = .ok (.iload_n 2, 1) := by decide +kernel
theorem dX10_order_33 : decode cX10_order 33 = .ok (.aload_n 3, 1) := by decide +kernel
theorem dX10_order_34 : decode cX10_order 34 = .ok (.getfield 129, 3) := by decide +kernel
theorem dX10_order_37 : decode cX10_order 37 = .ok (.if_icmp .lt 6, 3) := by decide +kernel
theorem dX10_order_40 : decode cX10_order 40 = .ok (.bipush (-2), 2) := by decide +kernel
theorem dX10_order_42 : decode cX10_order 42 = .ok (.ireturn, 1) := by decide +kernel
theorem dX10_order_43 : decode cX10_order 43 = .ok (.aload_n 0, 1) := by decide +kernel
theorem dX10_order_44 : decode cX10_order 44 = .ok (.getfield 46, 3) := by decide +kernel
theorem dX10_order_47 : decode cX10_order 47 = .ok (.aload_n 3, 1) := by decide +kernel
theorem dX10_order_48 : decode cX10_order 48 = .ok (.aload_n 0, 1) := by decide +kernel
theorem dX10_order_49 : decode cX10_order 49 = .ok (.getfield 64, 3) := by decide +kernel
theorem dX10_order_52 : decode cX10_order 52 = .ok (.invokevirtual 219, 3) := by decide +kernel
theorem dX10_order_55 : decode cX10_order 55 = .ok (.iload_n 2, 1) := by decide +kernel
theorem dX10_order_56 : decode cX10_order 56 = .ok (.iconst (-1), 1) := by decide +kernel
theorem dX10_order_57 : decode cX10_order 57 = .ok (.if_icmp .ne 13, 3) := by decide +kernel
theorem dX10_order_60 : decode cX10_order 60 = .ok (.aload_n 0, 1) := by decide +kernel
theorem dX10_order_61 : decode cX10_order 61 = .ok (.getfield 46, 3) := by decide +kernel
theorem dX10_order_64 : decode cX10_order 64 = .ok (.invokevirtual 222, 3) := by decide +kernel
theorem dX10_order_67 : decode cX10_order 67 = .ok (.goto 11, 3) := by decide +kernel
theorem dX10_order_70 : decode cX10_order 70 = .ok (.aload_n 0, 1) := by decide +kernel
theorem dX10_order_71 : decode cX10_order 71 = .ok (.getfield 46, 3) := by decide +kernel
theorem dX10_order_74 : decode cX10_order 74 = .ok (.iload_n 2, 1) := by decide +kernel
theorem dX10_order_75 : decode cX10_order 75 = .ok (.invokevirtual 223, 3) := by decide +kernel
theorem dX10_order_78 : decode cX10_order 78 = .ok (.ireturn, 1) := by decide +kernel
theorem dX10_orders_0 : decode cX10_orders 0 = .ok (.aload_n 0, 1) := by decide +kernel
theorem dX10_orders_1 : decode cX10_orders 1 = .ok (.iload_n 1, 1) := by decide +kernel
theorem dX10_orders_2 : decode cX10_orders 2 = .ok (.invokevirtual 71, 3) := by decide +kernel
theorem dX10_orders_5 : decode cX10_orders 5 = .ok (.astore_n 2, 1) := by decide +kernel
theorem dX10_orders_6 : decode cX10_orders 6 = .ok (.aload_n 2, 1) := by decide +kernel
theorem dX10_orders_7 : decode cX10_orders 7 = .ok (.ifnonnull 6, 3) := by decide +kernel
theorem dX10_orders_10 : decode cX10_orders 10 = .ok (.bipush (-2), 2) := by decide +kernel
theorem dX10_orders_12 : decode cX10_orders 12 = .ok (.ireturn, 1) := by decide +kernel
theorem dX10_orders_13 : decode cX10_orders 13 = .ok (.aload_n 2, 1) := by decide +kernel
theorem dX10_orders_14 : decode cX10_orders 14 = .ok (.invokestatic 215, 3) := by decide +kernel
theorem dX10_orders_17 : decode cX10_orders 17 = .ok (.istore_n 3, 1) := by decide +kernel
theorem dX10_orders_18 : decode cX10_orders 18 = .ok (.iload_n 3, 1) := by decide +kernel
theorem dX10_orders_19 : decode cX10_orders 19 = .ok (.ifCond .eq 5, 3) := by decide +kernel
theorem dX10_orders_22 : decode cX10_orders 22 = .ok (.iload_n 3, 1) := by decide +kernel
theorem dX10_orders_23 : decode cX10_orders 23 = .ok (.ireturn, 1) := by decide +kernel
theorem dX10_orders_24 : decode cX10_orders 24 = .ok (.aload_n 0, 1) := by decide +kernel
theorem dX10_orders_25 : decode cX10_orders 25 = .ok (.getfield 46, 3) := by decide +kernel
theorem dX10_orders_28 : decode cX10_orders 28 = .ok (.aload_n 2, 1) := by decide +kernel
theorem dX10_orders_29 : decode cX10_orders 29 = .ok (.aload_n 0, 1) := by decide +kernel
theorem dX10_orders_30 : decode cX10_orders 30 = .ok (.getfield 64, 3) := by decide +kernel
theorem dX10_orders_33 : decode cX10_orders 33 = .ok (.invokevirtual 219, 3) := by decide +kernel
theorem dX10_orders_36 : decode cX10_orders 36 = .ok (.aload_n 0, 1) := by decide +kernel
theorem dX10_orders_37 : decode cX10_orders 37 = .ok (.getfield 46, 3) := by decide +kernel
theorem dX10_orders_40 : decode cX10_orders 40 = .ok (.invokevirtual 225, 3) := by decide +kernel
theorem dX10_orders_43 : decode cX10_orders 43 = .ok (.ireturn, 1) := by decide +kernel
theorem dX10_missing_0 : decode cX10_missing 0 = .ok (.aload_n 0, 1) := by decide +kernel
theorem dX10_missing_1 : decode cX10_missing 1 = .ok (.iload_n 1, 1) := by decide +kernel
theorem dX10_missing_2 : decode cX10_missing 2 = .ok (.invokevirtual 71, 3) := by decide +kernel
theorem dX10_missing_5 : decode cX10_missing 5 = .ok (.astore_n 3, 1) := by decide +kernel
theorem dX10_missing_6 : decode cX10_missing 6 = .ok (.aload_n 3, 1) := by decide +kernel
theorem dX10_missing_7 : decode cX10_missing 7 = .ok (.ifnull 12, 3) := by decide +kernel
theorem dX10_missing_10 : decode cX10_missing 10 = .ok (.iload_n 2, 1) := by decide +kernel
theorem dX10_missing_11 : decode cX10_missing 11 = .ok (.iconst 0, 1) := by decide +kernel
theorem dX10_missing_12 : decode cX10_missing 12 = .ok (.iconst 1, 1) := by decide +kernel
theorem dX10_missing_13 : decode cX10_missing 13 = .ok (.invokestatic 75, 3) := by decide +kernel
theorem dX10_missing_16 : decode cX10_missing 16 = .ok (.ifCond .ne 6, 3) := by decide +kernel
theorem dX10_missing_19 : decode cX10_missing 19 = .ok (.bipush (-2), 2) := by decide +kernel
theorem dX10_missing_21 : decode cX10_missing 21 = .ok (.ireturn, 1) := by decide +kernel
theorem dX10_missing_22 : decode cX10_missing 22 = .ok (.aload_n 3, 1) := by decide +kernel
theorem dX10_missing_23 : decode cX10_missing 23 = .ok (.getfield 129, 3) := by decide +kernel
theorem dX10_missing_26 : decode cX10_missing 26 = .ok (.ifCond .ne 6, 3) := by decide +kernel
theorem dX10_missing_29 : decode cX10_missing 29 = .ok (.bipush (-3), 2) := by decide +kernel
theorem dX10_missing_31 : decode cX10_missing 31 = .ok (.ireturn, 1) := by decide +kernel
theorem dX10_missing_32 : decode cX10_missing 32 = .ok (.aload_n 3, 1) := by decide +kernel
theorem dX10_missing_33 : decode cX10_missing 33 = .ok (.aload_n 0, 1) := by decide +kernel
theorem dX10_missing_34 : decode cX10_missing 34 = .ok (.getfield 64, 3) := by decide +kernel
theorem dX10_missing_37 : decode cX10_missing 37 = .ok (.invokevirtual 226, 3) := by decide +kernel
theorem dX10_missing_40 : decode cX10_missing 40 = .ok (.istore 4, 2) := by decide +kernel
theorem dX10_missing_42 : decode cX10_missing 42 = .ok (.iload_n 2, 1) := by decide +kernel
theorem dX10_missing_43 : decode cX10_missing 43 = .ok (.ifCond .ne 6, 3) := by decide +kernel
theorem dX10_missing_46 : decode cX10_missing 46 = .ok (.iload 4, 2) := by decide +kernel
theorem dX10_missing_48 : decode cX10_missing 48 = .ok (.ireturn, 1) := by decide +kernel
theorem dX10_missing_49 : decode cX10_missing 49 = .ok (.iload 4, 2) := by decide +kernel
theorem dX10_missing_51 : decode cX10_missing 51 = .ok (.iconst (-1), 1) := by decide +kernel
theorem dX10_missing_52 : decode cX10_missing 52 = .ok (.if_icmp .ne 7, 3) := by decide +kernel
theorem dX10_missing_55 : decode cX10_missing 55 = .ok (.iconst 0, 1) := by decide +kernel
theorem dX10_missing_56 : decode cX10_missing 56 = .ok (.goto 13, 3) := by decide +kernel
theorem dX10_missing_59 : decode cX10_missing 59 = .ok (.aload_n 3, 1) := by decide +kernel
theorem dX10_missing_60 : decode cX10_missing 60 = .ok (.iload 4, 2) := by decide +kernel
theorem dX10_missing_62 : decode cX10_missing 62 = .ok (.aload_n 0, 1) := by decide +kernel
theorem dX10_missing_63 : decode cX10_missing 63 = .ok (.getfield 64, 3) := by decide +kernel
theorem dX10_missing_66 : decode cX10_missing 66 = .ok (.invokevirtual 229, 3) := by decide +kernel
theorem dX10_missing_69 : decode cX10_missing 69 = .ok (.ireturn, 1) := by decide +kernel
theorem dX10_half_0 : decode cX10_half 0 = .ok (.aload_n 0, 1) := by decide +kernel
theorem dX10_half_1 : decode cX10_half 1 = .ok (.iload_n 1, 1) := by decide +kernel
theorem dX10_half_2 : decode cX10_half 2 = .ok (.invokevirtual 71, 3) := by decide +kernel
theorem dX10_half_5 : decode cX10_half 5 = .ok (.astore 4, 2) := by decide +kernel
theorem dX10_half_7 : decode cX10_half 7 = .ok (.aload 4, 2) := by decide +kernel
theorem dX10_half_9 : decode cX10_half 9 = .ok (.ifnull 21, 3) := by decide +kernel
theorem dX10_half_12 : decode cX10_half 12 = .ok (.aload 4, 2) := by decide +kernel
theorem dX10_half_14 : decode cX10_half 14 = .ok (.iload_n 2, 1) := by decide +kernel
theorem dX10_half_15 : decode cX10_half 15 = .ok (.invokevirtual 90, 3) := by decide +kernel
theorem dX10_half_18 : decode cX10_half 18 = .ok (.ifCond .eq 12, 3) := by decide +kernel
theorem dX10_half_21 : decode cX10_half 21 = .ok (.iload_n 3, 1) := by decide +kernel
theorem dX10_half_22 : decode cX10_half 22 = .ok (.iconst 0, 1) := by decide +kernel
theorem dX10_half_23 : decode cX10_half 23 = .ok (.iconst 3, 1) := by decide +kernel
theorem dX10_half_24 : decode cX10_half 24 = .ok (.invokestatic 75, 3) := by decide +kernel
theorem dX10_half_27 : decode cX10_half 27 = .ok (.ifCond .ne 6, 3) := by decide +kernel
theorem dX10_half_30 : decode cX10_half 30 = .ok (.bipush (-2), 2) := by decide +kernel
theorem dX10_half_32 : decode cX10_half 32 = .ok (.ireturn, 1) := by decide +kernel
theorem dX10_half_33 : decode cX10_half 33 = .ok (.aload 4, 2) := by decide +kernel
theorem dX10_half_35 : decode cX10_half 35 = .ok (.iload_n 2, 1) := by decide +kernel
theorem dX10_half_36 : decode cX10_half 36 = .ok (.iload_n 3, 1) := by decide +kernel
theorem dX10_half_37 : decode cX10_half 37 = .ok (.invokevirtual 232, 3) := by decide +kernel
theorem dX10_half_40 : decode cX10_half 40 = .ok (.ireturn, 1) := by decide +kernel
theorem dX10_few_0 : decode cX10_few 0 = .ok (.aload_n 0, 1) := by decide +kernel
theorem dX10_few_1 : decode cX10_few 1 = .ok (.iload_n 1, 1) := by decide +kernel
theorem dX10_few_2 : decode cX10_few 2 = .ok (.invokevirtual 71, 3) := by decide +kernel
theorem dX10_few_5 : decode cX10_few 5 = .ok (.astore_n 3, 1) := by decide +kernel
theorem dX10_few_6 : decode cX10_few 6 = .ok (.aload_n 3, 1) := by decide +kernel
theorem dX10_few_7 : decode cX10_few 7 = .ok (.ifnull 13, 3) := by decide +kernel
theorem dX10_few_10 : decode cX10_few 10 = .ok (.iload_n 2, 1) := by decide +kernel
theorem dX10_few_11 : decode cX10_few 11 = .ok (.iconst 0, 1) := by decide +kernel
theorem dX10_few_12 : decode cX10_few 12 = .ok (.bipush 60, 2) := by decide +kernel
theorem dX10_few_14 : decode cX10_few 14 = .ok (.invokestatic 75, 3) := by decide +kernel
theorem dX10_few_17 : decode cX10_few 17 = .ok (.ifCond .ne 6, 3) := by decide +kernel
theorem dX10_few_20 : decode cX10_few 20 = .ok (.bipush (-2), 2) := by decide +kernel
theorem dX10_few_22 : decode cX10_few 22 = .ok (.ireturn, 1) := by decide +kernel
theorem dX10_few_23 : decode cX10_few 23 = .ok (.aload_n 3, 1) := by decide +kernel
theorem dX10_few_24 : decode cX10_few 24 = .ok (.getfield 129, 3) := by decide +kernel
theorem dX10_few_27 : decode cX10_few 27 = .ok (.ifCond .ne 8, 3) := by decide +kernel
theorem dX10_few_30 : decode cX10_few 30 = .ok (.bipush (-3), 2) := by decide +kernel
theorem dX10_few_32 : decode cX10_few 32 = .ok (.goto 12, 3) := by decide +kernel
theorem dX10_few_35 : decode cX10_few 35 = .ok (.aload_n 3, 1) := by decide +kernel
theorem dX10_few_36 : decode cX10_few 36 = .ok (.iload_n 2, 1) := by decide +kernel
theorem dX10_few_37 : decode cX10_few 37 = .ok (.aload_n 0, 1) := by decide +kernel
theorem dX10_few_38 : decode cX10_few 38 = .ok (.getfield 64, 3) := by decide +kernel
theorem dX10_few_41 : decode cX10_few 41 = .ok (.invokevirtual 235, 3) := by decide +kernel
theorem dX10_few_44 : decode cX10_few 44 = .ok (.ireturn, 1) := by decide +kernel
theorem dX10_tries_0 : decode cX10_tries 0 = .ok (.iload_n 1, 1) := by decide +kernel
theorem dX10_tries_1 : decode cX10_tries 1 = .ok (.iconst 1, 1) := by decide +kernel
theorem dX10_tries_2 : decode cX10_tries 2 = .ok (.bipush 60, 2) := by decide +kernel
theorem dX10_tries_4 : decode cX10_tries 4 = .ok (.invokestatic 75, 3) := by decide +kernel
theorem dX10_tries_7 : decode cX10_tries 7 = .ok (.ifCond .eq 22, 3) := by decide +kernel
theorem dX10_tries_10 : decode cX10_tries 10 = .ok (.iload_n 2, 1) := by decide +kernel
theorem dX10_tries_11 : decode cX10_tries 11 = .ok (.iconst 0, 1) := by decide +kernel
theorem dX10_tries_12 : decode cX10_tries 12 = .ok (.bipush 9, 2) := by decide +kernel
theorem dX10_tries_14 : decode cX10_tries 14 = .ok (.invokestatic 75, 3) := by decide +kernel
theorem dX10_tries_17 : decode cX10_tries 17 = .ok (.ifCond .eq 12, 3) := by decide +kernel
theorem dX10_tries_20 : decode cX10_tries 20 = .ok (.iload_n 3, 1) := by decide +kernel
theorem dX10_tries_21 : decode cX10_tries 21 = .ok (.iconst 0, 1) := by decide +kernel
theorem dX10_tries_22 : decode cX10_tries 22 = .ok (.iconst 1, 1) := by decide +kernel
theorem dX10_tries_23 : decode cX10_tries 23 = .ok (.invokestatic 75, 3) := by decide +kernel
theorem dX10_tries_26 : decode cX10_tries 26 = .ok (.ifCond .ne 6, 3) := by decide +kernel
theorem dX10_tries_29 : decode cX10_tries 29 = .ok (.bipush (-2), 2) := by decide +kernel
theorem dX10_tries_31 : decode cX10_tries 31 = .ok (.ireturn, 1) := by decide +kernel
theorem dX10_tries_32 : decode cX10_tries 32 = .ok (.aload_n 0, 1) := by decide +kernel
theorem dX10_tries_33 : decode cX10_tries 33 = .ok (.getfield 53, 3) := by decide +kernel
theorem dX10_tries_36 : decode cX10_tries 36 = .ok (.iload_n 1, 1) := by decide +kernel
theorem dX10_tries_37 : decode cX10_tries 37 = .ok (.iload_n 2, 1) := by decide +kernel
theorem dX10_tries_38 : decode cX10_tries 38 = .ok (.iload_n 3, 1) := by decide +kernel
theorem dX10_tries_39 : decode cX10_tries 39 = .ok (.invokevirtual 238, 3) := by decide +kernel
theorem dX10_tries_42 : decode cX10_tries 42 = .ok (.ireturn, 1) := by decide +kernel
theorem dX10_wrong_0 : decode cX10_wrong 0 = .ok (.iload_n 1, 1) := by decide +kernel
theorem dX10_wrong_1 : decode cX10_wrong 1 = .ok (.iconst 0, 1) := by decide +kernel
theorem dX10_wrong_2 : decode cX10_wrong 2 = .ok (.bipush 60, 2) := by decide +kernel
theorem dX10_wrong_4 : decode cX10_wrong 4 = .ok (.invokestatic 75, 3) := by decide +kernel
theorem dX10_wrong_7 : decode cX10_wrong 7 = .ok (.ifCond .eq 13, 3) := by decide +kernel
theorem dX10_wrong_10 : decode cX10_wrong 10 = .ok (.iload_n 2, 1) := by decide +kernel
theorem dX10_wrong_11 : decode cX10_wrong 11 = .ok (.iconst 0, 1) := by decide +kernel
theorem dX10_wrong_12 : decode cX10_wrong 12 = .ok (.bipush 9, 2) := by decide +kernel
theorem dX10_wrong_14 : decode cX10_wrong 14 = .ok (.invokestatic 75, 3) := by decide +kernel
theorem dX10_wrong_17 : decode cX10_wrong 17 = .ok (.ifCond .ne 6, 3) := by decide +kernel
theorem dX10_wrong_20 : decode cX10_wrong 20 = .ok (.bipush (-2), 2) := by decide +kernel
theorem dX10_wrong_22 : decode cX10_wrong 22 = .ok (.ireturn, 1) := by decide +kernel
theorem dX10_wrong_23 : decode cX10_wrong 23 = .ok (.aload_n 0, 1) := by decide +kernel
theorem dX10_wrong_24 : decode cX10_wrong 24 = .ok (.getfield 53, 3) := by decide +kernel
theorem dX10_wrong_27 : decode cX10_wrong 27 = .ok (.iload_n 1, 1) := by decide +kernel
theorem dX10_wrong_28 : decode cX10_wrong 28 = .ok (.iload_n 2, 1) := by decide +kernel
theorem dX10_wrong_29 : decode cX10_wrong 29 = .ok (.invokevirtual 240, 3) := by decide +kernel
theorem dX10_wrong_32 : decode cX10_wrong 32 = .ok (.ireturn, 1) := by decide +kernel
theorem dX10_line_0 : decode cX10_line 0 = .ok (.iload_n 1, 1) := by decide +kernel
theorem dX10_line_1 : decode cX10_line 1 = .ok (.iconst 0, 1) := by decide +kernel
theorem dX10_line_2 : decode cX10_line 2 = .ok (.iconst 2, 1) := by decide +kernel
theorem dX10_line_3 : decode cX10_line 3 = .ok (.invokestatic 75, 3) := by decide +kernel
theorem dX10_line_6 : decode cX10_line 6 = .ok (.ifCond .ne 6, 3) := by decide +kernel
theorem dX10_line_9 : decode cX10_line 9 = .ok (.bipush (-2), 2) := by decide +kernel
theorem dX10_line_11 : decode cX10_line 11 = .ok (.ireturn, 1) := by decide +kernel
theorem dX10_line_12 : decode cX10_line 12 = .ok (.aload_n 0, 1) := by decide +kernel
theorem dX10_line_13 : decode cX10_line 13 = .ok (.getfield 53, 3) := by decide +kernel
theorem dX10_line_16 : decode cX10_line 16 = .ok (.getfield 243, 3) := by decide +kernel
theorem dX10_line_19 : decode cX10_line 19 = .ok (.ifCond .ne 6, 3) := by decide +kernel
theorem dX10_line_22 : decode cX10_line 22 = .ok (.bipush (-3), 2) := by decide +kernel
theorem dX10_line_24 : decode cX10_line 24 = .ok (.ireturn, 1) := by decide +kernel
theorem dX10_line_25 : decode cX10_line 25 = .ok (.aload_n 0, 1) := by decide +kernel
theorem dX10_line_26 : decode cX10_line 26 = .ok (.getfield 53, 3) := by decide +kernel
theorem dX10_line_29 : decode cX10_line 29 = .ok (.invokevirtual 246, 3) := by decide +kernel
theorem dX10_line_32 : decode cX10_line 32 = .ok (.iload_n 1, 1) := by decide +kernel
theorem dX10_line_33 : decode cX10_line 33 = .ok (.ifCond .ne 13, 3) := by decide +kernel
theorem dX10_line_36 : decode cX10_line 36 = .ok (.aload_n 0, 1) := by decide +kernel
theorem dX10_line_37 : decode cX10_line 37 = .ok (.getfield 53, 3) := by decide +kernel
theorem dX10_line_40 : decode cX10_line 40 = .ok (.getfield 248, 3) := by decide +kernel
theorem dX10_line_43 : decode cX10_line 43 = .ok (.goto 25, 3) := by decide +kernel
theorem dX10_line_46 : decode cX10_line 46 = .ok (.iload_n 1, 1) := by decide +kernel
theorem dX10_line_47 : decode cX10_line 47 = .ok (.iconst 1, 1) := by decide +kernel
theorem dX10_line_48 : decode cX10_line 48 = .ok (.if_icmp .ne 13, 3) := by decide +kernel
theorem dX10_line_51 : decode cX10_line 51 = .ok (.aload_n 0, 1) := by decide +kernel
theorem dX10_line_52 : decode cX10_line 52 = .ok (.getfield 53, 3) := by decide +kernel
theorem dX10_line_55 : decode cX10_line 55 = .ok (.getfield 251, 3) := by decide +kernel
theorem dX10_line_58 : decode cX10_line 58 = .ok (.goto 10, 3) := by decide +kernel
theorem dX10_line_61 : decode cX10_line 61 = .ok (.aload_n 0, 1) := by decide +kernel
theorem dX10_line_62 : decode cX10_line 62 = .ok (.getfield 53, 3) := by decide +kernel
theorem dX10_line_65 : decode cX10_line 65 = .ok (.getfield 254, 3) := by decide +kernel
theorem dX10_line_68 : decode cX10_line 68 = .ok (.ireturn, 1) := by decide +kernel
theorem dX10_bent_0 : decode cX10_bent 0 = .ok (.aload_n 0, 1) := by decide +kernel
theorem dX10_bent_1 : decode cX10_bent 1 = .ok (.iload_n 1, 1) := by decide +kernel
theorem dX10_bent_2 : decode cX10_bent 2 = .ok (.invokevirtual 168, 3) := by decide +kernel
theorem dX10_bent_5 : decode cX10_bent 5 = .ok (.astore_n 3, 1) := by decide +kernel
theorem dX10_bent_6 : decode cX10_bent 6 = .ok (.aload_n 3, 1) := by decide +kernel
theorem dX10_bent_7 : decode cX10_bent 7 = .ok (.ifnull 12, 3) := by decide +kernel
theorem dX10_bent_10 : decode cX10_bent 10 = .ok (.iload_n 2, 1) := by decide +kernel
theorem dX10_bent_11 : decode cX10_bent 11 = .ok (.iconst 0, 1) := by decide +kernel
theorem dX10_bent_12 : decode cX10_bent 12 = .ok (.iconst 2, 1) := by decide +kernel
theorem dX10_bent_13 : decode cX10_bent 13 = .ok (.invokestatic 75, 3) := by decide +kernel
theorem dX10_bent_16 : decode cX10_bent 16 = .ok (.ifCond .ne 6, 3) := by decide +kernel
theorem dX10_bent_19 : decode cX10_bent 19 = .ok (.bipush (-2), 2) := by decide +kernel
theorem dX10_bent_21 : decode cX10_bent 21 = .ok (.ireturn, 1) := by decide +kernel
theorem dX10_bent_22 : decode cX10_bent 22 = .ok (.aload_n 3, 1) := by decide +kernel
theorem dX10_bent_23 : decode cX10_bent 23 = .ok (.getfield 172, 3) := by decide +kernel
theorem dX10_bent_26 : decode cX10_bent 26 = .ok (.ifCond .eq 9, 3) := by decide +kernel
theorem dX10_bent_29 : decode cX10_bent 29 = .ok (.aload_n 0, 1) := by decide +kernel
theorem dX10_bent_30 : decode cX10_bent 30 = .ok (.iconst 1, 1) := by decide +kernel
theorem dX10_bent_31 : decode cX10_bent 31 = .ok (.invokevirtual 176, 3) := by decide +kernel
theorem dX10_bent_34 : decode cX10_bent 34 = .ok (.ireturn, 1) := by decide +kernel
theorem dX10_bent_35 : decode cX10_bent 35 = .ok (.aload_n 3, 1) := by decide +kernel
theorem dX10_bent_36 : decode cX10_bent 36 = .ok (.getfield 179, 3) := by decide +kernel
theorem dX10_bent_39 : decode cX10_bent 39 = .ok (.ifCond .ne 6, 3) := by decide +kernel
theorem dX10_bent_42 : decode cX10_bent 42 = .ok (.bipush (-3), 2) := by decide +kernel
theorem dX10_bent_44 : decode cX10_bent 44 = .ok (.ireturn, 1) := by decide +kernel
theorem dX10_bent_45 : decode cX10_bent 45 = .ok (.aload_n 0, 1) := by decide +kernel
theorem dX10_bent_46 : decode cX10_bent 46 = .ok (.getfield 60, 3) := by decide +kernel
theorem dX10_bent_49 : decode cX10_bent 49 = .ok (.aload_n 3, 1) := by decide +kernel
theorem dX10_bent_50 : decode cX10_bent 50 = .ok (.invokevirtual 257, 3) := by decide +kernel
theorem dX10_bent_53 : decode cX10_bent 53 = .ok (.iload_n 2, 1) := by decide +kernel
theorem dX10_bent_54 : decode cX10_bent 54 = .ok (.ifCond .ne 13, 3) := by decide +kernel
theorem dX10_bent_57 : decode cX10_bent 57 = .ok (.aload_n 0, 1) := by decide +kernel
theorem dX10_bent_58 : decode cX10_bent 58 = .ok (.getfield 60, 3) := by decide +kernel
theorem dX10_bent_61 : decode cX10_bent 61 = .ok (.getfield 260, 3) := by decide +kernel
theorem dX10_bent_64 : decode cX10_bent 64 = .ok (.goto 25, 3) := by decide +kernel
theorem dX10_bent_67 : decode cX10_bent 67 = .ok (.iload_n 2, 1) := by decide +kernel
theorem dX10_bent_68 : decode cX10_bent 68 = .ok (.iconst 1, 1) := by decide +kernel
theorem dX10_bent_69 : decode cX10_bent 69 = .ok (.if_icmp .ne 13, 3) := by decide +kernel
theorem dX10_bent_72 : decode cX10_bent 72 = .ok (.aload_n 0, 1) := by decide +kernel
theorem dX10_bent_73 : decode cX10_bent 73 = .ok (.getfield 60, 3) := by decide +kernel
theorem dX10_bent_76 : decode cX10_bent 76 = .ok (.getfield 263, 3) := by decide +kernel
theorem dX10_bent_79 : decode cX10_bent 79 = .ok (.goto 10, 3) := by decide +kernel
theorem dX10_bent_82 : decode cX10_bent 82 = .ok (.aload_n 0, 1) := by decide +kernel
theorem dX10_bent_83 : decode cX10_bent 83 = .ok (.getfield 60, 3) := by decide +kernel
theorem dX10_bent_86 : decode cX10_bent 86 = .ok (.getfield 264, 3) := by decide +kernel
theorem dX10_bent_89 : decode cX10_bent 89 = .ok (.ireturn, 1) := by decide +kernel
theorem dX10_sheet_0 : decode cX10_sheet 0 = .ok (.aload_n 0, 1) := by decide +kernel
theorem dX10_sheet_1 : decode cX10_sheet 1 = .ok (.iload_n 1, 1) := by decide +kernel
theorem dX10_sheet_2 : decode cX10_sheet 2 = .ok (.invokevirtual 168, 3) := by decide +kernel
theorem dX10_sheet_5 : decode cX10_sheet 5 = .ok (.astore 4, 2) := by decide +kernel
theorem dX10_sheet_7 : decode cX10_sheet 7 = .ok (.aload 4, 2) := by decide +kernel
theorem dX10_sheet_9 : decode cX10_sheet 9 = .ok (.ifnull 16, 3) := by decide +kernel
theorem dX10_sheet_12 : decode cX10_sheet 12 = .ok (.iload_n 2, 1) := by decide +kernel
theorem dX10_sheet_13 : decode cX10_sheet 13 = .ok (.invokestatic 267, 3) := by decide +kernel
theorem dX10_sheet_16 : decode cX10_sheet 16 = .ok (.ifCond .eq 9, 3) := by decide +kernel
theorem dX10_sheet_19 : decode cX10_sheet 19 = .ok (.iload_n 3, 1) := by decide +kernel
theorem dX10_sheet_20 : decode cX10_sheet 20 = .ok (.bipush 60, 2) := by decide +kernel
theorem dX10_sheet_22 : decode cX10_sheet 22 = .ok (.if_icmp .le 6, 3) := by decide +kernel
theorem dX10_sheet_25 : decode cX10_sheet 25 = .ok (.bipush (-2), 2) := by decide +kernel
theorem dX10_sheet_27 : decode cX10_sheet 27 = .ok (.ireturn, 1) := by decide +kernel
theorem dX10_sheet_28 : decode cX10_sheet 28 = .ok (.iload_n 3, 1) := by decide +kernel
theorem dX10_sheet_29 : decode cX10_sheet 29 = .ok (.ifCond .ge 9, 3) := by decide +kernel
theorem dX10_sheet_32 : decode cX10_sheet 32 = .ok (.aload_n 0, 1) := by decide +kernel
theorem dX10_sheet_33 : decode cX10_sheet 33 = .ok (.iconst 5, 1) := by decide +kernel
theorem dX10_sheet_34 : decode cX10_sheet 34 = .ok (.invokevirtual 176, 3) := by decide +kernel
theorem dX10_sheet_37 : decode cX10_sheet 37 = .ok (.ireturn, 1) := by decide +kernel
theorem dX10_sheet_38 : decode cX10_sheet 38 = .ok (.aload 4, 2) := by decide +kernel
theorem dX10_sheet_40 : decode cX10_sheet 40 = .ok (.iload_n 2, 1) := by decide +kernel
theorem dX10_sheet_41 : decode cX10_sheet 41 = .ok (.iload_n 3, 1) := by decide +kernel
theorem dX10_sheet_42 : decode cX10_sheet 42 = .ok (.invokevirtual 270, 3) := by decide +kernel
theorem dX10_sheet_45 : decode cX10_sheet 45 = .ok (.iload_n 3, 1) := by decide +kernel
theorem dX10_sheet_46 : decode cX10_sheet 46 = .ok (.ireturn, 1) := by decide +kernel
theorem dX10_lose_0 : decode cX10_lose 0 = .ok (.aload_n 0, 1) := by decide +kernel
theorem dX10_lose_1 : decode cX10_lose 1 = .ok (.iload_n 1, 1) := by decide +kernel
theorem dX10_lose_2 : decode cX10_lose 2 = .ok (.invokevirtual 168, 3) := by decide +kernel
theorem dX10_lose_5 : decode cX10_lose 5 = .ok (.astore_n 2, 1) := by decide +kernel
theorem dX10_lose_6 : decode cX10_lose 6 = .ok (.aload_n 2, 1) := by decide +kernel
theorem dX10_lose_7 : decode cX10_lose 7 = .ok (.ifnonnull 6, 3) := by decide +kernel
theorem dX10_lose_10 : decode cX10_lose 10 = .ok (.bipush (-2), 2) := by decide +kernel
theorem dX10_lose_12 : decode cX10_lose 12 = .ok (.ireturn, 1) := by decide +kernel
theorem dX10_lose_13 : decode cX10_lose 13 = .ok (.aload_n 2, 1) := by decide +kernel
theorem dX10_lose_14 : decode cX10_lose 14 = .ok (.getfield 172, 3) := by decide +kernel
theorem dX10_lose_17 : decode cX10_lose 17 = .ok (.ifCond .eq 9, 3) := by decide +kernel
theorem dX10_lose_20 : decode cX10_lose 20 = .ok (.aload_n 0, 1) := by decide +kernel
theorem dX10_lose_21 : decode cX10_lose 21 = .ok (.iconst 1, 1) := by decide +kernel
theorem dX10_lose_22 : decode cX10_lose 22 = .ok (.invokevirtual 176, 3) := by decide +kernel
theorem dX10_lose_25 : decode cX10_lose 25 = .ok (.ireturn, 1) := by decide +kernel
theorem dX10_lose_26 : decode cX10_lose 26 = .ok (.aload_n 2, 1) := by decide +kernel
theorem dX10_lose_27 : decode cX10_lose 27 = .ok (.iconst 1, 1) := by decide +kernel
theorem dX10_lose_28 : decode cX10_lose 28 = .ok (.putfield 172, 3) := by decide +kernel
theorem dX10_lose_31 : decode cX10_lose 31 = .ok (.aload_n 2, 1) := by decide +kernel
theorem dX10_lose_32 : decode cX10_lose 32 = .ok (.getfield 179, 3) := by decide +kernel
theorem dX10_lose_35 : decode cX10_lose 35 = .ok (.ireturn, 1) := by decide +kernel
theorem dX10_put_0 : decode cX10_put 0 = .ok (.aload_n 0, 1) := by decide +kernel
theorem dX10_put_1 : decode cX10_put 1 = .ok (.iload_n 1, 1) := by decide +kernel
theorem dX10_put_2 : decode cX10_put 2 = .ok (.invokevirtual 168, 3) := by decide +kernel
theorem dX10_put_5 : decode cX10_put 5 = .ok (.astore 5, 2) := by decide +kernel
theorem dX10_put_7 : decode cX10_put 7 = .ok (.aload 5, 2) := by decide +kernel
theorem dX10_put_9 : decode cX10_put 9 = .ok (.ifnull 10, 3) := by decide +kernel
theorem dX10_put_12 : decode cX10_put 12 = .ok (.iload_n 2, 1) := by decide +kernel
theorem dX10_put_13 : decode cX10_put 13 = .ok (.invokestatic 267, 3) := by decide +kernel
theorem dX10_put_16 : decode cX10_put 16 = .ok (.ifCond .ne 6, 3) := by decide +kernel
theorem dX10_put_19 : decode cX10_put 19 = .ok (.bipush (-2), 2) := by decide +kernel
theorem dX10_put_21 : decode cX10_put 21 = .ok (.ireturn, 1) := by decide +kernel
theorem dX10_put_22 : decode cX10_put 22 = .ok (.aload 5, 2) := by decide +kernel
theorem dX10_put_24 : decode cX10_put 24 = .ok (.iload_n 2, 1) := by decide +kernel
theorem dX10_put_25 : decode cX10_put 25 = .ok (.iload_n 3, 1) := by decide +kernel
theorem dX10_put_26 : decode cX10_put 26 = .ok (.invokevirtual 274, 3) := by decide +kernel
theorem dX10_put_29 : decode cX10_put 29 = .ok (.istore 6, 2) := by decide +kernel
theorem dX10_put_31 : decode cX10_put 31 = .ok (.iload 6, 2) := by decide +kernel
theorem dX10_put_33 : decode cX10_put 33 = .ok (.ifCond .eq 10, 3) := by decide +kernel
theorem dX10_put_36 : decode cX10_put 36 = .ok (.aload_n 0, 1) := by decide +kernel
theorem dX10_put_37 : decode cX10_put 37 = .ok (.iload 6, 2) := by decide +kernel
theorem dX10_put_39 : decode cX10_put 39 = .ok (.invokevirtual 176, 3) := by decide +kernel
theorem dX10_put_42 : decode cX10_put 42 = .ok (.ireturn, 1) := by decide +kernel
theorem dX10_put_43 : decode cX10_put 43 = .ok (.aload 5, 2) := by decide +kernel
theorem dX10_put_45 : decode cX10_put 45 = .ok (.iload_n 3, 1) := by decide +kernel
theorem dX10_put_46 : decode cX10_put 46 = .ok (.iload 4, 2) := by decide +kernel
theorem dX10_put_48 : decode cX10_put 48 = .ok (.invokevirtual 277, 3) := by decide +kernel
theorem dX10_put_51 : decode cX10_put 51 = .ok (.iconst 1, 1) := by decide +kernel
theorem dX10_put_52 : decode cX10_put 52 = .ok (.ireturn, 1) := by decide +kernel
theorem dX10_get_0 : decode cX10_get 0 = .ok (.aload_n 0, 1) := by decide +kernel
theorem dX10_get_1 : decode cX10_get 1 = .ok (.iload_n 1, 1) := by decide +kernel
theorem dX10_get_2 : decode cX10_get 2 = .ok (.invokevirtual 168, 3) := by decide +kernel
theorem dX10_get_5 : decode cX10_get 5 = .ok (.astore 4, 2) := by decide +kernel
theorem dX10_get_7 : decode cX10_get 7 = .ok (.aload 4, 2) := by decide +kernel
theorem dX10_get_9 : decode cX10_get 9 = .ok (.ifnull 10, 3) := by decide +kernel
theorem dX10_get_12 : decode cX10_get 12 = .ok (.iload_n 2, 1) := by decide +kernel
theorem dX10_get_13 : decode cX10_get 13 = .ok (.invokestatic 267, 3) := by decide +kernel
theorem dX10_get_16 : decode cX10_get 16 = .ok (.ifCond .ne 7, 3) := by decide +kernel
theorem dX10_get_19 : decode cX10_get 19 = .ok (.ldc_w 282, 3) := by decide +kernel
theorem dX10_get_22 : decode cX10_get 22 = .ok (.ireturn, 1) := by decide +kernel
theorem dX10_get_23 : decode cX10_get 23 = .ok (.aload 4, 2) := by decide +kernel
theorem dX10_get_25 : decode cX10_get 25 = .ok (.iload_n 2, 1) := by decide +kernel
theorem dX10_get_26 : decode cX10_get 26 = .ok (.iload_n 3, 1) := by decide +kernel
theorem dX10_get_27 : decode cX10_get 27 = .ok (.invokevirtual 274, 3) := by decide +kernel
theorem dX10_get_30 : decode cX10_get 30 = .ok (.istore 5, 2) := by decide +kernel
theorem dX10_get_32 : decode cX10_get 32 = .ok (.iload 5, 2) := by decide +kernel
theorem dX10_get_34 : decode cX10_get 34 = .ok (.ifCond .eq 13, 3) := by decide +kernel
theorem dX10_get_37 : decode cX10_get 37 = .ok (.aload_n 0, 1) := by decide +kernel
theorem dX10_get_38 : decode cX10_get 38 = .ok (.iload 5, 2) := by decide +kernel
theorem dX10_get_40 : decode cX10_get 40 = .ok (.putfield 283, 3) := by decide +kernel
theorem dX10_get_43 : decode cX10_get 43 = .ok (.ldc_w 282, 3) := by decide +kernel
theorem dX10_get_46 : decode cX10_get 46 = .ok (.ireturn, 1) := by decide +kernel
theorem dX10_get_47 : decode cX10_get 47 = .ok (.aload 4, 2) := by decide +kernel
theorem dX10_get_49 : decode cX10_get 49 = .ok (.iload_n 3, 1) := by decide +kernel
theorem dX10_get_50 : decode cX10_get 50 = .ok (.invokevirtual 182, 3) := by decide +kernel
theorem dX10_get_53 : decode cX10_get 53 = .ok (.ireturn, 1) := by decide +kernel
theorem dX10_copy_0 : decode cX10_copy 0 = .ok (.aload_n 0, 1) := by decide +kernel
theorem dX10_copy_1 : decode cX10_copy 1 = .ok (.iload_n 1, 1) := by decide +kernel
theorem dX10_copy_2 : decode cX10_copy 2 = .ok (.invokevirtual 168, 3) := by decide +kernel
theorem dX10_copy_5 : decode cX10_copy 5 = .ok (.astore 6, 2) := by decide +kernel
theorem dX10_copy_7 : decode cX10_copy 7 = .ok (.aload_n 0, 1) := by decide +kernel
theorem dX10_copy_8 : decode cX10_copy 8 = .ok (.iload_n 3, 1) := by decide +kernel
theorem dX10_copy_9 : decode cX10_copy 9 = .ok (.invokevirtual 168, 3) := by decide +kernel
theorem dX10_copy_12 : decode cX10_copy 12 = .ok (.astore 7, 2) := by decide +kernel
theorem dX10_copy_14 : decode cX10_copy 14 = .ok (.aload 6, 2) := by decide +kernel
theorem dX10_copy_16 : decode cX10_copy 16 = .ok (.ifnull 8, 3) := by decide +kernel
theorem dX10_copy_19 : decode cX10_copy 19 = .ok (.aload 7, 2) := by decide +kernel
theorem dX10_copy_21 : decode cX10_copy 21 = .ok (.ifnonnull 6, 3) := by decide +kernel
theorem dX10_copy_24 : decode cX10_copy 24 = .ok (.bipush (-2), 2) := by decide +kernel
theorem dX10_copy_26 : decode cX10_copy 26 = .ok (.ireturn, 1) := by decide +kernel
theorem dX10_copy_27 : decode cX10_copy 27 = .ok (.aload 6, 2) := by decide +kernel
theorem dX10_copy_29 : decode cX10_copy 29 = .ok (.getfield 172, 3) := by decide +kernel
theorem dX10_copy_32 : decode cX10_copy 32 = .ok (.ifCond .ne 11, 3) := by decide +kernel
theorem dX10_copy_35 : decode cX10_copy 35 = .ok (.aload 7, 2) := by decide +kernel
theorem dX10_copy_37 : decode cX10_copy 37 = .ok (.getfield 172, 3) := by decide +kernel
theorem dX10_copy_40 : decode cX10_copy 40 = .ok (.ifCond .eq 9, 3) := by decide +kernel
theorem dX10_copy_43 : decode cX10_copy 43 = .ok (.aload_n 0, 1) := by decide +kernel
theorem dX10_copy_44 : decode cX10_copy 44 = .ok (.iconst 1, 1) := by decide +kernel
theorem dX10_copy_45 : decode cX10_copy 45 = .ok (.invokevirtual 176, 3) := by decide +kernel
theorem dX10_copy_48 : decode cX10_copy 48 = .ok (.ireturn, 1) := by decide +kernel
theorem dX10_copy_49 : decode cX10_copy 49 = .ok (.aload 6, 2) := by decide +kernel
theorem dX10_copy_51 : decode cX10_copy 51 = .ok (.getfield 286, 3) := by decide +kernel
theorem dX10_copy_54 : decode cX10_copy 54 = .ok (.aload 7, 2) := by decide +kernel
theorem dX10_copy_56 : decode cX10_copy 56 = .ok (.getfield 286, 3) := by decide +kernel
theorem dX10_copy_59 : decode cX10_copy 59 = .ok (.if_icmp .eq 9, 3) := by decide +kernel
theorem dX10_copy_62 : decode cX10_copy 62 = .ok (.aload_n 0, 1) := by decide +kernel
theorem dX10_copy_63 : decode cX10_copy 63 = .ok (.iconst 4, 1) := by decide +kernel
theorem dX10_copy_64 : decode cX10_copy 64 = .ok (.invokevirtual 176, 3) := by decide +kernel
theorem dX10_copy_67 : decode cX10_copy 67 = .ok (.ireturn, 1) := by decide +kernel
theorem dX10_copy_68 : decode cX10_copy 68 = .ok (.aload 6, 2) := by decide +kernel
theorem dX10_copy_70 : decode cX10_copy 70 = .ok (.iload_n 2, 1) := by decide +kernel
theorem dX10_copy_71 : decode cX10_copy 71 = .ok (.iload 5, 2) := by decide +kernel
theorem dX10_copy_73 : decode cX10_copy 73 = .ok (.invokevirtual 289, 3) := by decide +kernel
theorem dX10_copy_76 : decode cX10_copy 76 = .ok (.ifCond .eq 15, 3) := by decide +kernel
theorem dX10_copy_79 : decode cX10_copy 79 = .ok (.aload 7, 2) := by decide +kernel
theorem dX10_copy_81 : decode cX10_copy 81 = .ok (.iload 4, 2) := by decide +kernel
theorem dX10_copy_83 : decode cX10_copy 83 = .ok (.iload 5, 2) := by decide +kernel
theorem dX10_copy_85 : decode cX10_copy 85 = .ok (.invokevirtual 289, 3) := by decide +kernel
theorem dX10_copy_88 : decode cX10_copy 88 = .ok (.ifCond .ne 9, 3) := by decide +kernel
theorem dX10_copy_91 : decode cX10_copy 91 = .ok (.aload_n 0, 1) := by decide +kernel
theorem dX10_copy_92 : decode cX10_copy 92 = .ok (.iconst 2, 1) := by decide +kernel
theorem dX10_copy_93 : decode cX10_copy 93 = .ok (.invokevirtual 176, 3) := by decide +kernel
theorem dX10_copy_96 : decode cX10_copy 96 = .ok (.ireturn, 1) := by decide +kernel
theorem dX10_copy_97 : decode cX10_copy 97 = .ok (.aload 6, 2) := by decide +kernel
theorem dX10_copy_99 : decode cX10_copy 99 = .ok (.getfield 292, 3) := by decide +kernel
theorem dX10_copy_102 : decode cX10_copy 102 = .ok (.iload_n 2, 1) := by decide +kernel
theorem dX10_copy_103 : decode cX10_copy 103 = .ok (.aload 7, 2) := by decide +kernel
theorem dX10_copy_105 : decode cX10_copy 105 = .ok (.getfield 292, 3) := by decide +kernel
theorem dX10_copy_108 : decode cX10_copy 108 = .ok (.iload 4, 2) := by decide +kernel
theorem dX10_copy_110 : decode cX10_copy 110 = .ok (.iload 5, 2) := by decide +kernel
theorem dX10_copy_112 : decode cX10_copy 112 = .ok (.invokestatic 296, 3) := by decide +kernel
theorem dX10_copy_115 : decode cX10_copy 115 = .ok (.iconst 1, 1) := by decide +kernel
theorem dX10_copy_116 : decode cX10_copy 116 = .ok (.ireturn, 1) := by decide +kernel
theorem dX10_write_0 : decode cX10_write 0 = .ok (.aload_n 0, 1) := by decide +kernel
theorem dX10_write_1 : decode cX10_write 1 = .ok (.iload_n 1, 1) := by decide +kernel
theorem dX10_write_2 : decode cX10_write 2 = .ok (.invokevirtual 71, 3) := by decide +kernel
theorem dX10_write_5 : decode cX10_write 5 = .ok (.astore 4, 2) := by decide +kernel
theorem dX10_write_7 : decode cX10_write 7 = .ok (.aload_n 0, 1) := by decide +kernel
theorem dX10_write_8 : decode cX10_write 8 = .ok (.iload_n 3, 1) := by decide +kernel
theorem dX10_write_9 : decode cX10_write 9 = .ok (.invokevirtual 168, 3) := by decide +kernel
theorem dX10_write_12 : decode cX10_write 12 = .ok (.astore 5, 2) := by decide +kernel
theorem dX10_write_14 : decode cX10_write 14 = .ok (.aload 4, 2) := by decide +kernel
theorem dX10_write_16 : decode cX10_write 16 = .ok (.ifnull 18, 3) := by decide +kernel
theorem dX10_write_19 : decode cX10_write 19 = .ok (.aload 5, 2) := by decide +kernel
theorem dX10_write_21 : decode cX10_write 21 = .ok (.ifnull 13, 3) := by decide +kernel
theorem dX10_write_24 : decode cX10_write 24 = .ok (.iload_n 2, 1) := by decide +kernel
theorem dX10_write_25 : decode cX10_write 25 = .ok (.iconst 1, 1) := by decide +kernel
theorem dX10_write_26 : decode cX10_write 26 = .ok (.bipush 24, 2) := by decide +kernel
theorem dX10_write_28 : decode cX10_write 28 = .ok (.invokestatic 75, 3) := by decide +kernel
theorem dX10_write_31 : decode cX10_write 31 = .ok (.ifCond .ne 6, 3) := by decide +kernel
theorem dX10_write_34 : decode cX10_write 34 = .ok (.bipush (-2), 2) := by decide +kernel
theorem dX10_write_36 : decode cX10_write 36 = .ok (.ireturn, 1) := by decide +kernel
theorem dX10_write_37 : decode cX10_write 37 = .ok (.aload 5, 2) := by decide +kernel
theorem dX10_write_39 : decode cX10_write 39 = .ok (.getfield 172, 3) := by decide +kernel
theorem dX10_write_42 : decode cX10_write 42 = .ok (.ifCond .eq 9, 3) := by decide +kernel
theorem dX10_write_45 : decode cX10_write 45 = .ok (.aload_n 0, 1) := by decide +kernel
theorem dX10_write_46 : decode cX10_write 46 = .ok (.iconst 1, 1) := by decide +kernel
theorem dX10_write_47 : decode cX10_write 47 = .ok (.invokevirtual 176, 3) := by decide +kernel
theorem dX10_write_50 : decode cX10_write 50 = .ok (.ireturn, 1) := by decide +kernel
theorem dX10_write_51 : decode cX10_write 51 = .ok (.aload 4, 2) := by decide +kernel
theorem dX10_write_53 : decode cX10_write 53 = .ok (.getfield 129, 3) := by decide +kernel
theorem dX10_write_56 : decode cX10_write 56 = .ok (.ifCond .ne 6, 3) := by decide +kernel
theorem dX10_write_59 : decode cX10_write 59 = .ok (.bipush (-3), 2) := by decide +kernel
theorem dX10_write_61 : decode cX10_write 61 = .ok (.ireturn, 1) := by decide +kernel
theorem dX10_write_62 : decode cX10_write 62 = .ok (.iconst 0, 1) := by decide +kernel
theorem dX10_write_63 : decode cX10_write 63 = .ok (.istore 6, 2) := by decide +kernel
theorem dX10_write_65 : decode cX10_write 65 = .ok (.iload 6, 2) := by decide +kernel
theorem dX10_write_67 : decode cX10_write 67 = .ok (.aload 5, 2) := by decide +kernel
theorem dX10_write_69 : decode cX10_write 69 = .ok (.getfield 179, 3) := by decide +kernel
theorem dX10_write_72 : decode cX10_write 72 = .ok (.if_icmp .ge 27, 3) := by decide +kernel
theorem dX10_write_75 : decode cX10_write 75 = .ok (.aload 5, 2) := by decide +kernel
theorem dX10_write_77 : decode cX10_write 77 = .ok (.iload 6, 2) := by decide +kernel
theorem dX10_write_79 : decode cX10_write 79 = .ok (.iload_n 2, 1) := by decide +kernel
theorem dX10_write_80 : decode cX10_write 80 = .ok (.aload 4, 2) := by decide +kernel
theorem dX10_write_82 : decode cX10_write 82 = .ok (.getfield 129, 3) := by decide +kernel
theorem dX10_write_85 : decode cX10_write 85 = .ok (.iload 6, 2) := by decide +kernel
theorem dX10_write_87 : decode cX10_write 87 = .ok (.invokestatic 135, 3) := by decide +kernel
theorem dX10_write_90 : decode cX10_write 90 = .ok (.invokevirtual 277, 3) := by decide +kernel
theorem dX10_write_93 : decode cX10_write 93 = .ok (.iinc 6 1, 3) := by decide +kernel
theorem dX10_write_96 : decode cX10_write 96 = .ok (.goto (-31), 3) := by decide +kernel
theorem dX10_write_99 : decode cX10_write 99 = .ok (.aload 5, 2) := by decide +kernel
theorem dX10_write_101 : decode cX10_write 101 = .ok (.getfield 179, 3) := by decide +kernel
theorem dX10_write_104 : decode cX10_write 104 = .ok (.ireturn, 1) := by decide +kernel
theorem dX10_count_0 : decode cX10_count 0 = .ok (.iload_n 1, 1) := by decide +kernel
theorem dX10_count_1 : decode cX10_count 1 = .ok (.tableswitch 117 0 8 #[51, 59, 67, 75, 83, 91, 99, 107, 112], 51) := by decide +kernel
theorem dX10_count_52 : decode cX10_count 52 = .ok (.aload_n 0, 1) := by decide +kernel
theorem dX10_count_53 : decode cX10_count 53 = .ok (.getfield 10, 3) := by decide +kernel
theorem dX10_count_56 : decode cX10_count 56 = .ok (.getfield 129, 3) := by decide +kernel
theorem dX10_count_59 : decode cX10_count 59 = .ok (.ireturn, 1) := by decide +kernel
theorem dX10_count_60 : decode cX10_count 60 = .ok (.aload_n 0, 1) := by decide +kernel
theorem dX10_count_61 : decode cX10_count 61 = .ok (.getfield 16, 3) := by decide +kernel
theorem dX10_count_64 : decode cX10_count 64 = .ok (.getfield 129, 3) := by decide +kernel
theorem dX10_count_67 : decode cX10_count 67 = .ok (.ireturn, 1) := by decide +kernel
theorem dX10_count_68 : decode cX10_count 68 = .ok (.aload_n 0, 1) := by decide +kernel
theorem dX10_count_69 : decode cX10_count 69 = .ok (.getfield 10, 3) := by decide +kernel
theorem dX10_count_72 : decode cX10_count 72 = .ok (.getfield 302, 3) := by decide +kernel
theorem dX10_count_75 : decode cX10_count 75 = .ok (.ireturn, 1) := by decide +kernel
theorem dX10_count_76 : decode cX10_count 76 = .ok (.aload_n 0, 1) := by decide +kernel
theorem dX10_count_77 : decode cX10_count 77 = .ok (.getfield 16, 3) := by decide +kernel
theorem dX10_count_80 : decode cX10_count 80 = .ok (.getfield 302, 3) := by decide +kernel
theorem dX10_count_83 : decode cX10_count 83 = .ok (.ireturn, 1) := by decide +kernel
theorem dX10_count_84 : decode cX10_count 84 = .ok (.aload_n 0, 1) := by decide +kernel
theorem dX10_count_85 : decode cX10_count 85 = .ok (.getfield 22, 3) := by decide +kernel
theorem dX10_count_88 : decode cX10_count 88 = .ok (.getfield 202, 3) := by decide +kernel
theorem dX10_count_91 : decode cX10_count 91 = .ok (.ireturn, 1) := by decide +kernel
theorem dX10_count_92 : decode cX10_count 92 = .ok (.aload_n 0, 1) := by decide +kernel
theorem dX10_count_93 : decode cX10_count 93 = .ok (.getfield 26, 3) := by decide +kernel
theorem dX10_count_96 : decode cX10_count 96 = .ok (.getfield 202, 3) := by decide +kernel
theorem dX10_count_99 : decode cX10_count 99 = .ok (.ireturn, 1) := by decide +kernel
theorem dX10_count_100 : decode cX10_count 100 = .ok (.aload_n 0, 1) := by decide +kernel
theorem dX10_count_101 : decode cX10_count 101 = .ok (.getfield 53, 3) := by decide +kernel
theorem dX10_count_104 : decode cX10_count 104 = .ok (.getfield 243, 3) := by decide +kernel
theorem dX10_count_107 : decode cX10_count 107 = .ok (.ireturn, 1) := by decide +kernel
theorem dX10_count_108 : decode cX10_count 108 = .ok (.aload_n 0, 1) := by decide +kernel
theorem dX10_count_109 : decode cX10_count 109 = .ok (.getfield 64, 3) := by decide +kernel
theorem dX10_count_112 : decode cX10_count 112 = .ok (.ireturn, 1) := by decide +kernel
theorem dX10_count_113 : decode cX10_count 113 = .ok (.aload_n 0, 1) := by decide +kernel
theorem dX10_count_114 : decode cX10_count 114 = .ok (.getfield 283, 3) := by decide +kernel
theorem dX10_count_117 : decode cX10_count 117 = .ok (.ireturn, 1) := by decide +kernel
theorem dX10_count_118 : decode cX10_count 118 = .ok (.bipush (-2), 2) := by decide +kernel
theorem dX10_count_120 : decode cX10_count 120 = .ok (.ireturn, 1) := by decide +kernel
theorem dX10_digest_0 : decode cX10_digest 0 = .ok (.ldc2_w 305, 3) := by decide +kernel
theorem dX10_digest_3 : decode cX10_digest 3 = .ok (.lstore_n 1, 1) := by decide +kernel
theorem dX10_digest_4 : decode cX10_digest 4 = .ok (.iconst 0, 1) := by decide +kernel
theorem dX10_digest_5 : decode cX10_digest 5 = .ok (.istore_n 3, 1) := by decide +kernel
theorem dX10_digest_6 : decode cX10_digest 6 = .ok (.iload_n 3, 1) := by decide +kernel
theorem dX10_digest_7 : decode cX10_digest 7 = .ok (.bipush 7, 2) := by decide +kernel
theorem dX10_digest_9 : decode cX10_digest 9 = .ok (.if_icmp .gt 20, 3) := by decide +kernel
theorem dX10_digest_12 : decode cX10_digest 12 = .ok (.lload_n 1, 1) := by decide +kernel
theorem dX10_digest_13 : decode cX10_digest 13 = .ok (.aload_n 0, 1) := by decide +kernel
theorem dX10_digest_14 : decode cX10_digest 14 = .ok (.iload_n 3, 1) := by decide +kernel
theorem dX10_digest_15 : decode cX10_digest 15 = .ok (.invokevirtual 307, 3) := by decide +kernel
theorem dX10_digest_18 : decode cX10_digest 18 = .ok (.i2l, 1) := by decide +kernel
theorem dX10_digest_19 : decode cX10_digest 19 = .ok (.invokestatic 310, 3) := by decide +kernel
theorem dX10_digest_22 : decode cX10_digest 22 = .ok (.lstore_n 1, 1) := by decide +kernel
theorem dX10_digest_23 : decode cX10_digest 23 = .ok (.iinc 3 1, 3) := by decide +kernel
theorem dX10_digest_26 : decode cX10_digest 26 = .ok (.goto (-20), 3) := by decide +kernel
theorem dX10_digest_29 : decode cX10_digest 29 = .ok (.aload_n 0, 1) := by decide +kernel
theorem dX10_digest_30 : decode cX10_digest 30 = .ok (.lload_n 1, 1) := by decide +kernel
theorem dX10_digest_31 : decode cX10_digest 31 = .ok (.iconst 0, 1) := by decide +kernel
theorem dX10_digest_32 : decode cX10_digest 32 = .ok (.invokevirtual 314, 3) := by decide +kernel
theorem dX10_digest_35 : decode cX10_digest 35 = .ok (.lstore_n 1, 1) := by decide +kernel
theorem dX10_digest_36 : decode cX10_digest 36 = .ok (.aload_n 0, 1) := by decide +kernel
theorem dX10_digest_37 : decode cX10_digest 37 = .ok (.lload_n 1, 1) := by decide +kernel
theorem dX10_digest_38 : decode cX10_digest 38 = .ok (.iconst 1, 1) := by decide +kernel
theorem dX10_digest_39 : decode cX10_digest 39 = .ok (.invokevirtual 314, 3) := by decide +kernel
theorem dX10_digest_42 : decode cX10_digest 42 = .ok (.lstore_n 1, 1) := by decide +kernel
theorem dX10_digest_43 : decode cX10_digest 43 = .ok (.iconst 0, 1) := by decide +kernel
theorem dX10_digest_44 : decode cX10_digest 44 = .ok (.istore_n 3, 1) := by decide +kernel
theorem dX10_digest_45 : decode cX10_digest 45 = .ok (.iload_n 3, 1) := by decide +kernel
theorem dX10_digest_46 : decode cX10_digest 46 = .ok (.iconst 2, 1) := by decide +kernel
theorem dX10_digest_47 : decode cX10_digest 47 = .ok (.if_icmp .gt 20, 3) := by decide +kernel
theorem dX10_digest_50 : decode cX10_digest 50 = .ok (.lload_n 1, 1) := by decide +kernel
theorem dX10_digest_51 : decode cX10_digest 51 = .ok (.aload_n 0, 1) := by decide +kernel
theorem dX10_digest_52 : decode cX10_digest 52 = .ok (.iload_n 3, 1) := by decide +kernel
theorem dX10_digest_53 : decode cX10_digest 53 = .ok (.invokevirtual 318, 3) := by decide +kernel
theorem dX10_digest_56 : decode cX10_digest 56 = .ok (.i2l, 1) := by decide +kernel
theorem dX10_digest_57 : decode cX10_digest 57 = .ok (.invokestatic 310, 3) := by decide +kernel
theorem dX10_digest_60 : decode cX10_digest 60 = .ok (.lstore_n 1, 1) := by decide +kernel
theorem dX10_digest_61 : decode cX10_digest 61 = .ok (.iinc 3 1, 3) := by decide +kernel
theorem dX10_digest_64 : decode cX10_digest 64 = .ok (.goto (-19), 3) := by decide +kernel
theorem dX10_digest_67 : decode cX10_digest 67 = .ok (.lload_n 1, 1) := by decide +kernel
theorem dX10_digest_68 : decode cX10_digest 68 = .ok (.aload_n 0, 1) := by decide +kernel
theorem dX10_digest_69 : decode cX10_digest 69 = .ok (.invokevirtual 321, 3) := by decide +kernel
theorem dX10_digest_72 : decode cX10_digest 72 = .ok (.i2l, 1) := by decide +kernel
theorem dX10_digest_73 : decode cX10_digest 73 = .ok (.invokestatic 310, 3) := by decide +kernel
theorem dX10_digest_76 : decode cX10_digest 76 = .ok (.lstore_n 1, 1) := by decide +kernel
theorem dX10_digest_77 : decode cX10_digest 77 = .ok (.aload_n 0, 1) := by decide +kernel
theorem dX10_digest_78 : decode cX10_digest 78 = .ok (.lload_n 1, 1) := by decide +kernel
theorem dX10_digest_79 : decode cX10_digest 79 = .ok (.iconst 0, 1) := by decide +kernel
theorem dX10_digest_80 : decode cX10_digest 80 = .ok (.invokevirtual 324, 3) := by decide +kernel
theorem dX10_digest_83 : decode cX10_digest 83 = .ok (.lstore_n 1, 1) := by decide +kernel
theorem dX10_digest_84 : decode cX10_digest 84 = .ok (.aload_n 0, 1) := by decide +kernel
theorem dX10_digest_85 : decode cX10_digest 85 = .ok (.lload_n 1, 1) := by decide +kernel
theorem dX10_digest_86 : decode cX10_digest 86 = .ok (.iconst 1, 1) := by decide +kernel
theorem dX10_digest_87 : decode cX10_digest 87 = .ok (.invokevirtual 324, 3) := by decide +kernel
theorem dX10_digest_90 : decode cX10_digest 90 = .ok (.lstore_n 1, 1) := by decide +kernel
theorem dX10_digest_91 : decode cX10_digest 91 = .ok (.lload_n 1, 1) := by decide +kernel
theorem dX10_digest_92 : decode cX10_digest 92 = .ok (.aload_n 0, 1) := by decide +kernel
theorem dX10_digest_93 : decode cX10_digest 93 = .ok (.iconst 1, 1) := by decide +kernel
theorem dX10_digest_94 : decode cX10_digest 94 = .ok (.iconst 2, 1) := by decide +kernel
theorem dX10_digest_95 : decode cX10_digest 95 = .ok (.iconst (-1), 1) := by decide +kernel
theorem dX10_digest_96 : decode cX10_digest 96 = .ok (.invokevirtual 327, 3) := by decide +kernel
theorem dX10_digest_99 : decode cX10_digest 99 = .ok (.i2l, 1) := by decide +kernel
theorem dX10_digest_100 : decode cX10_digest 100 = .ok (.invokestatic 310, 3) := by decide +kernel
theorem dX10_digest_103 : decode cX10_digest 103 = .ok (.lstore_n 1, 1) := by decide +kernel
theorem dX10_digest_104 : decode cX10_digest 104 = .ok (.iconst 0, 1) := by decide +kernel
theorem dX10_digest_105 : decode cX10_digest 105 = .ok (.istore_n 3, 1) := by decide +kernel
theorem dX10_digest_106 : decode cX10_digest 106 = .ok (.iload_n 3, 1) := by decide +kernel
theorem dX10_digest_107 : decode cX10_digest 107 = .ok (.iconst 2, 1) := by decide +kernel
theorem dX10_digest_108 : decode cX10_digest 108 = .ok (.if_icmp .gt 20, 3) := by decide +kernel
theorem dX10_digest_111 : decode cX10_digest 111 = .ok (.lload_n 1, 1) := by decide +kernel
theorem dX10_digest_112 : decode cX10_digest 112 = .ok (.aload_n 0, 1) := by decide +kernel
theorem dX10_digest_113 : decode cX10_digest 113 = .ok (.iload_n 3, 1) := by decide +kernel
theorem dX10_digest_114 : decode cX10_digest 114 = .ok (.invokevirtual 330, 3) := by decide +kernel
theorem dX10_digest_117 : decode cX10_digest 117 = .ok (.i2l, 1) := by decide +kernel
theorem dX10_digest_118 : decode cX10_digest 118 = .ok (.invokestatic 310, 3) := by decide +kernel
theorem dX10_digest_121 : decode cX10_digest 121 = .ok (.lstore_n 1, 1) := by decide +kernel
theorem dX10_digest_122 : decode cX10_digest 122 = .ok (.iinc 3 1, 3) := by decide +kernel
theorem dX10_digest_125 : decode cX10_digest 125 = .ok (.goto (-19), 3) := by decide +kernel
theorem dX10_digest_128 : decode cX10_digest 128 = .ok (.lload_n 1, 1) := by decide +kernel
theorem dX10_digest_129 : decode cX10_digest 129 = .ok (.lreturn, 1) := by decide +kernel
theorem dX10_mixedStrip_0 : decode cX10_mixedStrip 0 = .ok (.lload_n 1, 1) := by decide +kernel
theorem dX10_mixedStrip_1 : decode cX10_mixedStrip 1 = .ok (.aload_n 0, 1) := by decide +kernel
theorem dX10_mixedStrip_2 : decode cX10_mixedStrip 2 = .ok (.iload_n 3, 1) := by decide +kernel
theorem dX10_mixedStrip_3 : decode cX10_mixedStrip 3 = .ok (.invokevirtual 333, 3) := by decide +kernel
theorem dX10_mixedStrip_6 : decode cX10_mixedStrip 6 = .ok (.i2l, 1) := by decide +kernel
theorem dX10_mixedStrip_7 : decode cX10_mixedStrip 7 = .ok (.invokestatic 310, 3) := by decide +kernel
theorem dX10_mixedStrip_10 : decode cX10_mixedStrip 10 = .ok (.lstore 4, 2) := by decide +kernel
theorem dX10_mixedStrip_12 : decode cX10_mixedStrip 12 = .ok (.lload 4, 2) := by decide +kernel
theorem dX10_mixedStrip_14 : decode cX10_mixedStrip 14 = .ok (.aload_n 0, 1) := by decide +kernel
theorem dX10_mixedStrip_15 : decode cX10_mixedStrip 15 = .ok (.iload_n 3, 1) := by decide +kernel
theorem dX10_mixedStrip_16 : decode cX10_mixedStrip 16 = .ok (.invokevirtual 336, 3) := by decide +kernel
theorem dX10_mixedStrip_19 : decode cX10_mixedStrip 19 = .ok (.i2l, 1) := by decide +kernel
theorem dX10_mixedStrip_20 : decode cX10_mixedStrip 20 = .ok (.invokestatic 310, 3) := by decide +kernel
theorem dX10_mixedStrip_23 : decode cX10_mixedStrip 23 = .ok (.lstore 4, 2) := by decide +kernel
theorem dX10_mixedStrip_25 : decode cX10_mixedStrip 25 = .ok (.lload 4, 2) := by decide +kernel
theorem dX10_mixedStrip_27 : decode cX10_mixedStrip 27 = .ok (.aload_n 0, 1) := by decide +kernel
theorem dX10_mixedStrip_28 : decode cX10_mixedStrip 28 = .ok (.iload_n 3, 1) := by decide +kernel
theorem dX10_mixedStrip_29 : decode cX10_mixedStrip 29 = .ok (.bipush 12, 2) := by decide +kernel
theorem dX10_mixedStrip_31 : decode cX10_mixedStrip 31 = .ok (.iconst (-1), 1) := by decide +kernel
theorem dX10_mixedStrip_32 : decode cX10_mixedStrip 32 = .ok (.invokevirtual 339, 3) := by decide +kernel
theorem dX10_mixedStrip_35 : decode cX10_mixedStrip 35 = .ok (.i2l, 1) := by decide +kernel
theorem dX10_mixedStrip_36 : decode cX10_mixedStrip 36 = .ok (.invokestatic 310, 3) := by decide +kernel
theorem dX10_mixedStrip_39 : decode cX10_mixedStrip 39 = .ok (.lstore 4, 2) := by decide +kernel
theorem dX10_mixedStrip_41 : decode cX10_mixedStrip 41 = .ok (.lload 4, 2) := by decide +kernel
theorem dX10_mixedStrip_43 : decode cX10_mixedStrip 43 = .ok (.aload_n 0, 1) := by decide +kernel
theorem dX10_mixedStrip_44 : decode cX10_mixedStrip 44 = .ok (.iload_n 3, 1) := by decide +kernel
theorem dX10_mixedStrip_45 : decode cX10_mixedStrip 45 = .ok (.iconst 0, 1) := by decide +kernel
theorem dX10_mixedStrip_46 : decode cX10_mixedStrip 46 = .ok (.invokevirtual 342, 3) := by decide +kernel
theorem dX10_mixedStrip_49 : decode cX10_mixedStrip 49 = .ok (.i2l, 1) := by decide +kernel
theorem dX10_mixedStrip_50 : decode cX10_mixedStrip 50 = .ok (.invokestatic 310, 3) := by decide +kernel
theorem dX10_mixedStrip_53 : decode cX10_mixedStrip 53 = .ok (.lstore 4, 2) := by decide +kernel
theorem dX10_mixedStrip_55 : decode cX10_mixedStrip 55 = .ok (.lload 4, 2) := by decide +kernel
theorem dX10_mixedStrip_57 : decode cX10_mixedStrip 57 = .ok (.aload_n 0, 1) := by decide +kernel
theorem dX10_mixedStrip_58 : decode cX10_mixedStrip 58 = .ok (.iload_n 3, 1) := by decide +kernel
theorem dX10_mixedStrip_59 : decode cX10_mixedStrip 59 = .ok (.iconst 1, 1) := by decide +kernel
theorem dX10_mixedStrip_60 : decode cX10_mixedStrip 60 = .ok (.invokevirtual 342, 3) := by decide +kernel
theorem dX10_mixedStrip_63 : decode cX10_mixedStrip 63 = .ok (.i2l, 1) := by decide +kernel
theorem dX10_mixedStrip_64 : decode cX10_mixedStrip 64 = .ok (.invokestatic 310, 3) := by decide +kernel
theorem dX10_mixedStrip_67 : decode cX10_mixedStrip 67 = .ok (.lstore 4, 2) := by decide +kernel
theorem dX10_mixedStrip_69 : decode cX10_mixedStrip 69 = .ok (.lload 4, 2) := by decide +kernel
theorem dX10_mixedStrip_71 : decode cX10_mixedStrip 71 = .ok (.aload_n 0, 1) := by decide +kernel
theorem dX10_mixedStrip_72 : decode cX10_mixedStrip 72 = .ok (.iload_n 3, 1) := by decide +kernel
theorem dX10_mixedStrip_73 : decode cX10_mixedStrip 73 = .ok (.iconst 5, 1) := by decide +kernel
theorem dX10_mixedStrip_74 : decode cX10_mixedStrip 74 = .ok (.invokevirtual 345, 3) := by decide +kernel
theorem dX10_mixedStrip_77 : decode cX10_mixedStrip 77 = .ok (.i2l, 1) := by decide +kernel
theorem dX10_mixedStrip_78 : decode cX10_mixedStrip 78 = .ok (.invokestatic 310, 3) := by decide +kernel
theorem dX10_mixedStrip_81 : decode cX10_mixedStrip 81 = .ok (.lstore 4, 2) := by decide +kernel
theorem dX10_mixedStrip_83 : decode cX10_mixedStrip 83 = .ok (.lload 4, 2) := by decide +kernel
theorem dX10_mixedStrip_85 : decode cX10_mixedStrip 85 = .ok (.aload_n 0, 1) := by decide +kernel
theorem dX10_mixedStrip_86 : decode cX10_mixedStrip 86 = .ok (.iload_n 3, 1) := by decide +kernel
theorem dX10_mixedStrip_87 : decode cX10_mixedStrip 87 = .ok (.invokevirtual 348, 3) := by decide +kernel
theorem dX10_mixedStrip_90 : decode cX10_mixedStrip 90 = .ok (.i2l, 1) := by decide +kernel
theorem dX10_mixedStrip_91 : decode cX10_mixedStrip 91 = .ok (.invokestatic 310, 3) := by decide +kernel
theorem dX10_mixedStrip_94 : decode cX10_mixedStrip 94 = .ok (.lstore 4, 2) := by decide +kernel
theorem dX10_mixedStrip_96 : decode cX10_mixedStrip 96 = .ok (.iconst 0, 1) := by decide +kernel
theorem dX10_mixedStrip_97 : decode cX10_mixedStrip 97 = .ok (.istore 6, 2) := by decide +kernel
theorem dX10_mixedStrip_99 : decode cX10_mixedStrip 99 = .ok (.iload 6, 2) := by decide +kernel
theorem dX10_mixedStrip_101 : decode cX10_mixedStrip 101 = .ok (.aload_n 0, 1) := by decide +kernel
theorem dX10_mixedStrip_102 : decode cX10_mixedStrip 102 = .ok (.iload_n 3, 1) := by decide +kernel
theorem dX10_mixedStrip_103 : decode cX10_mixedStrip 103 = .ok (.invokevirtual 307, 3) := by decide +kernel
theorem dX10_mixedStrip_106 : decode cX10_mixedStrip 106 = .ok (.if_icmp .ge 41, 3) := by decide +kernel
theorem dX10_mixedStrip_109 : decode cX10_mixedStrip 109 = .ok (.iconst 0, 1) := by decide +kernel
theorem dX10_mixedStrip_110 : decode cX10_mixedStrip 110 = .ok (.istore 7, 2) := by decide +kernel
theorem dX10_mixedStrip_112 : decode cX10_mixedStrip 112 = .ok (.iload 7, 2) := by decide +kernel
theorem dX10_mixedStrip_114 : decode cX10_mixedStrip 114 = .ok (.iconst 4, 1) := by decide +kernel
theorem dX10_mixedStrip_115 : decode cX10_mixedStrip 115 = .ok (.if_icmp .ge 26, 3) := by decide +kernel
theorem dX10_mixedStrip_118 : decode cX10_mixedStrip 118 = .ok (.lload 4, 2) := by decide +kernel
theorem dX10_mixedStrip_120 : decode cX10_mixedStrip 120 = .ok (.aload_n 0, 1) := by decide +kernel
theorem dX10_mixedStrip_121 : decode cX10_mixedStrip 121 = .ok (.iload_n 3, 1) := by decide +kernel
theorem dX10_mixedStrip_122 : decode cX10_mixedStrip 122 = .ok (.iload 6, 2) := by decide +kernel
theorem dX10_mixedStrip_124 : decode cX10_mixedStrip 124 = .ok (.iload 7, 2) := by decide +kernel
theorem dX10_mixedStrip_126 : decode cX10_mixedStrip 126 = .ok (.invokevirtual 351, 3) := by decide +kernel
theorem dX10_mixedStrip_129 : decode cX10_mixedStrip 129 = .ok (.i2l, 1) := by decide +kernel
theorem dX10_mixedStrip_130 : decode cX10_mixedStrip 130 = .ok (.invokestatic 310, 3) := by decide +kernel
theorem dX10_mixedStrip_133 : decode cX10_mixedStrip 133 = .ok (.lstore 4, 2) := by decide +kernel
theorem dX10_mixedStrip_135 : decode cX10_mixedStrip 135 = .ok (.iinc 7 1, 3) := by decide +kernel
theorem dX10_mixedStrip_138 : decode cX10_mixedStrip 138 = .ok (.goto (-26), 3) := by decide +kernel
theorem dX10_mixedStrip_141 : decode cX10_mixedStrip 141 = .ok (.iinc 6 1, 3) := by decide +kernel
theorem dX10_mixedStrip_144 : decode cX10_mixedStrip 144 = .ok (.goto (-45), 3) := by decide +kernel
theorem dX10_mixedStrip_147 : decode cX10_mixedStrip 147 = .ok (.lload 4, 2) := by decide +kernel
theorem dX10_mixedStrip_149 : decode cX10_mixedStrip 149 = .ok (.lreturn, 1) := by decide +kernel
theorem dX10_mixedLook_0 : decode cX10_mixedLook 0 = .ok (.lload_n 1, 1) := by decide +kernel
theorem dX10_mixedLook_1 : decode cX10_mixedLook 1 = .ok (.lstore 4, 2) := by decide +kernel
theorem dX10_mixedLook_3 : decode cX10_mixedLook 3 = .ok (.iconst 0, 1) := by decide +kernel
theorem dX10_mixedLook_4 : decode cX10_mixedLook 4 = .ok (.istore 6, 2) := by decide +kernel
theorem dX10_mixedLook_6 : decode cX10_mixedLook 6 = .ok (.iload 6, 2) := by decide +kernel
theorem dX10_mixedLook_8 : decode cX10_mixedLook 8 = .ok (.aload_n 0, 1) := by decide +kernel
theorem dX10_mixedLook_9 : decode cX10_mixedLook 9 = .ok (.iconst 4, 1) := by decide +kernel
theorem dX10_mixedLook_10 : decode cX10_mixedLook 10 = .ok (.iload_n 3, 1) := by decide +kernel
theorem dX10_mixedLook_11 : decode cX10_mixedLook 11 = .ok (.iadd, 1) := by decide +kernel
theorem dX10_mixedLook_12 : decode cX10_mixedLook 12 = .ok (.invokevirtual 307, 3) := by decide +kernel
theorem dX10_mixedLook_15 : decode cX10_mixedLook 15 = .ok (.if_icmp .ge 24, 3) := by decide +kernel
theorem dX10_mixedLook_18 : decode cX10_mixedLook 18 = .ok (.lload 4, 2) := by decide +kernel
theorem dX10_mixedLook_20 : decode cX10_mixedLook 20 = .ok (.aload_n 0, 1) := by decide +kernel
theorem dX10_mixedLook_21 : decode cX10_mixedLook 21 = .ok (.iload_n 3, 1) := by decide +kernel
theorem dX10_mixedLook_22 : decode cX10_mixedLook 22 = .ok (.iload 6, 2) := by decide +kernel
theorem dX10_mixedLook_24 : decode cX10_mixedLook 24 = .ok (.invokevirtual 354, 3) := by decide +kernel
theorem dX10_mixedLook_27 : decode cX10_mixedLook 27 = .ok (.i2l, 1) := by decide +kernel
theorem dX10_mixedLook_28 : decode cX10_mixedLook 28 = .ok (.invokestatic 310, 3) := by decide +kernel
theorem dX10_mixedLook_31 : decode cX10_mixedLook 31 = .ok (.lstore 4, 2) := by decide +kernel
theorem dX10_mixedLook_33 : decode cX10_mixedLook 33 = .ok (.iinc 6 1, 3) := by decide +kernel
theorem dX10_mixedLook_36 : decode cX10_mixedLook 36 = .ok (.goto (-30), 3) := by decide +kernel
theorem dX10_mixedLook_39 : decode cX10_mixedLook 39 = .ok (.lload 4, 2) := by decide +kernel
theorem dX10_mixedLook_41 : decode cX10_mixedLook 41 = .ok (.lreturn, 1) := by decide +kernel
theorem dX10_mixed_0 : decode cX10_mixed 0 = .ok (.ldc2_w 357, 3) := by decide +kernel
theorem dX10_mixed_3 : decode cX10_mixed 3 = .ok (.lload_n 0, 1) := by decide +kernel
theorem dX10_mixed_4 : decode cX10_mixed 4 = .ok (.lmul, 1) := by decide +kernel
theorem dX10_mixed_5 : decode cX10_mixed 5 = .ok (.lload_n 2, 1) := by decide +kernel
theorem dX10_mixed_6 : decode cX10_mixed 6 = .ok (.ladd, 1) := by decide +kernel
theorem dX10_mixed_7 : decode cX10_mixed 7 = .ok (.lreturn, 1) := by decide +kernel
theorem dX10_within_0 : decode cX10_within 0 = .ok (.iload_n 0, 1) := by decide +kernel
theorem dX10_within_1 : decode cX10_within 1 = .ok (.iload_n 1, 1) := by decide +kernel
theorem dX10_within_2 : decode cX10_within 2 = .ok (.if_icmp .lt 12, 3) := by decide +kernel
theorem dX10_within_5 : decode cX10_within 5 = .ok (.iload_n 0, 1) := by decide +kernel
theorem dX10_within_6 : decode cX10_within 6 = .ok (.iload_n 2, 1) := by decide +kernel
theorem dX10_within_7 : decode cX10_within 7 = .ok (.if_icmp .gt 7, 3) := by decide +kernel
theorem dX10_within_10 : decode cX10_within 10 = .ok (.iconst 1, 1) := by decide +kernel
theorem dX10_within_11 : decode cX10_within 11 = .ok (.goto 4, 3) := by decide +kernel
theorem dX10_within_14 : decode cX10_within 14 = .ok (.iconst 0, 1) := by decide +kernel
theorem dX10_within_15 : decode cX10_within 15 = .ok (.ireturn, 1) := by decide +kernel
theorem dX10_asLong_0 : decode cX10_asLong 0 = .ok (.ldc2_w 361, 3) := by decide +kernel
theorem dX10_asLong_3 : decode cX10_asLong 3 = .ok (.iload_n 0, 1) := by decide +kernel
theorem dX10_asLong_4 : decode cX10_asLong 4 = .ok (.i2l, 1) := by decide +kernel
theorem dX10_asLong_5 : decode cX10_asLong 5 = .ok (.lsub, 1) := by decide +kernel
theorem dX10_asLong_6 : decode cX10_asLong 6 = .ok (.lreturn, 1) := by decide +kernel
theorem dX10_finding_0 : decode cX10_finding 0 = .ok (.aload_n 0, 1) := by decide +kernel
theorem dX10_finding_1 : decode cX10_finding 1 = .ok (.iload_n 1, 1) := by decide +kernel
theorem dX10_finding_2 : decode cX10_finding 2 = .ok (.putfield 283, 3) := by decide +kernel
theorem dX10_finding_5 : decode cX10_finding 5 = .ok (.bipush (-10), 2) := by decide +kernel
theorem dX10_finding_7 : decode cX10_finding 7 = .ok (.iload_n 1, 1) := by decide +kernel
theorem dX10_finding_8 : decode cX10_finding 8 = .ok (.isub, 1) := by decide +kernel
theorem dX10_finding_9 : decode cX10_finding 9 = .ok (.ireturn, 1) := by decide +kernel
theorem dX10_stripAt_0 : decode cX10_stripAt 0 = .ok (.iload_n 1, 1) := by decide +kernel
theorem dX10_stripAt_1 : decode cX10_stripAt 1 = .ok (.ifCond .ne 10, 3) := by decide +kernel
theorem dX10_stripAt_4 : decode cX10_stripAt 4 = .ok (.aload_n 0, 1) := by decide +kernel
theorem dX10_stripAt_5 : decode cX10_stripAt 5 = .ok (.getfield 10, 3) := by decide +kernel
theorem dX10_stripAt_8 : decode cX10_stripAt 8 = .ok (.goto 16, 3) := by decide +kernel
theorem dX10_stripAt_11 : decode cX10_stripAt 11 = .ok (.iload_n 1, 1) := by decide +kernel
theorem dX10_stripAt_12 : decode cX10_stripAt 12 = .ok (.iconst 1, 1) := by decide +kernel
theorem dX10_stripAt_13 : decode cX10_stripAt 13 = .ok (.if_icmp .ne 10, 3) := by decide +kernel
theorem dX10_stripAt_16 : decode cX10_stripAt 16 = .ok (.aload_n 0, 1) := by decide +kernel
theorem dX10_stripAt_17 : decode cX10_stripAt 17 = .ok (.getfield 16, 3) := by decide +kernel
theorem dX10_stripAt_20 : decode cX10_stripAt 20 = .ok (.goto 4, 3) := by decide +kernel
theorem dX10_stripAt_23 : decode cX10_stripAt 23 = .ok (.aconst_null, 1) := by decide +kernel
theorem dX10_stripAt_24 : decode cX10_stripAt 24 = .ok (.areturn, 1) := by decide +kernel
theorem dX10_lookAt_0 : decode cX10_lookAt 0 = .ok (.iload_n 1, 1) := by decide +kernel
theorem dX10_lookAt_1 : decode cX10_lookAt 1 = .ok (.ifCond .ne 10, 3) := by decide +kernel
theorem dX10_lookAt_4 : decode cX10_lookAt 4 = .ok (.aload_n 0, 1) := by decide +kernel
theorem dX10_lookAt_5 : decode cX10_lookAt 5 = .ok (.getfield 22, 3) := by decide +kernel
theorem dX10_lookAt_8 : decode cX10_lookAt 8 = .ok (.goto 16, 3) := by decide +kernel
theorem dX10_lookAt_11 : decode cX10_lookAt 11 = .ok (.iload_n 1, 1) := by decide +kernel
theorem dX10_lookAt_12 : decode cX10_lookAt 12 = .ok (.iconst 1, 1) := by decide +kernel
theorem dX10_lookAt_13 : decode cX10_lookAt 13 = .ok (.if_icmp .ne 10, 3) := by decide +kernel
theorem dX10_lookAt_16 : decode cX10_lookAt 16 = .ok (.aload_n 0, 1) := by decide +kernel
theorem dX10_lookAt_17 : decode cX10_lookAt 17 = .ok (.getfield 26, 3) := by decide +kernel
theorem dX10_lookAt_20 : decode cX10_lookAt 20 = .ok (.goto 4, 3) := by decide +kernel
theorem dX10_lookAt_23 : decode cX10_lookAt 23 = .ok (.aconst_null, 1) := by decide +kernel
theorem dX10_lookAt_24 : decode cX10_lookAt 24 = .ok (.areturn, 1) := by decide +kernel
theorem dX10_sheetAt_0 : decode cX10_sheetAt 0 = .ok (.iload_n 1, 1) := by decide +kernel
theorem dX10_sheetAt_1 : decode cX10_sheetAt 1 = .ok (.iconst 0, 1) := by decide +kernel
theorem dX10_sheetAt_2 : decode cX10_sheetAt 2 = .ok (.aload_n 0, 1) := by decide +kernel
theorem dX10_sheetAt_3 : decode cX10_sheetAt 3 = .ok (.getfield 32, 3) := by decide +kernel
theorem dX10_sheetAt_6 : decode cX10_sheetAt 6 = .ok (.arraylength, 1) := by decide +kernel
theorem dX10_sheetAt_7 : decode cX10_sheetAt 7 = .ok (.iconst 1, 1) := by decide +kernel
theorem dX10_sheetAt_8 : decode cX10_sheetAt 8 = .ok (.isub, 1) := by decide +kernel
theorem dX10_sheetAt_9 : decode cX10_sheetAt 9 = .ok (.invokestatic 75, 3) := by decide +kernel
theorem dX10_sheetAt_12 : decode cX10_sheetAt 12 = .ok (.ifCond .eq 12, 3) := by decide +kernel
theorem dX10_sheetAt_15 : decode cX10_sheetAt 15 = .ok (.aload_n 0, 1) := by decide +kernel
theorem dX10_sheetAt_16 : decode cX10_sheetAt 16 = .ok (.getfield 32, 3) := by decide +kernel
theorem dX10_sheetAt_19 : decode cX10_sheetAt 19 = .ok (.iload_n 1, 1) := by decide +kernel
theorem dX10_sheetAt_20 : decode cX10_sheetAt 20 = .ok (.aaload, 1) := by decide +kernel
theorem dX10_sheetAt_21 : decode cX10_sheetAt 21 = .ok (.goto 4, 3) := by decide +kernel
theorem dX10_sheetAt_24 : decode cX10_sheetAt 24 = .ok (.aconst_null, 1) := by decide +kernel
theorem dX10_sheetAt_25 : decode cX10_sheetAt 25 = .ok (.areturn, 1) := by decide +kernel
theorem dX10_looseRefusal_0 : decode cX10_looseRefusal 0 = .ok (.aload_n 0, 1) := by decide +kernel
theorem dX10_looseRefusal_1 : decode cX10_looseRefusal 1 = .ok (.getfield 129, 3) := by decide +kernel
theorem dX10_looseRefusal_4 : decode cX10_looseRefusal 4 = .ok (.ifCond .ne 8, 3) := by decide +kernel
theorem dX10_looseRefusal_7 : decode cX10_looseRefusal 7 = .ok (.bipush (-3), 2) := by decide +kernel
theorem dX10_looseRefusal_9 : decode cX10_looseRefusal 9 = .ok (.goto 18, 3) := by decide +kernel
theorem dX10_looseRefusal_12 : decode cX10_looseRefusal 12 = .ok (.aload_n 0, 1) := by decide +kernel
theorem dX10_looseRefusal_13 : decode cX10_looseRefusal 13 = .ok (.getfield 129, 3) := by decide +kernel
theorem dX10_looseRefusal_16 : decode cX10_looseRefusal 16 = .ok (.bipush 8, 2) := by decide +kernel
theorem dX10_looseRefusal_18 : decode cX10_looseRefusal 18 = .ok (.if_icmp .le 8, 3) := by decide +kernel
theorem dX10_looseRefusal_21 : decode cX10_looseRefusal 21 = .ok (.bipush (-4), 2) := by decide +kernel
theorem dX10_looseRefusal_23 : decode cX10_looseRefusal 23 = .ok (.goto 4, 3) := by decide +kernel
theorem dX10_looseRefusal_26 : decode cX10_looseRefusal 26 = .ok (.iconst 0, 1) := by decide +kernel
theorem dX10_looseRefusal_27 : decode cX10_looseRefusal 27 = .ok (.ireturn, 1) := by decide +kernel
theorem dX10_isDrawing_0 : decode cX10_isDrawing 0 = .ok (.iload_n 0, 1) := by decide +kernel
theorem dX10_isDrawing_1 : decode cX10_isDrawing 1 = .ok (.iconst 1, 1) := by decide +kernel
theorem dX10_isDrawing_2 : decode cX10_isDrawing 2 = .ok (.bipush 99, 2) := by decide +kernel
theorem dX10_isDrawing_4 : decode cX10_isDrawing 4 = .ok (.invokestatic 75, 3) := by decide +kernel
theorem dX10_isDrawing_7 : decode cX10_isDrawing 7 = .ok (.ifCond .eq 17, 3) := by decide +kernel
theorem dX10_isDrawing_10 : decode cX10_isDrawing 10 = .ok (.iload_n 1, 1) := by decide +kernel
theorem dX10_isDrawing_11 : decode cX10_isDrawing 11 = .ok (.iconst 1, 1) := by decide +kernel
theorem dX10_isDrawing_12 : decode cX10_isDrawing 12 = .ok (.bipush 99, 2) := by decide +kernel
theorem dX10_isDrawing_14 : decode cX10_isDrawing 14 = .ok (.invokestatic 75, 3) := by decide +kernel
theorem dX10_isDrawing_17 : decode cX10_isDrawing 17 = .ok (.ifCond .eq 7, 3) := by decide +kernel
theorem dX10_isDrawing_20 : decode cX10_isDrawing 20 = .ok (.iconst 1, 1) := by decide +kernel
theorem dX10_isDrawing_21 : decode cX10_isDrawing 21 = .ok (.goto 4, 3) := by decide +kernel
theorem dX10_isDrawing_24 : decode cX10_isDrawing 24 = .ok (.iconst 0, 1) := by decide +kernel
theorem dX10_isDrawing_25 : decode cX10_isDrawing 25 = .ok (.ireturn, 1) := by decide +kernel
theorem dX10_slitWorth_0 : decode cX10_slitWorth 0 = .ok (.iload_n 0, 1) := by decide +kernel
theorem dX10_slitWorth_1 : decode cX10_slitWorth 1 = .ok (.iload_n 2, 1) := by decide +kernel
theorem dX10_slitWorth_2 : decode cX10_slitWorth 2 = .ok (.imul, 1) := by decide +kernel
theorem dX10_slitWorth_3 : decode cX10_slitWorth 3 = .ok (.iload_n 1, 1) := by decide +kernel
theorem dX10_slitWorth_4 : decode cX10_slitWorth 4 = .ok (.iload_n 2, 1) := by decide +kernel
theorem dX10_slitWorth_5 : decode cX10_slitWorth 5 = .ok (.imul, 1) := by decide +kernel
theorem dX10_slitWorth_6 : decode cX10_slitWorth 6 = .ok (.iload_n 2, 1) := by decide +kernel
theorem dX10_slitWorth_7 : decode cX10_slitWorth 7 = .ok (.imul, 1) := by decide +kernel
theorem dX10_slitWorth_8 : decode cX10_slitWorth 8 = .ok (.isub, 1) := by decide +kernel
theorem dX10_slitWorth_9 : decode cX10_slitWorth 9 = .ok (.ireturn, 1) := by decide +kernel
theorem dX11_init_0 : decode cX11_init 0 = .ok (.aload_n 0, 1) := by decide +kernel
theorem dX11_init_1 : decode cX11_init 1 = .ok (.invokespecial 1, 3) := by decide +kernel
theorem dX11_init_4 : decode cX11_init 4 = .ok (.aload_n 0, 1) := by decide +kernel
theorem dX11_init_5 : decode cX11_init 5 = .ok (.sipush 160, 3) := by decide +kernel
theorem dX11_init_8 : decode cX11_init 8 = .ok (.newarray .int, 2) := by decide +kernel
theorem dX11_init_10 : decode cX11_init 10 = .ok (.putfield 7, 3) := by decide +kernel
theorem dX11_init_13 : decode cX11_init 13 = .ok (.aload_n 0, 1) := by decide +kernel
theorem dX11_init_14 : decode cX11_init 14 = .ok (.iconst 2, 1) := by decide +kernel
theorem dX11_init_15 : decode cX11_init 15 = .ok (.newarray .int, 2) := by decide +kernel
theorem dX11_init_17 : decode cX11_init 17 = .ok (.putfield 13, 3) := by decide +kernel
theorem dX11_init_20 : decode cX11_init 20 = .ok (.aload_n 0, 1) := by decide +kernel
theorem dX11_init_21 : decode cX11_init 21 = .ok (.iconst 2, 1) := by decide +kernel
theorem dX11_init_22 : decode cX11_init 22 = .ok (.newarray .int, 2) := by decide +kernel
theorem dX11_init_24 : decode cX11_init 24 = .ok (.putfield 16, 3) := by decide +kernel
theorem dX11_init_27 : decode cX11_init 27 = .ok (.aload_n 0, 1) := by decide +kernel
theorem dX11_init_28 : decode cX11_init 28 = .ok (.bipush 100, 2) := by decide +kernel
theorem dX11_init_30 : decode cX11_init 30 = .ok (.newarray .int, 2) := by decide +kernel
theorem dX11_init_32 : decode cX11_init 32 = .ok (.putfield 19, 3) := by decide +kernel
theorem dX11_init_35 : decode cX11_init 35 = .ok (.aload_n 0, 1) := by decide +kernel
theorem dX11_init_36 : decode cX11_init 36 = .ok (.iconst 2, 1) := by decide +kernel
theorem dX11_init_37 : decode cX11_init 37 = .ok (.newarray .int, 2) := by decide +kernel
theorem dX11_init_39 : decode cX11_init 39 = .ok (.putfield 22, 3) := by decide +kernel
theorem dX11_init_42 : decode cX11_init 42 = .ok (.aload_n 0, 1) := by decide +kernel
theorem dX11_init_43 : decode cX11_init 43 = .ok (.iconst 2, 1) := by decide +kernel
theorem dX11_init_44 : decode cX11_init 44 = .ok (.newarray .int, 2) := by decide +kernel
theorem dX11_init_46 : decode cX11_init 46 = .ok (.putfield 25, 3) := by decide +kernel
theorem dX11_init_49 : decode cX11_init 49 = .ok (.aload_n 0, 1) := by decide +kernel
theorem dX11_init_50 : decode cX11_init 50 = .ok (.bipush 12, 2) := by decide +kernel
theorem dX11_init_52 : decode cX11_init 52 = .ok (.newarray .int, 2) := by decide +kernel
theorem dX11_init_54 : decode cX11_init 54 = .ok (.putfield 28, 3) := by decide +kernel
theorem dX11_init_57 : decode cX11_init 57 = .ok (.aload_n 0, 1) := by decide +kernel
theorem dX11_init_58 : decode cX11_init 58 = .ok (.bipush 12, 2) := by decide +kernel
theorem dX11_init_60 : decode cX11_init 60 = .ok (.newarray .int, 2) := by decide +kernel
theorem dX11_init_62 : decode cX11_init 62 = .ok (.putfield 31, 3) := by decide +kernel
theorem dX11_init_65 : decode cX11_init 65 = .ok (.aload_n 0, 1) := by decide +kernel
theorem dX11_init_66 : decode cX11_init 66 = .ok (.bipush 12, 2) := by decide +kernel
theorem dX11_init_68 : decode cX11_init 68 = .ok (.newarray .int, 2) := by decide +kernel
theorem dX11_init_70 : decode cX11_init 70 = .ok (.putfield 34, 3) := by decide +kernel
theorem dX11_init_73 : decode cX11_init 73 = .ok (.aload_n 0, 1) := by decide +kernel
theorem dX11_init_74 : decode cX11_init 74 = .ok (.bipush 12, 2) := by decide +kernel
theorem dX11_init_76 : decode cX11_init 76 = .ok (.newarray .int, 2) := by decide +kernel
theorem dX11_init_78 : decode cX11_init 78 = .ok (.putfield 37, 3) := by decide +kernel
theorem dX11_init_81 : decode cX11_init 81 = .ok (.aload_n 0, 1) := by decide +kernel
theorem dX11_init_82 : decode cX11_init 82 = .ok (.bipush 40, 2) := by decide +kernel
theorem dX11_init_84 : decode cX11_init 84 = .ok (.newarray .int, 2) := by decide +kernel
theorem dX11_init_86 : decode cX11_init 86 = .ok (.putfield 40, 3) := by decide +kernel
theorem dX11_init_89 : decode cX11_init 89 = .ok (.aload_n 0, 1) := by decide +kernel
theorem dX11_init_90 : decode cX11_init 90 = .ok (.bipush 40, 2) := by decide +kernel
theorem dX11_init_92 : decode cX11_init 92 = .ok (.newarray .int, 2) := by decide +kernel
theorem dX11_init_94 : decode cX11_init 94 = .ok (.putfield 43, 3) := by decide +kernel
theorem dX11_init_97 : decode cX11_init 97 = .ok (.aload_n 0, 1) := by decide +kernel
theorem dX11_init_98 : decode cX11_init 98 = .ok (.bipush 40, 2) := by decide +kernel
theorem dX11_init_100 : decode cX11_init 100 = .ok (.newarray .int, 2) := by decide +kernel
theorem dX11_init_102 : decode cX11_init 102 = .ok (.putfield 46, 3) := by decide +kernel
theorem dX11_init_105 : decode cX11_init 105 = .ok (.aload_n 0, 1) := by decide +kernel
theorem dX11_init_106 : decode cX11_init 106 = .ok (.iconst 4, 1) := by decide +kernel
theorem dX11_init_107 : decode cX11_init 107 = .ok (.newarray .boolean, 2) := by decide +kernel
theorem dX11_init_109 : decode cX11_init 109 = .ok (.putfield 49, 3) := by decide +kernel
theorem dX11_init_112 : decode cX11_init 112 = .ok (.aload_n 0, 1) := by decide +kernel
theorem dX11_init_113 : decode cX11_init 113 = .ok (.iconst 4, 1) := by decide +kernel
theorem dX11_init_114 : decode cX11_init 114 = .ok (.newarray .int, 2) := by decide +kernel
theorem dX11_init_116 : decode cX11_init 116 = .ok (.putfield 53, 3) := by decide +kernel
theorem dX11_init_119 : decode cX11_init 119 = .ok (.aload_n 0, 1) := by decide +kernel
theorem dX11_init_120 : decode cX11_init 120 = .ok (.iconst 4, 1) := by decide +kernel
theorem dX11_init_121 : decode cX11_init 121 = .ok (.newarray .int, 2) := by decide +kernel
theorem dX11_init_123 : decode cX11_init 123 = .ok (.putfield 56, 3) := by decide +kernel
theorem dX11_init_126 : decode cX11_init 126 = .ok (.aload_n 0, 1) := by decide +kernel
theorem dX11_init_127 : decode cX11_init 127 = .ok (.sipush 240, 3) := by decide +kernel
theorem dX11_init_130 : decode cX11_init 130 = .ok (.newarray .int, 2) := by decide +kernel
theorem dX11_init_132 : decode cX11_init 132 = .ok (.putfield 59, 3) := by decide +kernel
theorem dX11_init_135 : decode cX11_init 135 = .ok (.aload_n 0, 1) := by decide +kernel
theorem dX11_init_136 : decode cX11_init 136 = .ok (.bipush 60, 2) := by decide +kernel
theorem dX11_init_138 : decode cX11_init 138 = .ok (.newarray .int, 2) := by decide +kernel
theorem dX11_init_140 : decode cX11_init 140 = .ok (.putfield 62, 3) := by decide +kernel
theorem dX11_init_143 : decode cX11_init 143 = .ok (.aload_n 0, 1) := by decide +kernel
theorem dX11_init_144 : decode cX11_init 144 = .ok (.getfield 22, 3) := by decide +kernel
theorem dX11_init_147 : decode cX11_init 147 = .ok (.iconst 0, 1) := by decide +kernel
theorem dX11_init_148 : decode cX11_init 148 = .ok (.iconst 3, 1) := by decide +kernel
theorem dX11_init_149 : decode cX11_init 149 = .ok (.iastore, 1) := by decide +kernel
theorem dX11_init_150 : decode cX11_init 150 = .ok (.aload_n 0, 1) := by decide +kernel
theorem dX11_init_151 : decode cX11_init 151 = .ok (.getfield 22, 3) := by decide +kernel
theorem dX11_init_154 : decode cX11_init 154 = .ok (.iconst 1, 1) := by decide +kernel
theorem dX11_init_155 : decode cX11_init 155 = .ok (.bipush 10, 2) := by decide +kernel
theorem dX11_init_157 : decode cX11_init 157 = .ok (.iastore, 1) := by decide +kernel
theorem dX11_init_158 : decode cX11_init 158 = .ok (.return_, 1) := by decide +kernel
theorem dX11_in_0 : decode cX11_in 0 = .ok (.iload_n 0, 1) := by decide +kernel
theorem dX11_in_1 : decode cX11_in 1 = .ok (.iload_n 1, 1) := by decide +kernel
theorem dX11_in_2 : decode cX11_in 2 = .ok (.if_icmp .lt 12, 3) := by decide +kernel
theorem dX11_in_5 : decode cX11_in 5 = .ok (.iload_n 0, 1) := by decide +kernel
theorem dX11_in_6 : decode cX11_in 6 = .ok (.iload_n 2, 1) := by decide +kernel
theorem dX11_in_7 : decode cX11_in 7 = .ok (.if_icmp .gt 7, 3) := by decide +kernel
theorem dX11_in_10 : decode cX11_in 10 = .ok (.iconst 1, 1) := by decide +kernel
theorem dX11_in_11 : decode cX11_in 11 = .ok (.goto 4, 3) := by decide +kernel
theorem dX11_in_14 : decode cX11_in 14 = .ok (.iconst 0, 1) := by decide +kernel
theorem dX11_in_15 : decode cX11_in 15 = .ok (.ireturn, 1) := by decide +kernel
theorem dX11_isIn_0 : decode cX11_isIn 0 = .ok (.iload_n 0, 1) := by decide +kernel
theorem dX11_isIn_1 : decode cX11_isIn 1 = .ok (.iload_n 1, 1) := by decide +kernel
theorem dX11_isIn_2 : decode cX11_isIn 2 = .ok (.ishr, 1) := by decide +kernel
theorem dX11_isIn_3 : decode cX11_isIn 3 = .ok (.iconst 1, 1) := by decide +kernel
theorem dX11_isIn_4 : decode cX11_isIn 4 = .ok (.iand, 1) := by decide +kernel
theorem dX11_isIn_5 : decode cX11_isIn 5 = .ok (.iconst 1, 1) := by decide +kernel
theorem dX11_isIn_6 : decode cX11_isIn 6 = .ok (.if_icmp .ne 7, 3) := by decide +kernel
theorem dX11_isIn_9 : decode cX11_isIn 9 = .ok (.iconst 1, 1) := by decide +kernel
theorem dX11_isIn_10 : decode cX11_isIn 10 = .ok (.goto 4, 3) := by decide +kernel
theorem dX11_isIn_13 : decode cX11_isIn 13 = .ok (.iconst 0, 1) := by decide +kernel
theorem dX11_isIn_14 : decode cX11_isIn 14 = .ok (.ireturn, 1) := by decide +kernel
theorem dX11_ones_0 : decode cX11_ones 0 = .ok (.iconst 0, 1) := by decide +kernel
theorem dX11_ones_1 : decode cX11_ones 1 = .ok (.istore_n 1, 1) := by decide +kernel
theorem dX11_ones_2 : decode cX11_ones 2 = .ok (.iconst 0, 1) := by decide +kernel
theorem dX11_ones_3 : decode cX11_ones 3 = .ok (.istore_n 2, 1) := by decide +kernel
theorem dX11_ones_4 : decode cX11_ones 4 = .ok (.iload_n 2, 1) := by decide +kernel
theorem dX11_ones_5 : decode cX11_ones 5 = .ok (.bipush 12, 2) := by decide +kernel
theorem dX11_ones_7 : decode cX11_ones 7 = .ok (.if_icmp .ge 17, 3) := by decide +kernel
theorem dX11_ones_10 : decode cX11_ones 10 = .ok (.iload_n 1, 1) := by decide +kernel
theorem dX11_ones_11 : decode cX11_ones 11 = .ok (.iload_n 0, 1) := by decide +kernel
theorem dX11_ones_12 : decode cX11_ones 12 = .ok (.iload_n 2, 1) := by decide +kernel
theorem dX11_ones_13 : decode cX11_ones 13 = .ok (.ishr, 1) := by decide +kernel
theorem dX11_ones_14 : decode cX11_ones 14 = .ok (.iconst 1, 1) := by decide +kernel
theorem dX11_ones_15 : decode cX11_ones 15 = .ok (.iand, 1) := by decide +kernel
theorem dX11_ones_16 : decode cX11_ones 16 = .ok (.iadd, 1) := by decide +kernel
theorem dX11_ones_17 : decode cX11_ones 17 = .ok (.istore_n 1, 1) := by decide +kernel
theorem dX11_ones_18 : decode cX11_ones 18 = .ok (.iinc 2 1, 3) := by decide +kernel
theorem dX11_ones_21 : decode cX11_ones 21 = .ok (.goto (-17), 3) := by decide +kernel
theorem dX11_ones_24 : decode cX11_ones 24 = .ok (.iload_n 1, 1) := by decide +kernel
theorem dX11_ones_25 : decode cX11_ones 25 = .ok (.ireturn, 1) := by decide +kernel
theorem dX11_amount_0 : decode cX11_amount 0 = .ok (.iload_n 0, 1) := by decide +kernel
theorem dX11_amount_1 : decode cX11_amount 1 = .ok (.ifCond .ge 8, 3) := by decide +kernel
theorem dX11_amount_4 : decode cX11_amount 4 = .ok (.iload_n 0, 1) := by decide +kernel
theorem dX11_amount_5 : decode cX11_amount 5 = .ok (.ineg, 1) := by decide +kernel
theorem dX11_amount_6 : decode cX11_amount 6 = .ok (.goto 4, 3) := by decide +kernel
theorem dX11_amount_9 : decode cX11_amount 9 = .ok (.iload_n 0, 1) := by decide +kernel
theorem dX11_amount_10 : decode cX11_amount 10 = .ok (.ireturn, 1) := by decide +kernel
theorem dX11_no_0 : decode cX11_no 0 = .ok (.ldc2_w 65, 3) := by decide +kernel
theorem dX11_no_3 : decode cX11_no 3 = .ok (.iload_n 0, 1) := by decide +kernel
theorem dX11_no_4 : decode cX11_no 4 = .ok (.i2l, 1) := by decide +kernel
theorem dX11_no_5 : decode cX11_no 5 = .ok (.lsub, 1) := by decide +kernel
theorem dX11_no_6 : decode cX11_no 6 = .ok (.lreturn, 1) := by decide +kernel
theorem dX11_common_0 : decode cX11_common 0 = .ok (.iload_n 0, 1) := by decide +kernel
theorem dX11_common_1 : decode cX11_common 1 = .ok (.istore_n 2, 1) := by decide +kernel
theorem dX11_common_2 : decode cX11_common 2 = .ok (.iload_n 1, 1) := by decide +kernel
theorem dX11_common_3 : decode cX11_common 3 = .ok (.istore_n 3, 1) := by decide +kernel
theorem dX11_common_4 : decode cX11_common 4 = .ok (.iload_n 3, 1) := by decide +kernel
theorem dX11_common_5 : decode cX11_common 5 = .ok (.ifCond .eq 16, 3) := by decide +kernel
theorem dX11_common_8 : decode cX11_common 8 = .ok (.iload_n 2, 1) := by decide +kernel
theorem dX11_common_9 : decode cX11_common 9 = .ok (.iload_n 3, 1) := by decide +kernel
theorem dX11_common_10 : decode cX11_common 10 = .ok (.irem, 1) := by decide +kernel
theorem dX11_common_11 : decode cX11_common 11 = .ok (.istore 4, 2) := by decide +kernel
theorem dX11_common_13 : decode cX11_common 13 = .ok (.iload_n 3, 1) := by decide +kernel
theorem dX11_common_14 : decode cX11_common 14 = .ok (.istore_n 2, 1) := by decide +kernel
theorem dX11_common_15 : decode cX11_common 15 = .ok (.iload 4, 2) := by decide +kernel
theorem dX11_common_17 : decode cX11_common 17 = .ok (.istore_n 3, 1) := by decide +kernel
theorem dX11_common_18 : decode cX11_common 18 = .ok (.goto (-14), 3) := by decide +kernel
theorem dX11_common_21 : decode cX11_common 21 = .ok (.iload_n 2, 1) := by decide +kernel
theorem dX11_common_22 : decode cX11_common 22 = .ok (.ireturn, 1) := by decide +kernel
theorem dX11_lowest_0 : decode cX11_lowest 0 = .ok (.iload_n 0, 1) := by decide +kernel
theorem dX11_lowest_1 : decode cX11_lowest 1 = .ok (.invokestatic 67, 3) := by decide +kernel
theorem dX11_lowest_4 : decode cX11_lowest 4 = .ok (.iload_n 1, 1) := by decide +kernel
theorem dX11_lowest_5 : decode cX11_lowest 5 = .ok (.invokestatic 71, 3) := by decide +kernel
theorem dX11_lowest_8 : decode cX11_lowest 8 = .ok (.istore_n 3, 1) := by decide +kernel
theorem dX11_lowest_9 : decode cX11_lowest 9 = .ok (.iload_n 2, 1) := by decide +kernel
theorem dX11_lowest_10 : decode cX11_lowest 10 = .ok (.ifCond .ne 10, 3) := by decide +kernel
theorem dX11_lowest_13 : decode cX11_lowest 13 = .ok (.iload_n 0, 1) := by decide +kernel
theorem dX11_lowest_14 : decode cX11_lowest 14 = .ok (.iload_n 3, 1) := by decide +kernel
theorem dX11_lowest_15 : decode cX11_lowest 15 = .ok (.idiv, 1) := by decide +kernel
theorem dX11_lowest_16 : decode cX11_lowest 16 = .ok (.i2l, 1) := by decide +kernel
theorem dX11_lowest_17 : decode cX11_lowest 17 = .ok (.goto 7, 3) := by decide +kernel
theorem dX11_lowest_20 : decode cX11_lowest 20 = .ok (.iload_n 1, 1) := by decide +kernel
theorem dX11_lowest_21 : decode cX11_lowest 21 = .ok (.iload_n 3, 1) := by decide +kernel
theorem dX11_lowest_22 : decode cX11_lowest 22 = .ok (.idiv, 1) := by decide +kernel
theorem dX11_lowest_23 : decode cX11_lowest 23 = .ok (.i2l, 1) := by decide +kernel
theorem dX11_lowest_24 : decode cX11_lowest 24 = .ok (.lreturn, 1) := by decide +kernel
theorem dX11_nearest_0 : decode cX11_nearest 0 = .ok (.iconst 2, 1) := by decide +kernel
theorem dX11_nearest_1 : decode cX11_nearest 1 = .ok (.iload_n 0, 1) := by decide +kernel
theorem dX11_nearest_2 : decode cX11_nearest 2 = .ok (.imul, 1) := by decide +kernel
theorem dX11_nearest_3 : decode cX11_nearest 3 = .ok (.iload_n 1, 1) := by decide +kernel
theorem dX11_nearest_4 : decode cX11_nearest 4 = .ok (.iadd, 1) := by decide +kernel
theorem dX11_nearest_5 : decode cX11_nearest 5 = .ok (.iconst 1, 1) := by decide +kernel
theorem dX11_nearest_6 : decode cX11_nearest 6 = .ok (.isub, 1) := by decide +kernel
theorem dX11_nearest_7 : decode cX11_nearest 7 = .ok (.iconst 2, 1) := by decide +kernel
theorem dX11_nearest_8 : decode cX11_nearest 8 = .ok (.iload_n 1, 1) := by decide +kernel
theorem dX11_nearest_9 : decode cX11_nearest 9 = .ok (.imul, 1) := by decide +kernel
theorem dX11_nearest_10 : decode cX11_nearest 10 = .ok (.idiv, 1) := by decide +kernel
theorem dX11_nearest_11 : decode cX11_nearest 11 = .ok (.ireturn, 1) := by decide +kernel
theorem dX11_isStrip_0 : decode cX11_isStrip 0 = .ok (.iload_n 0, 1) := by decide +kernel
theorem dX11_isStrip_1 : decode cX11_isStrip 1 = .ok (.iconst 0, 1) := by decide +kernel
theorem dX11_isStrip_2 : decode cX11_isStrip 2 = .ok (.iconst 1, 1) := by decide +kernel
theorem dX11_isStrip_3 : decode cX11_isStrip 3 = .ok (.invokestatic 75, 3) := by decide +kernel
theorem dX11_isStrip_6 : decode cX11_isStrip 6 = .ok (.ireturn, 1) := by decide +kernel
theorem dX11_type_0 : decode cX11_type 0 = .ok (.iload_n 1, 1) := by decide +kernel
theorem dX11_type_1 : decode cX11_type 1 = .ok (.invokestatic 79, 3) := by decide +kernel
theorem dX11_type_4 : decode cX11_type 4 = .ok (.ifCond .eq 14, 3) := by decide +kernel
theorem dX11_type_7 : decode cX11_type 7 = .ok (.iload_n 2, 1) := by decide +kernel
theorem dX11_type_8 : decode cX11_type 8 = .ok (.iconst 0, 1) := by decide +kernel
theorem dX11_type_9 : decode cX11_type 9 = .ok (.sipush 255, 3) := by decide +kernel
theorem dX11_type_12 : decode cX11_type 12 = .ok (.invokestatic 75, 3) := by decide +kernel
theorem dX11_type_15 : decode cX11_type 15 = .ok (.ifCond .ne 6, 3) := by decide +kernel
theorem dX11_type_18 : decode cX11_type 18 = .ok (.bipush (-2), 2) := by decide +kernel
theorem dX11_type_20 : decode cX11_type 20 = .ok (.ireturn, 1) := by decide +kernel
theorem dX11_type_21 : decode cX11_type 21 = .ok (.aload_n 0, 1) := by decide +kernel
theorem dX11_type_22 : decode cX11_type 22 = .ok (.getfield 13, 3) := by decide +kernel
theorem dX11_type_25 : decode cX11_type 25 = .ok (.iload_n 1, 1) := by decide +kernel
theorem dX11_type_26 : decode cX11_type 26 = .ok (.iaload, 1) := by decide +kernel
theorem dX11_type_27 : decode cX11_type 27 = .ok (.bipush 80, 2) := by decide +kernel
theorem dX11_type_29 : decode cX11_type 29 = .ok (.if_icmp .ne 6, 3) := by decide +kernel
theorem dX11_type_32 : decode cX11_type 32 = .ok (.bipush (-4), 2) := by decide +kernel
theorem dX11_type_34 : decode cX11_type 34 = .ok (.ireturn, 1) := by decide +kernel
theorem dX11_type_35 : decode cX11_type 35 = .ok (.aload_n 0, 1) := by decide +kernel
theorem dX11_type_36 : decode cX11_type 36 = .ok (.getfield 7, 3) := by decide +kernel
theorem dX11_type_39 : decode cX11_type 39 = .ok (.bipush 80, 2) := by decide +kernel
theorem dX11_type_41 : decode cX11_type 41 = .ok (.iload_n 1, 1) := by decide +kernel
theorem dX11_type_42 : decode cX11_type 42 = .ok (.imul, 1) := by decide +kernel
theorem dX11_type_43 : decode cX11_type 43 = .ok (.aload_n 0, 1) := by decide +kernel
theorem dX11_type_44 : decode cX11_type 44 = .ok (.getfield 13, 3) := by decide +kernel
theorem dX11_type_47 : decode cX11_type 47 = .ok (.iload_n 1, 1) := by decide +kernel
theorem dX11_type_48 : decode cX11_type 48 = .ok (.iaload, 1) := by decide +kernel
theorem dX11_type_49 : decode cX11_type 49 = .ok (.iadd, 1) := by decide +kernel
theorem dX11_type_50 : decode cX11_type 50 = .ok (.iload_n 2, 1) := by decide +kernel
theorem dX11_type_51 : decode cX11_type 51 = .ok (.iastore, 1) := by decide +kernel
theorem dX11_type_52 : decode cX11_type 52 = .ok (.aload_n 0, 1) := by decide +kernel
theorem dX11_type_53 : decode cX11_type 53 = .ok (.getfield 13, 3) := by decide +kernel
theorem dX11_type_56 : decode cX11_type 56 = .ok (.iload_n 1, 1) := by decide +kernel
theorem dX11_type_57 : decode cX11_type 57 = .ok (.dup2, 1) := by decide +kernel
theorem dX11_type_58 : decode cX11_type 58 = .ok (.iaload, 1) := by decide +kernel
theorem dX11_type_59 : decode cX11_type 59 = .ok (.iconst 1, 1) := by decide +kernel
theorem dX11_type_60 : decode cX11_type 60 = .ok (.iadd, 1) := by decide +kernel
theorem dX11_type_61 : decode cX11_type 61 = .ok (.iastore, 1) := by decide +kernel
theorem dX11_type_62 : decode cX11_type 62 = .ok (.aload_n 0, 1) := by decide +kernel
theorem dX11_type_63 : decode cX11_type 63 = .ok (.getfield 13, 3) := by decide +kernel
theorem dX11_type_66 : decode cX11_type 66 = .ok (.iload_n 1, 1) := by decide +kernel
theorem dX11_type_67 : decode cX11_type 67 = .ok (.iaload, 1) := by decide +kernel
theorem dX11_type_68 : decode cX11_type 68 = .ok (.ireturn, 1) := by decide +kernel
theorem dX11_wipe_0 : decode cX11_wipe 0 = .ok (.iload_n 1, 1) := by decide +kernel
theorem dX11_wipe_1 : decode cX11_wipe 1 = .ok (.invokestatic 79, 3) := by decide +kernel
theorem dX11_wipe_4 : decode cX11_wipe 4 = .ok (.ifCond .ne 6, 3) := by decide +kernel
theorem dX11_wipe_7 : decode cX11_wipe 7 = .ok (.bipush (-2), 2) := by decide +kernel
theorem dX11_wipe_9 : decode cX11_wipe 9 = .ok (.ireturn, 1) := by decide +kernel
theorem dX11_wipe_10 : decode cX11_wipe 10 = .ok (.aload_n 0, 1) := by decide +kernel
theorem dX11_wipe_11 : decode cX11_wipe 11 = .ok (.getfield 13, 3) := by decide +kernel
theorem dX11_wipe_14 : decode cX11_wipe 14 = .ok (.iload_n 1, 1) := by decide +kernel
theorem dX11_wipe_15 : decode cX11_wipe 15 = .ok (.iaload, 1) := by decide +kernel
theorem dX11_wipe_16 : decode cX11_wipe 16 = .ok (.istore_n 2, 1) := by decide +kernel
theorem dX11_wipe_17 : decode cX11_wipe 17 = .ok (.aload_n 0, 1) := by decide +kernel
theorem dX11_wipe_18 : decode cX11_wipe 18 = .ok (.getfield 13, 3) := by decide +kernel
theorem dX11_wipe_21 : decode cX11_wipe 21 = .ok (.iload_n 1, 1) := by decide +kernel
theorem dX11_wipe_22 : decode cX11_wipe 22 = .ok (.iconst 0, 1) := by decide +kernel
theorem dX11_wipe_23 : decode cX11_wipe 23 = .ok (.iastore, 1) := by decide +kernel
theorem dX11_wipe_24 : decode cX11_wipe 24 = .ok (.iload_n 2, 1) := by decide +kernel
theorem dX11_wipe_25 : decode cX11_wipe 25 = .ok (.ireturn, 1) := by decide +kernel
theorem dX11_byteAt_0 : decode cX11_byteAt 0 = .ok (.iload_n 2, 1) := by decide +kernel
theorem dX11_byteAt_1 : decode cX11_byteAt 1 = .ok (.aload_n 0, 1) := by decide +kernel
theorem dX11_byteAt_2 : decode cX11_byteAt 2 = .ok (.getfield 13, 3) := by decide +kernel
theorem dX11_byteAt_5 : decode cX11_byteAt 5 = .ok (.iload_n 1, 1) := by decide +kernel
theorem dX11_byteAt_6 : decode cX11_byteAt 6 = .ok (.iaload, 1) := by decide +kernel
theorem dX11_byteAt_7 : decode cX11_byteAt 7 = .ok (.if_icmp .ge 17, 3) := by decide +kernel
theorem dX11_byteAt_10 : decode cX11_byteAt 10 = .ok (.aload_n 0, 1) := by decide +kernel
theorem dX11_byteAt_11 : decode cX11_byteAt 11 = .ok (.getfield 7, 3) := by decide +kernel
theorem dX11_byteAt_14 : decode cX11_byteAt 14 = .ok (.bipush 80, 2) := by decide +kernel
theorem dX11_byteAt_16 : decode cX11_byteAt 16 = .ok (.iload_n 1, 1) := by decide +kernel
theorem dX11_byteAt_17 : decode cX11_byteAt 17 = .ok (.imul, 1) := by decide +kernel
theorem dX11_byteAt_18 : decode cX11_byteAt 18 = .ok (.iload_n 2, 1) := by decide +kernel
theorem dX11_byteAt_19 : decode cX11_byteAt 19 = .ok (.iadd, 1) := by decide +kernel
theorem dX11_byteAt_20 : decode cX11_byteAt 20 = .ok (.iaload, 1) := by decide +kernel
theorem dX11_byteAt_21 : decode cX11_byteAt 21 = .ok (.goto 4, 3) := by decide +kernel
theorem dX11_byteAt_24 : decode cX11_byteAt 24 = .ok (.iconst (-1), 1) := by decide +kernel
theorem dX11_byteAt_25 : decode cX11_byteAt 25 = .ok (.ireturn, 1) := by decide +kernel
theorem dX11_faultNow_0 : decode cX11_faultNow 0 = .ok (.aload_n 0, 1) := by decide +kernel
theorem dX11_faultNow_1 : decode cX11_faultNow 1 = .ok (.getfield 16, 3) := by decide +kernel
theorem dX11_faultNow_4 : decode cX11_faultNow 4 = .ok (.iload_n 1, 1) := by decide +kernel
theorem dX11_faultNow_5 : decode cX11_faultNow 5 = .ok (.iconst 0, 1) := by decide +kernel
theorem dX11_faultNow_6 : decode cX11_faultNow 6 = .ok (.iastore, 1) := by decide +kernel
theorem dX11_faultNow_7 : decode cX11_faultNow 7 = .ok (.iconst 0, 1) := by decide +kernel
theorem dX11_faultNow_8 : decode cX11_faultNow 8 = .ok (.istore_n 2, 1) := by decide +kernel
theorem dX11_faultNow_9 : decode cX11_faultNow 9 = .ok (.iconst 0, 1) := by decide +kernel
theorem dX11_faultNow_10 : decode cX11_faultNow 10 = .ok (.istore_n 3, 1) := by decide +kernel
theorem dX11_faultNow_11 : decode cX11_faultNow 11 = .ok (.iload_n 3, 1) := by decide +kernel
theorem dX11_faultNow_12 : decode cX11_faultNow 12 = .ok (.aload_n 0, 1) := by decide +kernel
theorem dX11_faultNow_13 : decode cX11_faultNow 13 = .ok (.getfield 13, 3) := by decide +kernel
theorem dX11_faultNow_16 : decode cX11_faultNow 16 = .ok (.iload_n 1, 1) := by decide +kernel
theorem dX11_faultNow_17 : decode cX11_faultNow 17 = .ok (.iaload, 1) := by decide +kernel
theorem dX11_faultNow_18 : decode cX11_faultNow 18 = .ok (.if_icmp .lt 7, 3) := by decide +kernel
theorem dX11_faultNow_21 : decode cX11_faultNow 21 = .ok (.iload_n 3, 1) := by decide +kernel
theorem dX11_faultNow_22 : decode cX11_faultNow 22 = .ok (.ifCond .le 131, 3) := by decide +kernel
theorem dX11_faultNow_25 : decode cX11_faultNow 25 = .ok (.iload_n 2, 1) := by decide +kernel
theorem dX11_faultNow_26 : decode cX11_faultNow 26 = .ok (.bipush 12, 2) := by decide +kernel
theorem dX11_faultNow_28 : decode cX11_faultNow 28 = .ok (.if_icmp .ne 5, 3) := by decide +kernel
theorem dX11_faultNow_31 : decode cX11_faultNow 31 = .ok (.iload_n 3, 1) := by decide +kernel
theorem dX11_faultNow_32 : decode cX11_faultNow 32 = .ok (.ireturn, 1) := by decide +kernel
theorem dX11_faultNow_33 : decode cX11_faultNow 33 = .ok (.iconst 0, 1) := by decide +kernel
theorem dX11_faultNow_34 : decode cX11_faultNow 34 = .ok (.istore 4, 2) := by decide +kernel
theorem dX11_faultNow_36 : decode cX11_faultNow 36 = .ok (.iload 4, 2) := by decide +kernel
theorem dX11_faultNow_38 : decode cX11_faultNow 38 = .ok (.iconst 4, 1) := by decide +kernel
theorem dX11_faultNow_39 : decode cX11_faultNow 39 = .ok (.if_icmp .ge 73, 3) := by decide +kernel
theorem dX11_faultNow_42 : decode cX11_faultNow 42 = .ok (.aload_n 0, 1) := by decide +kernel
theorem dX11_faultNow_43 : decode cX11_faultNow 43 = .ok (.iload_n 1, 1) := by decide +kernel
theorem dX11_faultNow_44 : decode cX11_faultNow 44 = .ok (.iload_n 3, 1) := by decide +kernel
theorem dX11_faultNow_45 : decode cX11_faultNow 45 = .ok (.invokevirtual 83, 3) := by decide +kernel
theorem dX11_faultNow_48 : decode cX11_faultNow 48 = .ok (.istore 5, 2) := by decide +kernel
theorem dX11_faultNow_50 : decode cX11_faultNow 50 = .ok (.iload 5, 2) := by decide +kernel
theorem dX11_faultNow_52 : decode cX11_faultNow 52 = .ok (.bipush 45, 2) := by decide +kernel
theorem dX11_faultNow_54 : decode cX11_faultNow 54 = .ok (.if_icmp .eq 17, 3) := by decide +kernel
theorem dX11_faultNow_57 : decode cX11_faultNow 57 = .ok (.iload 5, 2) := by decide +kernel
theorem dX11_faultNow_59 : decode cX11_faultNow 59 = .ok (.bipush 48, 2) := by decide +kernel
theorem dX11_faultNow_61 : decode cX11_faultNow 61 = .ok (.bipush 57, 2) := by decide +kernel
theorem dX11_faultNow_63 : decode cX11_faultNow 63 = .ok (.invokestatic 75, 3) := by decide +kernel
theorem dX11_faultNow_66 : decode cX11_faultNow 66 = .ok (.ifCond .ne 5, 3) := by decide +kernel
theorem dX11_faultNow_69 : decode cX11_faultNow 69 = .ok (.iload_n 3, 1) := by decide +kernel
theorem dX11_faultNow_70 : decode cX11_faultNow 70 = .ok (.ireturn, 1) := by decide +kernel
theorem dX11_faultNow_71 : decode cX11_faultNow 71 = .ok (.aload_n 0, 1) := by decide +kernel
theorem dX11_faultNow_72 : decode cX11_faultNow 72 = .ok (.getfield 19, 3) := by decide +kernel
theorem dX11_faultNow_75 : decode cX11_faultNow 75 = .ok (.bipush 48, 2) := by decide +kernel
theorem dX11_faultNow_77 : decode cX11_faultNow 77 = .ok (.iload_n 1, 1) := by decide +kernel
theorem dX11_faultNow_78 : decode cX11_faultNow 78 = .ok (.imul, 1) := by decide +kernel
theorem dX11_faultNow_79 : decode cX11_faultNow 79 = .ok (.iconst 4, 1) := by decide +kernel
theorem dX11_faultNow_80 : decode cX11_faultNow 80 = .ok (.iload_n 2, 1) := by decide +kernel
theorem dX11_faultNow_81 : decode cX11_faultNow 81 = .ok (.imul, 1) := by decide +kernel
theorem dX11_faultNow_82 : decode cX11_faultNow 82 = .ok (.iadd, 1) := by decide +kernel
theorem dX11_faultNow_83 : decode cX11_faultNow 83 = .ok (.iload 4, 2) := by decide +kernel
theorem dX11_faultNow_85 : decode cX11_faultNow 85 = .ok (.iadd, 1) := by decide +kernel
theorem dX11_faultNow_86 : decode cX11_faultNow 86 = .ok (.iload 5, 2) := by decide +kernel
theorem dX11_faultNow_88 : decode cX11_faultNow 88 = .ok (.bipush 45, 2) := by decide +kernel
theorem dX11_faultNow_90 : decode cX11_faultNow 90 = .ok (.if_icmp .ne 7, 3) := by decide +kernel
theorem dX11_faultNow_93 : decode cX11_faultNow 93 = .ok (.iconst (-1), 1) := by decide +kernel
theorem dX11_faultNow_94 : decode cX11_faultNow 94 = .ok (.goto 8, 3) := by decide +kernel
theorem dX11_faultNow_97 : decode cX11_faultNow 97 = .ok (.iload 5, 2) := by decide +kernel
theorem dX11_faultNow_99 : decode cX11_faultNow 99 = .ok (.bipush 48, 2) := by decide +kernel
theorem dX11_faultNow_101 : decode cX11_faultNow 101 = .ok (.isub, 1) := by decide +kernel
theorem dX11_faultNow_102 : decode cX11_faultNow 102 = .ok (.iastore, 1) := by decide +kernel
theorem dX11_faultNow_103 : decode cX11_faultNow 103 = .ok (.iinc 3 1, 3) := by decide +kernel
theorem dX11_faultNow_106 : decode cX11_faultNow 106 = .ok (.iinc 4 1, 3) := by decide +kernel
theorem dX11_faultNow_109 : decode cX11_faultNow 109 = .ok (.goto (-73), 3) := by decide +kernel
theorem dX11_faultNow_112 : decode cX11_faultNow 112 = .ok (.iinc 2 1, 3) := by decide +kernel
theorem dX11_faultNow_115 : decode cX11_faultNow 115 = .ok (.iload_n 3, 1) := by decide +kernel
theorem dX11_faultNow_116 : decode cX11_faultNow 116 = .ok (.aload_n 0, 1) := by decide +kernel
theorem dX11_faultNow_117 : decode cX11_faultNow 117 = .ok (.getfield 13, 3) := by decide +kernel
theorem dX11_faultNow_120 : decode cX11_faultNow 120 = .ok (.iload_n 1, 1) := by decide +kernel
theorem dX11_faultNow_121 : decode cX11_faultNow 121 = .ok (.iaload, 1) := by decide +kernel
theorem dX11_faultNow_122 : decode cX11_faultNow 122 = .ok (.if_icmp .ne 12, 3) := by decide +kernel
theorem dX11_faultNow_125 : decode cX11_faultNow 125 = .ok (.aload_n 0, 1) := by decide +kernel
theorem dX11_faultNow_126 : decode cX11_faultNow 126 = .ok (.getfield 16, 3) := by decide +kernel
theorem dX11_faultNow_129 : decode cX11_faultNow 129 = .ok (.iload_n 1, 1) := by decide +kernel
theorem dX11_faultNow_130 : decode cX11_faultNow 130 = .ok (.iload_n 2, 1) := by decide +kernel
theorem dX11_faultNow_131 : decode cX11_faultNow 131 = .ok (.iastore, 1) := by decide +kernel
theorem dX11_faultNow_132 : decode cX11_faultNow 132 = .ok (.iconst (-1), 1) := by decide +kernel
theorem dX11_faultNow_133 : decode cX11_faultNow 133 = .ok (.ireturn, 1) := by decide +kernel
theorem dX11_faultNow_134 : decode cX11_faultNow 134 = .ok (.aload_n 0, 1) := by decide +kernel
theorem dX11_faultNow_135 : decode cX11_faultNow 135 = .ok (.iload_n 1, 1) := by decide +kernel
theorem dX11_faultNow_136 : decode cX11_faultNow 136 = .ok (.iload_n 3, 1) := by decide +kernel
theorem dX11_faultNow_137 : decode cX11_faultNow 137 = .ok (.invokevirtual 83, 3) := by decide +kernel
theorem dX11_faultNow_140 : decode cX11_faultNow 140 = .ok (.bipush 59, 2) := by decide +kernel
theorem dX11_faultNow_142 : decode cX11_faultNow 142 = .ok (.if_icmp .eq 5, 3) := by decide +kernel
theorem dX11_faultNow_145 : decode cX11_faultNow 145 = .ok (.iload_n 3, 1) := by decide +kernel
theorem dX11_faultNow_146 : decode cX11_faultNow 146 = .ok (.ireturn, 1) := by decide +kernel
theorem dX11_faultNow_147 : decode cX11_faultNow 147 = .ok (.iinc 3 1, 3) := by decide +kernel
theorem dX11_faultNow_150 : decode cX11_faultNow 150 = .ok (.goto (-139), 3) := by decide +kernel
theorem dX11_faultNow_153 : decode cX11_faultNow 153 = .ok (.iconst (-1), 1) := by decide +kernel
theorem dX11_faultNow_154 : decode cX11_faultNow 154 = .ok (.ireturn, 1) := by decide +kernel
theorem dX11_fault_0 : decode cX11_fault 0 = .ok (.iload_n 1, 1) := by decide +kernel
theorem dX11_fault_1 : decode cX11_fault 1 = .ok (.invokestatic 79, 3) := by decide +kernel
theorem dX11_fault_4 : decode cX11_fault 4 = .ok (.ifCond .eq 11, 3) := by decide +kernel
theorem dX11_fault_7 : decode cX11_fault 7 = .ok (.aload_n 0, 1) := by decide +kernel
theorem dX11_fault_8 : decode cX11_fault 8 = .ok (.iload_n 1, 1) := by decide +kernel
theorem dX11_fault_9 : decode cX11_fault 9 = .ok (.invokevirtual 86, 3) := by decide +kernel
theorem dX11_fault_12 : decode cX11_fault 12 = .ok (.goto 5, 3) := by decide +kernel
theorem dX11_fault_15 : decode cX11_fault 15 = .ok (.bipush (-2), 2) := by decide +kernel
theorem dX11_fault_17 : decode cX11_fault 17 = .ok (.ireturn, 1) := by decide +kernel
theorem dX11_pictures_0 : decode cX11_pictures 0 = .ok (.aload_n 0, 1) := by decide +kernel
theorem dX11_pictures_1 : decode cX11_pictures 1 = .ok (.iload_n 1, 1) := by decide +kernel
theorem dX11_pictures_2 : decode cX11_pictures 2 = .ok (.invokevirtual 86, 3) := by decide +kernel
theorem dX11_pictures_5 : decode cX11_pictures 5 = .ok (.istore_n 2, 1) := by decide +kernel
theorem dX11_pictures_6 : decode cX11_pictures 6 = .ok (.aload_n 0, 1) := by decide +kernel
theorem dX11_pictures_7 : decode cX11_pictures 7 = .ok (.getfield 16, 3) := by decide +kernel
theorem dX11_pictures_10 : decode cX11_pictures 10 = .ok (.iload_n 1, 1) := by decide +kernel
theorem dX11_pictures_11 : decode cX11_pictures 11 = .ok (.iaload, 1) := by decide +kernel
theorem dX11_pictures_12 : decode cX11_pictures 12 = .ok (.ireturn, 1) := by decide +kernel
theorem dX11_place_0 : decode cX11_place 0 = .ok (.iload_n 1, 1) := by decide +kernel
theorem dX11_place_1 : decode cX11_place 1 = .ok (.invokestatic 79, 3) := by decide +kernel
theorem dX11_place_4 : decode cX11_place 4 = .ok (.ifCond .eq 27, 3) := by decide +kernel
theorem dX11_place_7 : decode cX11_place 7 = .ok (.iload_n 2, 1) := by decide +kernel
theorem dX11_place_8 : decode cX11_place 8 = .ok (.iconst 0, 1) := by decide +kernel
theorem dX11_place_9 : decode cX11_place 9 = .ok (.aload_n 0, 1) := by decide +kernel
theorem dX11_place_10 : decode cX11_place 10 = .ok (.iload_n 1, 1) := by decide +kernel
theorem dX11_place_11 : decode cX11_place 11 = .ok (.invokevirtual 89, 3) := by decide +kernel
theorem dX11_place_14 : decode cX11_place 14 = .ok (.iconst 1, 1) := by decide +kernel
theorem dX11_place_15 : decode cX11_place 15 = .ok (.isub, 1) := by decide +kernel
theorem dX11_place_16 : decode cX11_place 16 = .ok (.invokestatic 75, 3) := by decide +kernel
theorem dX11_place_19 : decode cX11_place 19 = .ok (.ifCond .eq 12, 3) := by decide +kernel
theorem dX11_place_22 : decode cX11_place 22 = .ok (.iload_n 3, 1) := by decide +kernel
theorem dX11_place_23 : decode cX11_place 23 = .ok (.iconst 0, 1) := by decide +kernel
theorem dX11_place_24 : decode cX11_place 24 = .ok (.iconst 3, 1) := by decide +kernel
theorem dX11_place_25 : decode cX11_place 25 = .ok (.invokestatic 75, 3) := by decide +kernel
theorem dX11_place_28 : decode cX11_place 28 = .ok (.ifCond .ne 6, 3) := by decide +kernel
theorem dX11_place_31 : decode cX11_place 31 = .ok (.bipush (-2), 2) := by decide +kernel
theorem dX11_place_33 : decode cX11_place 33 = .ok (.ireturn, 1) := by decide +kernel
theorem dX11_place_34 : decode cX11_place 34 = .ok (.aload_n 0, 1) := by decide +kernel
theorem dX11_place_35 : decode cX11_place 35 = .ok (.getfield 19, 3) := by decide +kernel
theorem dX11_place_38 : decode cX11_place 38 = .ok (.bipush 48, 2) := by decide +kernel
theorem dX11_place_40 : decode cX11_place 40 = .ok (.iload_n 1, 1) := by decide +kernel
theorem dX11_place_41 : decode cX11_place 41 = .ok (.imul, 1) := by decide +kernel
theorem dX11_place_42 : decode cX11_place 42 = .ok (.iconst 4, 1) := by decide +kernel
theorem dX11_place_43 : decode cX11_place 43 = .ok (.iload_n 2, 1) := by decide +kernel
theorem dX11_place_44 : decode cX11_place 44 = .ok (.imul, 1) := by decide +kernel
theorem dX11_place_45 : decode cX11_place 45 = .ok (.iadd, 1) := by decide +kernel
theorem dX11_place_46 : decode cX11_place 46 = .ok (.iload_n 3, 1) := by decide +kernel
theorem dX11_place_47 : decode cX11_place 47 = .ok (.iadd, 1) := by decide +kernel
theorem dX11_place_48 : decode cX11_place 48 = .ok (.iaload, 1) := by decide +kernel
theorem dX11_place_49 : decode cX11_place 49 = .ok (.ireturn, 1) := by decide +kernel
theorem dX11_stepBy_0 : decode cX11_stepBy 0 = .ok (.iconst 0, 1) := by decide +kernel
theorem dX11_stepBy_1 : decode cX11_stepBy 1 = .ok (.istore_n 3, 1) := by decide +kernel
theorem dX11_stepBy_2 : decode cX11_stepBy 2 = .ok (.iconst 0, 1) := by decide +kernel
theorem dX11_stepBy_3 : decode cX11_stepBy 3 = .ok (.istore 4, 2) := by decide +kernel
theorem dX11_stepBy_5 : decode cX11_stepBy 5 = .ok (.iload 4, 2) := by decide +kernel
theorem dX11_stepBy_7 : decode cX11_stepBy 7 = .ok (.iconst 4, 1) := by decide +kernel
theorem dX11_stepBy_8 : decode cX11_stepBy 8 = .ok (.if_icmp .ge 107, 3) := by decide +kernel
theorem dX11_stepBy_11 : decode cX11_stepBy 11 = .ok (.aload_n 0, 1) := by decide +kernel
theorem dX11_stepBy_12 : decode cX11_stepBy 12 = .ok (.getfield 19, 3) := by decide +kernel
theorem dX11_stepBy_15 : decode cX11_stepBy 15 = .ok (.iload_n 1, 1) := by decide +kernel
theorem dX11_stepBy_16 : decode cX11_stepBy 16 = .ok (.iload 4, 2) := by decide +kernel
theorem dX11_stepBy_18 : decode cX11_stepBy 18 = .ok (.iadd, 1) := by decide +kernel
theorem dX11_stepBy_19 : decode cX11_stepBy 19 = .ok (.iaload, 1) := by decide +kernel
theorem dX11_stepBy_20 : decode cX11_stepBy 20 = .ok (.iconst (-1), 1) := by decide +kernel
theorem dX11_stepBy_21 : decode cX11_stepBy 21 = .ok (.if_icmp .eq 7, 3) := by decide +kernel
theorem dX11_stepBy_24 : decode cX11_stepBy 24 = .ok (.iconst 1, 1) := by decide +kernel
theorem dX11_stepBy_25 : decode cX11_stepBy 25 = .ok (.goto 4, 3) := by decide +kernel
theorem dX11_stepBy_28 : decode cX11_stepBy 28 = .ok (.iconst 0, 1) := by decide +kernel
theorem dX11_stepBy_29 : decode cX11_stepBy 29 = .ok (.istore 5, 2) := by decide +kernel
theorem dX11_stepBy_31 : decode cX11_stepBy 31 = .ok (.aload_n 0, 1) := by decide +kernel
theorem dX11_stepBy_32 : decode cX11_stepBy 32 = .ok (.getfield 19, 3) := by decide +kernel
theorem dX11_stepBy_35 : decode cX11_stepBy 35 = .ok (.iload_n 2, 1) := by decide +kernel
theorem dX11_stepBy_36 : decode cX11_stepBy 36 = .ok (.iload 4, 2) := by decide +kernel
theorem dX11_stepBy_38 : decode cX11_stepBy 38 = .ok (.iadd, 1) := by decide +kernel
theorem dX11_stepBy_39 : decode cX11_stepBy 39 = .ok (.iaload, 1) := by decide +kernel
theorem dX11_stepBy_40 : decode cX11_stepBy 40 = .ok (.iconst (-1), 1) := by decide +kernel
theorem dX11_stepBy_41 : decode cX11_stepBy 41 = .ok (.if_icmp .eq 7, 3) := by decide +kernel
theorem dX11_stepBy_44 : decode cX11_stepBy 44 = .ok (.iconst 1, 1) := by decide +kernel
theorem dX11_stepBy_45 : decode cX11_stepBy 45 = .ok (.goto 4, 3) := by decide +kernel
theorem dX11_stepBy_48 : decode cX11_stepBy 48 = .ok (.iconst 0, 1) := by decide +kernel
theorem dX11_stepBy_49 : decode cX11_stepBy 49 = .ok (.istore 6, 2) := by decide +kernel
theorem dX11_stepBy_51 : decode cX11_stepBy 51 = .ok (.iload_n 3, 1) := by decide +kernel
theorem dX11_stepBy_52 : decode cX11_stepBy 52 = .ok (.iload 5, 2) := by decide +kernel
theorem dX11_stepBy_54 : decode cX11_stepBy 54 = .ok (.ifCond .eq 33, 3) := by decide +kernel
theorem dX11_stepBy_57 : decode cX11_stepBy 57 = .ok (.iload 6, 2) := by decide +kernel
theorem dX11_stepBy_59 : decode cX11_stepBy 59 = .ok (.ifCond .eq 28, 3) := by decide +kernel
theorem dX11_stepBy_62 : decode cX11_stepBy 62 = .ok (.aload_n 0, 1) := by decide +kernel
theorem dX11_stepBy_63 : decode cX11_stepBy 63 = .ok (.getfield 19, 3) := by decide +kernel
theorem dX11_stepBy_66 : decode cX11_stepBy 66 = .ok (.iload_n 1, 1) := by decide +kernel
theorem dX11_stepBy_67 : decode cX11_stepBy 67 = .ok (.iload 4, 2) := by decide +kernel
theorem dX11_stepBy_69 : decode cX11_stepBy 69 = .ok (.iadd, 1) := by decide +kernel
theorem dX11_stepBy_70 : decode cX11_stepBy 70 = .ok (.iaload, 1) := by decide +kernel
theorem dX11_stepBy_71 : decode cX11_stepBy 71 = .ok (.aload_n 0, 1) := by decide +kernel
theorem dX11_stepBy_72 : decode cX11_stepBy 72 = .ok (.getfield 19, 3) := by decide +kernel
theorem dX11_stepBy_75 : decode cX11_stepBy 75 = .ok (.iload_n 2, 1) := by decide +kernel
theorem dX11_stepBy_76 : decode cX11_stepBy 76 = .ok (.iload 4, 2) := by decide +kernel
theorem dX11_stepBy_78 : decode cX11_stepBy 78 = .ok (.iadd, 1) := by decide +kernel
theorem dX11_stepBy_79 : decode cX11_stepBy 79 = .ok (.iaload, 1) := by decide +kernel
theorem dX11_stepBy_80 : decode cX11_stepBy 80 = .ok (.isub, 1) := by decide +kernel
theorem dX11_stepBy_81 : decode cX11_stepBy 81 = .ok (.invokestatic 67, 3) := by decide +kernel
theorem dX11_stepBy_84 : decode cX11_stepBy 84 = .ok (.goto 23, 3) := by decide +kernel
theorem dX11_stepBy_87 : decode cX11_stepBy 87 = .ok (.iload 5, 2) := by decide +kernel
theorem dX11_stepBy_89 : decode cX11_stepBy 89 = .ok (.ifCond .ne 8, 3) := by decide +kernel
theorem dX11_stepBy_92 : decode cX11_stepBy 92 = .ok (.iload 6, 2) := by decide +kernel
theorem dX11_stepBy_94 : decode cX11_stepBy 94 = .ok (.ifCond .eq 12, 3) := by decide +kernel
theorem dX11_stepBy_97 : decode cX11_stepBy 97 = .ok (.aload_n 0, 1) := by decide +kernel
theorem dX11_stepBy_98 : decode cX11_stepBy 98 = .ok (.getfield 22, 3) := by decide +kernel
theorem dX11_stepBy_101 : decode cX11_stepBy 101 = .ok (.iconst 0, 1) := by decide +kernel
theorem dX11_stepBy_102 : decode cX11_stepBy 102 = .ok (.iaload, 1) := by decide +kernel
theorem dX11_stepBy_103 : decode cX11_stepBy 103 = .ok (.goto 4, 3) := by decide +kernel
theorem dX11_stepBy_106 : decode cX11_stepBy 106 = .ok (.iconst 0, 1) := by decide +kernel
theorem dX11_stepBy_107 : decode cX11_stepBy 107 = .ok (.iadd, 1) := by decide +kernel
theorem dX11_stepBy_108 : decode cX11_stepBy 108 = .ok (.istore_n 3, 1) := by decide +kernel
theorem dX11_stepBy_109 : decode cX11_stepBy 109 = .ok (.iinc 4 1, 3) := by decide +kernel
theorem dX11_stepBy_112 : decode cX11_stepBy 112 = .ok (.goto (-107), 3) := by decide +kernel
theorem dX11_stepBy_115 : decode cX11_stepBy 115 = .ok (.iload_n 3, 1) := by decide +kernel
theorem dX11_stepBy_116 : decode cX11_stepBy 116 = .ok (.ireturn, 1) := by decide +kernel
theorem dX11_stepOf_0 : decode cX11_stepOf 0 = .ok (.aload_n 0, 1) := by decide +kernel
theorem dX11_stepOf_1 : decode cX11_stepOf 1 = .ok (.bipush 48, 2) := by decide +kernel
theorem dX11_stepOf_3 : decode cX11_stepOf 3 = .ok (.iload_n 1, 1) := by decide +kernel
theorem dX11_stepOf_4 : decode cX11_stepOf 4 = .ok (.imul, 1) := by decide +kernel
theorem dX11_stepOf_5 : decode cX11_stepOf 5 = .ok (.iconst 4, 1) := by decide +kernel
theorem dX11_stepOf_6 : decode cX11_stepOf 6 = .ok (.iload_n 2, 1) := by decide +kernel
theorem dX11_stepOf_7 : decode cX11_stepOf 7 = .ok (.imul, 1) := by decide +kernel
theorem dX11_stepOf_8 : decode cX11_stepOf 8 = .ok (.iadd, 1) := by decide +kernel
theorem dX11_stepOf_9 : decode cX11_stepOf 9 = .ok (.bipush 48, 2) := by decide +kernel
theorem dX11_stepOf_11 : decode cX11_stepOf 11 = .ok (.iload_n 1, 1) := by decide +kernel
theorem dX11_stepOf_12 : decode cX11_stepOf 12 = .ok (.imul, 1) := by decide +kernel
theorem dX11_stepOf_13 : decode cX11_stepOf 13 = .ok (.iconst 4, 1) := by decide +kernel
theorem dX11_stepOf_14 : decode cX11_stepOf 14 = .ok (.iload_n 3, 1) := by decide +kernel
theorem dX11_stepOf_15 : decode cX11_stepOf 15 = .ok (.imul, 1) := by decide +kernel
theorem dX11_stepOf_16 : decode cX11_stepOf 16 = .ok (.iadd, 1) := by decide +kernel
theorem dX11_stepOf_17 : decode cX11_stepOf 17 = .ok (.invokevirtual 92, 3) := by decide +kernel
theorem dX11_stepOf_20 : decode cX11_stepOf 20 = .ok (.ireturn, 1) := by decide +kernel
theorem dX11_step_0 : decode cX11_step 0 = .ok (.iload_n 1, 1) := by decide +kernel
theorem dX11_step_1 : decode cX11_step 1 = .ok (.invokestatic 79, 3) := by decide +kernel
theorem dX11_step_4 : decode cX11_step 4 = .ok (.ifCond .ne 6, 3) := by decide +kernel
theorem dX11_step_7 : decode cX11_step 7 = .ok (.bipush (-2), 2) := by decide +kernel
theorem dX11_step_9 : decode cX11_step 9 = .ok (.ireturn, 1) := by decide +kernel
theorem dX11_step_10 : decode cX11_step 10 = .ok (.aload_n 0, 1) := by decide +kernel
theorem dX11_step_11 : decode cX11_step 11 = .ok (.iload_n 1, 1) := by decide +kernel
theorem dX11_step_12 : decode cX11_step 12 = .ok (.invokevirtual 89, 3) := by decide +kernel
theorem dX11_step_15 : decode cX11_step 15 = .ok (.istore 4, 2) := by decide +kernel
theorem dX11_step_17 : decode cX11_step 17 = .ok (.iload_n 2, 1) := by decide +kernel
theorem dX11_step_18 : decode cX11_step 18 = .ok (.iconst 0, 1) := by decide +kernel
theorem dX11_step_19 : decode cX11_step 19 = .ok (.iload 4, 2) := by decide +kernel
theorem dX11_step_21 : decode cX11_step 21 = .ok (.iconst 1, 1) := by decide +kernel
theorem dX11_step_22 : decode cX11_step 22 = .ok (.isub, 1) := by decide +kernel
theorem dX11_step_23 : decode cX11_step 23 = .ok (.invokestatic 75, 3) := by decide +kernel
theorem dX11_step_26 : decode cX11_step 26 = .ok (.ifCond .eq 25, 3) := by decide +kernel
theorem dX11_step_29 : decode cX11_step 29 = .ok (.iload_n 3, 1) := by decide +kernel
theorem dX11_step_30 : decode cX11_step 30 = .ok (.iconst 0, 1) := by decide +kernel
theorem dX11_step_31 : decode cX11_step 31 = .ok (.iload 4, 2) := by decide +kernel
theorem dX11_step_33 : decode cX11_step 33 = .ok (.iconst 1, 1) := by decide +kernel
theorem dX11_step_34 : decode cX11_step 34 = .ok (.isub, 1) := by decide +kernel
theorem dX11_step_35 : decode cX11_step 35 = .ok (.invokestatic 75, 3) := by decide +kernel
theorem dX11_step_38 : decode cX11_step 38 = .ok (.ifCond .eq 13, 3) := by decide +kernel
theorem dX11_step_41 : decode cX11_step 41 = .ok (.aload_n 0, 1) := by decide +kernel
theorem dX11_step_42 : decode cX11_step 42 = .ok (.iload_n 1, 1) := by decide +kernel
theorem dX11_step_43 : decode cX11_step 43 = .ok (.iload_n 2, 1) := by decide +kernel
theorem dX11_step_44 : decode cX11_step 44 = .ok (.iload_n 3, 1) := by decide +kernel
theorem dX11_step_45 : decode cX11_step 45 = .ok (.invokevirtual 95, 3) := by decide +kernel
theorem dX11_step_48 : decode cX11_step 48 = .ok (.goto 5, 3) := by decide +kernel
theorem dX11_step_51 : decode cX11_step 51 = .ok (.bipush (-2), 2) := by decide +kernel
theorem dX11_step_53 : decode cX11_step 53 = .ok (.ireturn, 1) := by decide +kernel
theorem dX11_wholeNow_0 : decode cX11_wholeNow 0 = .ok (.aload_n 0, 1) := by decide +kernel
theorem dX11_wholeNow_1 : decode cX11_wholeNow 1 = .ok (.iload_n 1, 1) := by decide +kernel
theorem dX11_wholeNow_2 : decode cX11_wholeNow 2 = .ok (.invokevirtual 89, 3) := by decide +kernel
theorem dX11_wholeNow_5 : decode cX11_wholeNow 5 = .ok (.istore_n 2, 1) := by decide +kernel
theorem dX11_wholeNow_6 : decode cX11_wholeNow 6 = .ok (.iconst 0, 1) := by decide +kernel
theorem dX11_wholeNow_7 : decode cX11_wholeNow 7 = .ok (.istore_n 3, 1) := by decide +kernel
theorem dX11_wholeNow_8 : decode cX11_wholeNow 8 = .ok (.iconst 0, 1) := by decide +kernel
theorem dX11_wholeNow_9 : decode cX11_wholeNow 9 = .ok (.istore 4, 2) := by decide +kernel
theorem dX11_wholeNow_11 : decode cX11_wholeNow 11 = .ok (.iload 4, 2) := by decide +kernel
theorem dX11_wholeNow_13 : decode cX11_wholeNow 13 = .ok (.iload_n 2, 1) := by decide +kernel
theorem dX11_wholeNow_14 : decode cX11_wholeNow 14 = .ok (.if_icmp .ge 25, 3) := by decide +kernel
theorem dX11_wholeNow_17 : decode cX11_wholeNow 17 = .ok (.iload_n 3, 1) := by decide +kernel
theorem dX11_wholeNow_18 : decode cX11_wholeNow 18 = .ok (.aload_n 0, 1) := by decide +kernel
theorem dX11_wholeNow_19 : decode cX11_wholeNow 19 = .ok (.iload_n 1, 1) := by decide +kernel
theorem dX11_wholeNow_20 : decode cX11_wholeNow 20 = .ok (.iload 4, 2) := by decide +kernel
theorem dX11_wholeNow_22 : decode cX11_wholeNow 22 = .ok (.iload 4, 2) := by decide +kernel
theorem dX11_wholeNow_24 : decode cX11_wholeNow 24 = .ok (.iconst 1, 1) := by decide +kernel
theorem dX11_wholeNow_25 : decode cX11_wholeNow 25 = .ok (.iadd, 1) := by decide +kernel
theorem dX11_wholeNow_26 : decode cX11_wholeNow 26 = .ok (.iload_n 2, 1) := by decide +kernel
theorem dX11_wholeNow_27 : decode cX11_wholeNow 27 = .ok (.irem, 1) := by decide +kernel
theorem dX11_wholeNow_28 : decode cX11_wholeNow 28 = .ok (.invokevirtual 95, 3) := by decide +kernel
theorem dX11_wholeNow_31 : decode cX11_wholeNow 31 = .ok (.iadd, 1) := by decide +kernel
theorem dX11_wholeNow_32 : decode cX11_wholeNow 32 = .ok (.istore_n 3, 1) := by decide +kernel
theorem dX11_wholeNow_33 : decode cX11_wholeNow 33 = .ok (.iinc 4 1, 3) := by decide +kernel
theorem dX11_wholeNow_36 : decode cX11_wholeNow 36 = .ok (.goto (-25), 3) := by decide +kernel
theorem dX11_wholeNow_39 : decode cX11_wholeNow 39 = .ok (.iload_n 3, 1) := by decide +kernel
theorem dX11_wholeNow_40 : decode cX11_wholeNow 40 = .ok (.ireturn, 1) := by decide +kernel
theorem dX11_whole_0 : decode cX11_whole 0 = .ok (.iload_n 1, 1) := by decide +kernel
theorem dX11_whole_1 : decode cX11_whole 1 = .ok (.invokestatic 79, 3) := by decide +kernel
theorem dX11_whole_4 : decode cX11_whole 4 = .ok (.ifCond .eq 11, 3) := by decide +kernel
theorem dX11_whole_7 : decode cX11_whole 7 = .ok (.aload_n 0, 1) := by decide +kernel
theorem dX11_whole_8 : decode cX11_whole 8 = .ok (.iload_n 1, 1) := by decide +kernel
theorem dX11_whole_9 : decode cX11_whole 9 = .ok (.invokevirtual 99, 3) := by decide +kernel
theorem dX11_whole_12 : decode cX11_whole 12 = .ok (.goto 5, 3) := by decide +kernel
theorem dX11_whole_15 : decode cX11_whole 15 = .ok (.bipush (-2), 2) := by decide +kernel
theorem dX11_whole_17 : decode cX11_whole 17 = .ok (.ireturn, 1) := by decide +kernel
theorem dX11_set_0 : decode cX11_set 0 = .ok (.iload_n 1, 1) := by decide +kernel
theorem dX11_set_1 : decode cX11_set 1 = .ok (.iconst 0, 1) := by decide +kernel
theorem dX11_set_2 : decode cX11_set 2 = .ok (.iconst 1, 1) := by decide +kernel
theorem dX11_set_3 : decode cX11_set 3 = .ok (.invokestatic 75, 3) := by decide +kernel
theorem dX11_set_6 : decode cX11_set 6 = .ok (.ifCond .eq 22, 3) := by decide +kernel
theorem dX11_set_9 : decode cX11_set 9 = .ok (.iload_n 2, 1) := by decide +kernel
theorem dX11_set_10 : decode cX11_set 10 = .ok (.iconst 0, 1) := by decide +kernel
theorem dX11_set_11 : decode cX11_set 11 = .ok (.iload_n 1, 1) := by decide +kernel
theorem dX11_set_12 : decode cX11_set 12 = .ok (.ifCond .ne 8, 3) := by decide +kernel
theorem dX11_set_15 : decode cX11_set 15 = .ok (.bipush 9, 2) := by decide +kernel
theorem dX11_set_17 : decode cX11_set 17 = .ok (.goto 5, 3) := by decide +kernel
theorem dX11_set_20 : decode cX11_set 20 = .ok (.bipush 60, 2) := by decide +kernel
theorem dX11_set_22 : decode cX11_set 22 = .ok (.invokestatic 75, 3) := by decide +kernel
theorem dX11_set_25 : decode cX11_set 25 = .ok (.ifCond .ne 6, 3) := by decide +kernel
theorem dX11_set_28 : decode cX11_set 28 = .ok (.bipush (-2), 2) := by decide +kernel
theorem dX11_set_30 : decode cX11_set 30 = .ok (.ireturn, 1) := by decide +kernel
theorem dX11_set_31 : decode cX11_set 31 = .ok (.aload_n 0, 1) := by decide +kernel
theorem dX11_set_32 : decode cX11_set 32 = .ok (.getfield 22, 3) := by decide +kernel
theorem dX11_set_35 : decode cX11_set 35 = .ok (.iload_n 1, 1) := by decide +kernel
theorem dX11_set_36 : decode cX11_set 36 = .ok (.iaload, 1) := by decide +kernel
theorem dX11_set_37 : decode cX11_set 37 = .ok (.istore_n 3, 1) := by decide +kernel
theorem dX11_set_38 : decode cX11_set 38 = .ok (.aload_n 0, 1) := by decide +kernel
theorem dX11_set_39 : decode cX11_set 39 = .ok (.getfield 22, 3) := by decide +kernel
theorem dX11_set_42 : decode cX11_set 42 = .ok (.iload_n 1, 1) := by decide +kernel
theorem dX11_set_43 : decode cX11_set 43 = .ok (.iload_n 2, 1) := by decide +kernel
theorem dX11_set_44 : decode cX11_set 44 = .ok (.iastore, 1) := by decide +kernel
theorem dX11_set_45 : decode cX11_set 45 = .ok (.iload_n 3, 1) := by decide +kernel
theorem dX11_set_46 : decode cX11_set 46 = .ok (.ireturn, 1) := by decide +kernel
theorem dX11_isDrum_0 : decode cX11_isDrum 0 = .ok (.iload_n 0, 1) := by decide +kernel
theorem dX11_isDrum_1 : decode cX11_isDrum 1 = .ok (.iconst 1, 1) := by decide +kernel
theorem dX11_isDrum_2 : decode cX11_isDrum 2 = .ok (.bipush 24, 2) := by decide +kernel
theorem dX11_isDrum_4 : decode cX11_isDrum 4 = .ok (.invokestatic 75, 3) := by decide +kernel
theorem dX11_isDrum_7 : decode cX11_isDrum 7 = .ok (.ireturn, 1) := by decide +kernel
theorem dX11_seeming_0 : decode cX11_seeming 0 = .ok (.iload_n 1, 1) := by decide +kernel
theorem dX11_seeming_1 : decode cX11_seeming 1 = .ok (.iload_n 0, 1) := by decide +kernel
theorem dX11_seeming_2 : decode cX11_seeming 2 = .ok (.invokestatic 102, 3) := by decide +kernel
theorem dX11_seeming_5 : decode cX11_seeming 5 = .ok (.istore_n 2, 1) := by decide +kernel
theorem dX11_seeming_6 : decode cX11_seeming 6 = .ok (.iload_n 1, 1) := by decide +kernel
theorem dX11_seeming_7 : decode cX11_seeming 7 = .ok (.iload_n 2, 1) := by decide +kernel
theorem dX11_seeming_8 : decode cX11_seeming 8 = .ok (.iload_n 0, 1) := by decide +kernel
theorem dX11_seeming_9 : decode cX11_seeming 9 = .ok (.imul, 1) := by decide +kernel
theorem dX11_seeming_10 : decode cX11_seeming 10 = .ok (.isub, 1) := by decide +kernel
theorem dX11_seeming_11 : decode cX11_seeming 11 = .ok (.istore_n 3, 1) := by decide +kernel
theorem dX11_seeming_12 : decode cX11_seeming 12 = .ok (.iload_n 3, 1) := by decide +kernel
theorem dX11_seeming_13 : decode cX11_seeming 13 = .ok (.ifCond .le 7, 3) := by decide +kernel
theorem dX11_seeming_16 : decode cX11_seeming 16 = .ok (.iconst 2, 1) := by decide +kernel
theorem dX11_seeming_17 : decode cX11_seeming 17 = .ok (.goto 22, 3) := by decide +kernel
theorem dX11_seeming_20 : decode cX11_seeming 20 = .ok (.iload_n 3, 1) := by decide +kernel
theorem dX11_seeming_21 : decode cX11_seeming 21 = .ok (.ifCond .ge 7, 3) := by decide +kernel
theorem dX11_seeming_24 : decode cX11_seeming 24 = .ok (.iconst 3, 1) := by decide +kernel
theorem dX11_seeming_25 : decode cX11_seeming 25 = .ok (.goto 14, 3) := by decide +kernel
theorem dX11_seeming_28 : decode cX11_seeming 28 = .ok (.iload_n 2, 1) := by decide +kernel
theorem dX11_seeming_29 : decode cX11_seeming 29 = .ok (.iload_n 1, 1) := by decide +kernel
theorem dX11_seeming_30 : decode cX11_seeming 30 = .ok (.irem, 1) := by decide +kernel
theorem dX11_seeming_31 : decode cX11_seeming 31 = .ok (.ifCond .ne 7, 3) := by decide +kernel
theorem dX11_seeming_34 : decode cX11_seeming 34 = .ok (.iconst 0, 1) := by decide +kernel
theorem dX11_seeming_35 : decode cX11_seeming 35 = .ok (.goto 4, 3) := by decide +kernel
theorem dX11_seeming_38 : decode cX11_seeming 38 = .ok (.iconst 1, 1) := by decide +kernel
theorem dX11_seeming_39 : decode cX11_seeming 39 = .ok (.ireturn, 1) := by decide +kernel
theorem dX11_drum_0 : decode cX11_drum 0 = .ok (.iload_n 1, 1) := by decide +kernel
theorem dX11_drum_1 : decode cX11_drum 1 = .ok (.invokestatic 105, 3) := by decide +kernel
theorem dX11_drum_4 : decode cX11_drum 4 = .ok (.ifCond .eq 19, 3) := by decide +kernel
theorem dX11_drum_7 : decode cX11_drum 7 = .ok (.iload_n 2, 1) := by decide +kernel
theorem dX11_drum_8 : decode cX11_drum 8 = .ok (.invokestatic 105, 3) := by decide +kernel
theorem dX11_drum_11 : decode cX11_drum 11 = .ok (.ifCond .eq 12, 3) := by decide +kernel
theorem dX11_drum_14 : decode cX11_drum 14 = .ok (.iload_n 3, 1) := by decide +kernel
theorem dX11_drum_15 : decode cX11_drum 15 = .ok (.iconst 0, 1) := by decide +kernel
theorem dX11_drum_16 : decode cX11_drum 16 = .ok (.iconst 1, 1) := by decide +kernel
theorem dX11_drum_17 : decode cX11_drum 17 = .ok (.invokestatic 75, 3) := by decide +kernel
theorem dX11_drum_20 : decode cX11_drum 20 = .ok (.ifCond .ne 6, 3) := by decide +kernel
theorem dX11_drum_23 : decode cX11_drum 23 = .ok (.bipush (-2), 2) := by decide +kernel
theorem dX11_drum_25 : decode cX11_drum 25 = .ok (.ireturn, 1) := by decide +kernel
theorem dX11_drum_26 : decode cX11_drum 26 = .ok (.iload_n 3, 1) := by decide +kernel
theorem dX11_drum_27 : decode cX11_drum 27 = .ok (.ifCond .ne 11, 3) := by decide +kernel
theorem dX11_drum_30 : decode cX11_drum 30 = .ok (.iload_n 2, 1) := by decide +kernel
theorem dX11_drum_31 : decode cX11_drum 31 = .ok (.iload_n 1, 1) := by decide +kernel
theorem dX11_drum_32 : decode cX11_drum 32 = .ok (.invokestatic 102, 3) := by decide +kernel
theorem dX11_drum_35 : decode cX11_drum 35 = .ok (.goto 8, 3) := by decide +kernel
theorem dX11_drum_38 : decode cX11_drum 38 = .ok (.iload_n 1, 1) := by decide +kernel
theorem dX11_drum_39 : decode cX11_drum 39 = .ok (.iload_n 2, 1) := by decide +kernel
theorem dX11_drum_40 : decode cX11_drum 40 = .ok (.invokestatic 108, 3) := by decide +kernel
theorem dX11_drum_43 : decode cX11_drum 43 = .ok (.ireturn, 1) := by decide +kernel
theorem dX11_drift_0 : decode cX11_drift 0 = .ok (.iload_n 1, 1) := by decide +kernel
theorem dX11_drift_1 : decode cX11_drift 1 = .ok (.invokestatic 105, 3) := by decide +kernel
theorem dX11_drift_4 : decode cX11_drift 4 = .ok (.ifCond .eq 19, 3) := by decide +kernel
theorem dX11_drift_7 : decode cX11_drift 7 = .ok (.iload_n 2, 1) := by decide +kernel
theorem dX11_drift_8 : decode cX11_drift 8 = .ok (.invokestatic 105, 3) := by decide +kernel
theorem dX11_drift_11 : decode cX11_drift 11 = .ok (.ifCond .eq 12, 3) := by decide +kernel
theorem dX11_drift_14 : decode cX11_drift 14 = .ok (.iload_n 3, 1) := by decide +kernel
theorem dX11_drift_15 : decode cX11_drift 15 = .ok (.iconst 0, 1) := by decide +kernel
theorem dX11_drift_16 : decode cX11_drift 16 = .ok (.iconst 1, 1) := by decide +kernel
theorem dX11_drift_17 : decode cX11_drift 17 = .ok (.invokestatic 75, 3) := by decide +kernel
theorem dX11_drift_20 : decode cX11_drift 20 = .ok (.ifCond .ne 9, 3) := by decide +kernel
theorem dX11_drift_23 : decode cX11_drift 23 = .ok (.bipush (-2), 2) := by decide +kernel
theorem dX11_drift_25 : decode cX11_drift 25 = .ok (.invokestatic 111, 3) := by decide +kernel
theorem dX11_drift_28 : decode cX11_drift 28 = .ok (.lreturn, 1) := by decide +kernel
theorem dX11_drift_29 : decode cX11_drift 29 = .ok (.iload_n 2, 1) := by decide +kernel
theorem dX11_drift_30 : decode cX11_drift 30 = .ok (.iload_n 2, 1) := by decide +kernel
theorem dX11_drift_31 : decode cX11_drift 31 = .ok (.iload_n 1, 1) := by decide +kernel
theorem dX11_drift_32 : decode cX11_drift 32 = .ok (.invokestatic 102, 3) := by decide +kernel
theorem dX11_drift_35 : decode cX11_drift 35 = .ok (.iload_n 1, 1) := by decide +kernel
theorem dX11_drift_36 : decode cX11_drift 36 = .ok (.imul, 1) := by decide +kernel
theorem dX11_drift_37 : decode cX11_drift 37 = .ok (.isub, 1) := by decide +kernel
theorem dX11_drift_38 : decode cX11_drift 38 = .ok (.iload_n 1, 1) := by decide +kernel
theorem dX11_drift_39 : decode cX11_drift 39 = .ok (.iload_n 3, 1) := by decide +kernel
theorem dX11_drift_40 : decode cX11_drift 40 = .ok (.invokestatic 115, 3) := by decide +kernel
theorem dX11_drift_43 : decode cX11_drift 43 = .ok (.lreturn, 1) := by decide +kernel
theorem dX11_seenNow_0 : decode cX11_seenNow 0 = .ok (.aload_n 0, 1) := by decide +kernel
theorem dX11_seenNow_1 : decode cX11_seenNow 1 = .ok (.iload_n 1, 1) := by decide +kernel
theorem dX11_seenNow_2 : decode cX11_seenNow 2 = .ok (.invokevirtual 89, 3) := by decide +kernel
theorem dX11_seenNow_5 : decode cX11_seenNow 5 = .ok (.istore 4, 2) := by decide +kernel
theorem dX11_seenNow_7 : decode cX11_seenNow 7 = .ok (.iload 4, 2) := by decide +kernel
theorem dX11_seenNow_9 : decode cX11_seenNow 9 = .ok (.ifCond .ne 6, 3) := by decide +kernel
theorem dX11_seenNow_12 : decode cX11_seenNow 12 = .ok (.bipush (-3), 2) := by decide +kernel
theorem dX11_seenNow_14 : decode cX11_seenNow 14 = .ok (.ireturn, 1) := by decide +kernel
theorem dX11_seenNow_15 : decode cX11_seenNow 15 = .ok (.iload 4, 2) := by decide +kernel
theorem dX11_seenNow_17 : decode cX11_seenNow 17 = .ok (.iload_n 2, 1) := by decide +kernel
theorem dX11_seenNow_18 : decode cX11_seenNow 18 = .ok (.invokestatic 102, 3) := by decide +kernel
theorem dX11_seenNow_21 : decode cX11_seenNow 21 = .ok (.istore 5, 2) := by decide +kernel
theorem dX11_seenNow_23 : decode cX11_seenNow 23 = .ok (.iload_n 3, 1) := by decide +kernel
theorem dX11_seenNow_24 : decode cX11_seenNow 24 = .ok (.iconst (-1), 1) := by decide +kernel
theorem dX11_seenNow_25 : decode cX11_seenNow 25 = .ok (.if_icmp .ne 16, 3) := by decide +kernel
theorem dX11_seenNow_28 : decode cX11_seenNow 28 = .ok (.iload 4, 2) := by decide +kernel
theorem dX11_seenNow_30 : decode cX11_seenNow 30 = .ok (.iload 4, 2) := by decide +kernel
theorem dX11_seenNow_32 : decode cX11_seenNow 32 = .ok (.iload 5, 2) := by decide +kernel
theorem dX11_seenNow_34 : decode cX11_seenNow 34 = .ok (.invokestatic 71, 3) := by decide +kernel
theorem dX11_seenNow_37 : decode cX11_seenNow 37 = .ok (.idiv, 1) := by decide +kernel
theorem dX11_seenNow_38 : decode cX11_seenNow 38 = .ok (.goto 10, 3) := by decide +kernel
theorem dX11_seenNow_41 : decode cX11_seenNow 41 = .ok (.iload_n 3, 1) := by decide +kernel
theorem dX11_seenNow_42 : decode cX11_seenNow 42 = .ok (.iload 5, 2) := by decide +kernel
theorem dX11_seenNow_44 : decode cX11_seenNow 44 = .ok (.imul, 1) := by decide +kernel
theorem dX11_seenNow_45 : decode cX11_seenNow 45 = .ok (.iload 4, 2) := by decide +kernel
theorem dX11_seenNow_47 : decode cX11_seenNow 47 = .ok (.irem, 1) := by decide +kernel
theorem dX11_seenNow_48 : decode cX11_seenNow 48 = .ok (.ireturn, 1) := by decide +kernel
theorem dX11_seen_0 : decode cX11_seen 0 = .ok (.iload_n 1, 1) := by decide +kernel
theorem dX11_seen_1 : decode cX11_seen 1 = .ok (.invokestatic 79, 3) := by decide +kernel
theorem dX11_seen_4 : decode cX11_seen 4 = .ok (.ifCond .eq 31, 3) := by decide +kernel
theorem dX11_seen_7 : decode cX11_seen 7 = .ok (.iload_n 2, 1) := by decide +kernel
theorem dX11_seen_8 : decode cX11_seen 8 = .ok (.invokestatic 105, 3) := by decide +kernel
theorem dX11_seen_11 : decode cX11_seen 11 = .ok (.ifCond .eq 24, 3) := by decide +kernel
theorem dX11_seen_14 : decode cX11_seen 14 = .ok (.iload_n 3, 1) := by decide +kernel
theorem dX11_seen_15 : decode cX11_seen 15 = .ok (.iconst (-1), 1) := by decide +kernel
theorem dX11_seen_16 : decode cX11_seen 16 = .ok (.sipush 999, 3) := by decide +kernel
theorem dX11_seen_19 : decode cX11_seen 19 = .ok (.invokestatic 75, 3) := by decide +kernel
theorem dX11_seen_22 : decode cX11_seen 22 = .ok (.ifCond .eq 13, 3) := by decide +kernel
theorem dX11_seen_25 : decode cX11_seen 25 = .ok (.aload_n 0, 1) := by decide +kernel
theorem dX11_seen_26 : decode cX11_seen 26 = .ok (.iload_n 1, 1) := by decide +kernel
theorem dX11_seen_27 : decode cX11_seen 27 = .ok (.iload_n 2, 1) := by decide +kernel
theorem dX11_seen_28 : decode cX11_seen 28 = .ok (.iload_n 3, 1) := by decide +kernel
theorem dX11_seen_29 : decode cX11_seen 29 = .ok (.invokevirtual 119, 3) := by decide +kernel
theorem dX11_seen_32 : decode cX11_seen 32 = .ok (.goto 5, 3) := by decide +kernel
theorem dX11_seen_35 : decode cX11_seen 35 = .ok (.bipush (-2), 2) := by decide +kernel
theorem dX11_seen_37 : decode cX11_seen 37 = .ok (.ireturn, 1) := by decide +kernel
theorem dX11_numbersOf_0 : decode cX11_numbersOf 0 = .ok (.iconst 0, 1) := by decide +kernel
theorem dX11_numbersOf_1 : decode cX11_numbersOf 1 = .ok (.istore_n 3, 1) := by decide +kernel
theorem dX11_numbersOf_2 : decode cX11_numbersOf 2 = .ok (.iconst 1, 1) := by decide +kernel
theorem dX11_numbersOf_3 : decode cX11_numbersOf 3 = .ok (.istore 4, 2) := by decide +kernel
theorem dX11_numbersOf_5 : decode cX11_numbersOf 5 = .ok (.iload 4, 2) := by decide +kernel
theorem dX11_numbersOf_7 : decode cX11_numbersOf 7 = .ok (.bipush 25, 2) := by decide +kernel
theorem dX11_numbersOf_9 : decode cX11_numbersOf 9 = .ok (.if_icmp .ge 64, 3) := by decide +kernel
theorem dX11_numbersOf_12 : decode cX11_numbersOf 12 = .ok (.iconst 1, 1) := by decide +kernel
theorem dX11_numbersOf_13 : decode cX11_numbersOf 13 = .ok (.istore 5, 2) := by decide +kernel
theorem dX11_numbersOf_15 : decode cX11_numbersOf 15 = .ok (.iload 5, 2) := by decide +kernel
theorem dX11_numbersOf_17 : decode cX11_numbersOf 17 = .ok (.bipush 25, 2) := by decide +kernel
theorem dX11_numbersOf_19 : decode cX11_numbersOf 19 = .ok (.if_icmp .ge 48, 3) := by decide +kernel
theorem dX11_numbersOf_22 : decode cX11_numbersOf 22 = .ok (.iload 5, 2) := by decide +kernel
theorem dX11_numbersOf_24 : decode cX11_numbersOf 24 = .ok (.iload 4, 2) := by decide +kernel
theorem dX11_numbersOf_26 : decode cX11_numbersOf 26 = .ok (.invokestatic 102, 3) := by decide +kernel
theorem dX11_numbersOf_29 : decode cX11_numbersOf 29 = .ok (.iload_n 0, 1) := by decide +kernel
theorem dX11_numbersOf_30 : decode cX11_numbersOf 30 = .ok (.if_icmp .ne 31, 3) := by decide +kernel
theorem dX11_numbersOf_33 : decode cX11_numbersOf 33 = .ok (.iload 4, 2) := by decide +kernel
theorem dX11_numbersOf_35 : decode cX11_numbersOf 35 = .ok (.iload 5, 2) := by decide +kernel
theorem dX11_numbersOf_37 : decode cX11_numbersOf 37 = .ok (.invokestatic 108, 3) := by decide +kernel
theorem dX11_numbersOf_40 : decode cX11_numbersOf 40 = .ok (.iload_n 1, 1) := by decide +kernel
theorem dX11_numbersOf_41 : decode cX11_numbersOf 41 = .ok (.if_icmp .ne 20, 3) := by decide +kernel
theorem dX11_numbersOf_44 : decode cX11_numbersOf 44 = .ok (.iload_n 3, 1) := by decide +kernel
theorem dX11_numbersOf_45 : decode cX11_numbersOf 45 = .ok (.iload_n 2, 1) := by decide +kernel
theorem dX11_numbersOf_46 : decode cX11_numbersOf 46 = .ok (.if_icmp .ne 12, 3) := by decide +kernel
theorem dX11_numbersOf_49 : decode cX11_numbersOf 49 = .ok (.bipush 100, 2) := by decide +kernel
theorem dX11_numbersOf_51 : decode cX11_numbersOf 51 = .ok (.iload 4, 2) := by decide +kernel
theorem dX11_numbersOf_53 : decode cX11_numbersOf 53 = .ok (.imul, 1) := by decide +kernel
theorem dX11_numbersOf_54 : decode cX11_numbersOf 54 = .ok (.iload 5, 2) := by decide +kernel
theorem dX11_numbersOf_56 : decode cX11_numbersOf 56 = .ok (.iadd, 1) := by decide +kernel
theorem dX11_numbersOf_57 : decode cX11_numbersOf 57 = .ok (.ireturn, 1) := by decide +kernel
theorem dX11_numbersOf_58 : decode cX11_numbersOf 58 = .ok (.iinc 3 1, 3) := by decide +kernel
theorem dX11_numbersOf_61 : decode cX11_numbersOf 61 = .ok (.iinc 5 1, 3) := by decide +kernel
theorem dX11_numbersOf_64 : decode cX11_numbersOf 64 = .ok (.goto (-49), 3) := by decide +kernel
theorem dX11_numbersOf_67 : decode cX11_numbersOf 67 = .ok (.iinc 4 1, 3) := by decide +kernel
theorem dX11_numbersOf_70 : decode cX11_numbersOf 70 = .ok (.goto (-65), 3) := by decide +kernel
theorem dX11_numbersOf_73 : decode cX11_numbersOf 73 = .ok (.iload_n 2, 1) := by decide +kernel
theorem dX11_numbersOf_74 : decode cX11_numbersOf 74 = .ok (.iconst (-1), 1) := by decide +kernel
theorem dX11_numbersOf_75 : decode cX11_numbersOf 75 = .ok (.if_icmp .ne 7, 3) := by decide +kernel
theorem dX11_numbersOf_78 : decode cX11_numbersOf 78 = .ok (.iload_n 3, 1) := by decide +kernel
theorem dX11_numbersOf_79 : decode cX11_numbersOf 79 = .ok (.goto 4, 3) := by decide +kernel
theorem dX11_numbersOf_82 : decode cX11_numbersOf 82 = .ok (.iconst (-1), 1) := by decide +kernel
theorem dX11_numbersOf_83 : decode cX11_numbersOf 83 = .ok (.ireturn, 1) := by decide +kernel
theorem dX11_numbers_0 : decode cX11_numbers 0 = .ok (.iload_n 1, 1) := by decide +kernel
theorem dX11_numbers_1 : decode cX11_numbers 1 = .ok (.iconst 0, 1) := by decide +kernel
theorem dX11_numbers_2 : decode cX11_numbers 2 = .ok (.bipush 24, 2) := by decide +kernel
theorem dX11_numbers_4 : decode cX11_numbers 4 = .ok (.invokestatic 75, 3) := by decide +kernel
theorem dX11_numbers_7 : decode cX11_numbers 7 = .ok (.ifCond .eq 26, 3) := by decide +kernel
theorem dX11_numbers_10 : decode cX11_numbers 10 = .ok (.iload_n 2, 1) := by decide +kernel
theorem dX11_numbers_11 : decode cX11_numbers 11 = .ok (.iconst 0, 1) := by decide +kernel
theorem dX11_numbers_12 : decode cX11_numbers 12 = .ok (.iconst 3, 1) := by decide +kernel
theorem dX11_numbers_13 : decode cX11_numbers 13 = .ok (.invokestatic 75, 3) := by decide +kernel
theorem dX11_numbers_16 : decode cX11_numbers 16 = .ok (.ifCond .eq 17, 3) := by decide +kernel
theorem dX11_numbers_19 : decode cX11_numbers 19 = .ok (.iload_n 3, 1) := by decide +kernel
theorem dX11_numbers_20 : decode cX11_numbers 20 = .ok (.iconst (-1), 1) := by decide +kernel
theorem dX11_numbers_21 : decode cX11_numbers 21 = .ok (.if_icmp .lt 12, 3) := by decide +kernel
theorem dX11_numbers_24 : decode cX11_numbers 24 = .ok (.iload_n 1, 1) := by decide +kernel
theorem dX11_numbers_25 : decode cX11_numbers 25 = .ok (.iload_n 2, 1) := by decide +kernel
theorem dX11_numbers_26 : decode cX11_numbers 26 = .ok (.iload_n 3, 1) := by decide +kernel
theorem dX11_numbers_27 : decode cX11_numbers 27 = .ok (.invokestatic 122, 3) := by decide +kernel
theorem dX11_numbers_30 : decode cX11_numbers 30 = .ok (.goto 5, 3) := by decide +kernel
theorem dX11_numbers_33 : decode cX11_numbers 33 = .ok (.bipush (-2), 2) := by decide +kernel
theorem dX11_numbers_35 : decode cX11_numbers 35 = .ok (.ireturn, 1) := by decide +kernel
theorem dX11_isWheel_0 : decode cX11_isWheel 0 = .ok (.iload_n 0, 1) := by decide +kernel
theorem dX11_isWheel_1 : decode cX11_isWheel 1 = .ok (.iconst 1, 1) := by decide +kernel
theorem dX11_isWheel_2 : decode cX11_isWheel 2 = .ok (.bipush 36, 2) := by decide +kernel
theorem dX11_isWheel_4 : decode cX11_isWheel 4 = .ok (.invokestatic 75, 3) := by decide +kernel
theorem dX11_isWheel_7 : decode cX11_isWheel 7 = .ok (.ifCond .eq 28, 3) := by decide +kernel
theorem dX11_isWheel_10 : decode cX11_isWheel 10 = .ok (.iload_n 1, 1) := by decide +kernel
theorem dX11_isWheel_11 : decode cX11_isWheel 11 = .ok (.iconst 0, 1) := by decide +kernel
theorem dX11_isWheel_12 : decode cX11_isWheel 12 = .ok (.sipush 999, 3) := by decide +kernel
theorem dX11_isWheel_15 : decode cX11_isWheel 15 = .ok (.invokestatic 75, 3) := by decide +kernel
theorem dX11_isWheel_18 : decode cX11_isWheel 18 = .ok (.ifCond .eq 17, 3) := by decide +kernel
theorem dX11_isWheel_21 : decode cX11_isWheel 21 = .ok (.iload_n 2, 1) := by decide +kernel
theorem dX11_isWheel_22 : decode cX11_isWheel 22 = .ok (.iconst 1, 1) := by decide +kernel
theorem dX11_isWheel_23 : decode cX11_isWheel 23 = .ok (.bipush 99, 2) := by decide +kernel
theorem dX11_isWheel_25 : decode cX11_isWheel 25 = .ok (.invokestatic 75, 3) := by decide +kernel
theorem dX11_isWheel_28 : decode cX11_isWheel 28 = .ok (.ifCond .eq 7, 3) := by decide +kernel
theorem dX11_isWheel_31 : decode cX11_isWheel 31 = .ok (.iconst 1, 1) := by decide +kernel
theorem dX11_isWheel_32 : decode cX11_isWheel 32 = .ok (.goto 4, 3) := by decide +kernel
theorem dX11_isWheel_35 : decode cX11_isWheel 35 = .ok (.iconst 0, 1) := by decide +kernel
theorem dX11_isWheel_36 : decode cX11_isWheel 36 = .ok (.ireturn, 1) := by decide +kernel
theorem dX11_wheel_0 : decode cX11_wheel 0 = .ok (.iload_n 1, 1) := by decide +kernel
theorem dX11_wheel_1 : decode cX11_wheel 1 = .ok (.iload_n 2, 1) := by decide +kernel
theorem dX11_wheel_2 : decode cX11_wheel 2 = .ok (.iload_n 3, 1) := by decide +kernel
theorem dX11_wheel_3 : decode cX11_wheel 3 = .ok (.invokestatic 125, 3) := by decide +kernel
theorem dX11_wheel_6 : decode cX11_wheel 6 = .ok (.ifCond .eq 13, 3) := by decide +kernel
theorem dX11_wheel_9 : decode cX11_wheel 9 = .ok (.iload 4, 2) := by decide +kernel
theorem dX11_wheel_11 : decode cX11_wheel 11 = .ok (.iconst 0, 1) := by decide +kernel
theorem dX11_wheel_12 : decode cX11_wheel 12 = .ok (.iconst 1, 1) := by decide +kernel
theorem dX11_wheel_13 : decode cX11_wheel 13 = .ok (.invokestatic 75, 3) := by decide +kernel
theorem dX11_wheel_16 : decode cX11_wheel 16 = .ok (.ifCond .ne 9, 3) := by decide +kernel
theorem dX11_wheel_19 : decode cX11_wheel 19 = .ok (.bipush (-2), 2) := by decide +kernel
theorem dX11_wheel_21 : decode cX11_wheel 21 = .ok (.invokestatic 111, 3) := by decide +kernel
theorem dX11_wheel_24 : decode cX11_wheel 24 = .ok (.lreturn, 1) := by decide +kernel
theorem dX11_wheel_25 : decode cX11_wheel 25 = .ok (.iload_n 1, 1) := by decide +kernel
theorem dX11_wheel_26 : decode cX11_wheel 26 = .ok (.iload_n 2, 1) := by decide +kernel
theorem dX11_wheel_27 : decode cX11_wheel 27 = .ok (.imul, 1) := by decide +kernel
theorem dX11_wheel_28 : decode cX11_wheel 28 = .ok (.istore 5, 2) := by decide +kernel
theorem dX11_wheel_30 : decode cX11_wheel 30 = .ok (.bipush 60, 2) := by decide +kernel
theorem dX11_wheel_32 : decode cX11_wheel 32 = .ok (.iload_n 3, 1) := by decide +kernel
theorem dX11_wheel_33 : decode cX11_wheel 33 = .ok (.imul, 1) := by decide +kernel
theorem dX11_wheel_34 : decode cX11_wheel 34 = .ok (.istore 6, 2) := by decide +kernel
theorem dX11_wheel_36 : decode cX11_wheel 36 = .ok (.iload 5, 2) := by decide +kernel
theorem dX11_wheel_38 : decode cX11_wheel 38 = .ok (.iload 5, 2) := by decide +kernel
theorem dX11_wheel_40 : decode cX11_wheel 40 = .ok (.iload 6, 2) := by decide +kernel
theorem dX11_wheel_42 : decode cX11_wheel 42 = .ok (.invokestatic 102, 3) := by decide +kernel
theorem dX11_wheel_45 : decode cX11_wheel 45 = .ok (.iload 6, 2) := by decide +kernel
theorem dX11_wheel_47 : decode cX11_wheel 47 = .ok (.imul, 1) := by decide +kernel
theorem dX11_wheel_48 : decode cX11_wheel 48 = .ok (.isub, 1) := by decide +kernel
theorem dX11_wheel_49 : decode cX11_wheel 49 = .ok (.iload 6, 2) := by decide +kernel
theorem dX11_wheel_51 : decode cX11_wheel 51 = .ok (.iload 4, 2) := by decide +kernel
theorem dX11_wheel_53 : decode cX11_wheel 53 = .ok (.invokestatic 115, 3) := by decide +kernel
theorem dX11_wheel_56 : decode cX11_wheel 56 = .ok (.lreturn, 1) := by decide +kernel
theorem dX11_fitsBy_0 : decode cX11_fitsBy 0 = .ok (.iload_n 2, 1) := by decide +kernel
theorem dX11_fitsBy_1 : decode cX11_fitsBy 1 = .ok (.iconst (-1), 1) := by decide +kernel
theorem dX11_fitsBy_2 : decode cX11_fitsBy 2 = .ok (.if_icmp .eq 16, 3) := by decide +kernel
theorem dX11_fitsBy_5 : decode cX11_fitsBy 5 = .ok (.iload_n 0, 1) := by decide +kernel
theorem dX11_fitsBy_6 : decode cX11_fitsBy 6 = .ok (.iload_n 3, 1) := by decide +kernel
theorem dX11_fitsBy_7 : decode cX11_fitsBy 7 = .ok (.iload_n 1, 1) := by decide +kernel
theorem dX11_fitsBy_8 : decode cX11_fitsBy 8 = .ok (.isub, 1) := by decide +kernel
theorem dX11_fitsBy_9 : decode cX11_fitsBy 9 = .ok (.imul, 1) := by decide +kernel
theorem dX11_fitsBy_10 : decode cX11_fitsBy 10 = .ok (.bipush 60, 2) := by decide +kernel
theorem dX11_fitsBy_12 : decode cX11_fitsBy 12 = .ok (.iload_n 2, 1) := by decide +kernel
theorem dX11_fitsBy_13 : decode cX11_fitsBy 13 = .ok (.imul, 1) := by decide +kernel
theorem dX11_fitsBy_14 : decode cX11_fitsBy 14 = .ok (.irem, 1) := by decide +kernel
theorem dX11_fitsBy_15 : decode cX11_fitsBy 15 = .ok (.ifCond .ne 7, 3) := by decide +kernel
theorem dX11_fitsBy_18 : decode cX11_fitsBy 18 = .ok (.iconst 1, 1) := by decide +kernel
theorem dX11_fitsBy_19 : decode cX11_fitsBy 19 = .ok (.goto 4, 3) := by decide +kernel
theorem dX11_fitsBy_22 : decode cX11_fitsBy 22 = .ok (.iconst 0, 1) := by decide +kernel
theorem dX11_fitsBy_23 : decode cX11_fitsBy 23 = .ok (.ireturn, 1) := by decide +kernel
theorem dX11_fits_0 : decode cX11_fits 0 = .ok (.iload_n 1, 1) := by decide +kernel
theorem dX11_fits_1 : decode cX11_fits 1 = .ok (.iload_n 2, 1) := by decide +kernel
theorem dX11_fits_2 : decode cX11_fits 2 = .ok (.iload_n 3, 1) := by decide +kernel
theorem dX11_fits_3 : decode cX11_fits 3 = .ok (.invokestatic 125, 3) := by decide +kernel
theorem dX11_fits_6 : decode cX11_fits 6 = .ok (.ifCond .eq 26, 3) := by decide +kernel
theorem dX11_fits_9 : decode cX11_fits 9 = .ok (.iload 4, 2) := by decide +kernel
theorem dX11_fits_11 : decode cX11_fits 11 = .ok (.iconst (-1), 1) := by decide +kernel
theorem dX11_fits_12 : decode cX11_fits 12 = .ok (.if_icmp .eq 14, 3) := by decide +kernel
theorem dX11_fits_15 : decode cX11_fits 15 = .ok (.iload 4, 2) := by decide +kernel
theorem dX11_fits_17 : decode cX11_fits 17 = .ok (.iconst 1, 1) := by decide +kernel
theorem dX11_fits_18 : decode cX11_fits 18 = .ok (.bipush 99, 2) := by decide +kernel
theorem dX11_fits_20 : decode cX11_fits 20 = .ok (.invokestatic 75, 3) := by decide +kernel
theorem dX11_fits_23 : decode cX11_fits 23 = .ok (.ifCond .eq 9, 3) := by decide +kernel
theorem dX11_fits_26 : decode cX11_fits 26 = .ok (.iload 5, 2) := by decide +kernel
theorem dX11_fits_28 : decode cX11_fits 28 = .ok (.iconst (-1), 1) := by decide +kernel
theorem dX11_fits_29 : decode cX11_fits 29 = .ok (.if_icmp .ge 6, 3) := by decide +kernel
theorem dX11_fits_32 : decode cX11_fits 32 = .ok (.bipush (-2), 2) := by decide +kernel
theorem dX11_fits_34 : decode cX11_fits 34 = .ok (.ireturn, 1) := by decide +kernel
theorem dX11_fits_35 : decode cX11_fits 35 = .ok (.iconst 0, 1) := by decide +kernel
theorem dX11_fits_36 : decode cX11_fits 36 = .ok (.istore 6, 2) := by decide +kernel
theorem dX11_fits_38 : decode cX11_fits 38 = .ok (.iconst 0, 1) := by decide +kernel
theorem dX11_fits_39 : decode cX11_fits 39 = .ok (.istore 7, 2) := by decide +kernel
theorem dX11_fits_41 : decode cX11_fits 41 = .ok (.iload 7, 2) := by decide +kernel
theorem dX11_fits_43 : decode cX11_fits 43 = .ok (.sipush 1000, 3) := by decide +kernel
theorem dX11_fits_46 : decode cX11_fits 46 = .ok (.if_icmp .ge 45, 3) := by decide +kernel
theorem dX11_fits_49 : decode cX11_fits 49 = .ok (.iload_n 1, 1) := by decide +kernel
theorem dX11_fits_50 : decode cX11_fits 50 = .ok (.iload_n 2, 1) := by decide +kernel
theorem dX11_fits_51 : decode cX11_fits 51 = .ok (.iload_n 3, 1) := by decide +kernel
theorem dX11_fits_52 : decode cX11_fits 52 = .ok (.iload 7, 2) := by decide +kernel
theorem dX11_fits_54 : decode cX11_fits 54 = .ok (.invokestatic 128, 3) := by decide +kernel
theorem dX11_fits_57 : decode cX11_fits 57 = .ok (.ifCond .eq 28, 3) := by decide +kernel
theorem dX11_fits_60 : decode cX11_fits 60 = .ok (.iload_n 1, 1) := by decide +kernel
theorem dX11_fits_61 : decode cX11_fits 61 = .ok (.iload_n 2, 1) := by decide +kernel
theorem dX11_fits_62 : decode cX11_fits 62 = .ok (.iload 4, 2) := by decide +kernel
theorem dX11_fits_64 : decode cX11_fits 64 = .ok (.iload 7, 2) := by decide +kernel
theorem dX11_fits_66 : decode cX11_fits 66 = .ok (.invokestatic 128, 3) := by decide +kernel
theorem dX11_fits_69 : decode cX11_fits 69 = .ok (.ifCond .eq 16, 3) := by decide +kernel
theorem dX11_fits_72 : decode cX11_fits 72 = .ok (.iload 6, 2) := by decide +kernel
theorem dX11_fits_74 : decode cX11_fits 74 = .ok (.iload 5, 2) := by decide +kernel
theorem dX11_fits_76 : decode cX11_fits 76 = .ok (.if_icmp .ne 6, 3) := by decide +kernel
theorem dX11_fits_79 : decode cX11_fits 79 = .ok (.iload 7, 2) := by decide +kernel
theorem dX11_fits_81 : decode cX11_fits 81 = .ok (.ireturn, 1) := by decide +kernel
theorem dX11_fits_82 : decode cX11_fits 82 = .ok (.iinc 6 1, 3) := by decide +kernel
theorem dX11_fits_85 : decode cX11_fits 85 = .ok (.iinc 7 1, 3) := by decide +kernel
theorem dX11_fits_88 : decode cX11_fits 88 = .ok (.goto (-47), 3) := by decide +kernel
theorem dX11_fits_91 : decode cX11_fits 91 = .ok (.iload 5, 2) := by decide +kernel
theorem dX11_fits_93 : decode cX11_fits 93 = .ok (.iconst (-1), 1) := by decide +kernel
theorem dX11_fits_94 : decode cX11_fits 94 = .ok (.if_icmp .ne 8, 3) := by decide +kernel
theorem dX11_fits_97 : decode cX11_fits 97 = .ok (.iload 6, 2) := by decide +kernel
theorem dX11_fits_99 : decode cX11_fits 99 = .ok (.goto 4, 3) := by decide +kernel
theorem dX11_fits_102 : decode cX11_fits 102 = .ok (.iconst (-1), 1) := by decide +kernel
theorem dX11_fits_103 : decode cX11_fits 103 = .ok (.ireturn, 1) := by decide +kernel
theorem dX11_upTo_0 : decode cX11_upTo 0 = .ok (.iload_n 1, 1) := by decide +kernel
theorem dX11_upTo_1 : decode cX11_upTo 1 = .ok (.iload_n 2, 1) := by decide +kernel
theorem dX11_upTo_2 : decode cX11_upTo 2 = .ok (.iload_n 3, 1) := by decide +kernel
theorem dX11_upTo_3 : decode cX11_upTo 3 = .ok (.invokestatic 125, 3) := by decide +kernel
theorem dX11_upTo_6 : decode cX11_upTo 6 = .ok (.ifCond .eq 32, 3) := by decide +kernel
theorem dX11_upTo_9 : decode cX11_upTo 9 = .ok (.iload 4, 2) := by decide +kernel
theorem dX11_upTo_11 : decode cX11_upTo 11 = .ok (.iconst (-1), 1) := by decide +kernel
theorem dX11_upTo_12 : decode cX11_upTo 12 = .ok (.if_icmp .eq 14, 3) := by decide +kernel
theorem dX11_upTo_15 : decode cX11_upTo 15 = .ok (.iload 4, 2) := by decide +kernel
theorem dX11_upTo_17 : decode cX11_upTo 17 = .ok (.iconst 1, 1) := by decide +kernel
theorem dX11_upTo_18 : decode cX11_upTo 18 = .ok (.bipush 99, 2) := by decide +kernel
theorem dX11_upTo_20 : decode cX11_upTo 20 = .ok (.invokestatic 75, 3) := by decide +kernel
theorem dX11_upTo_23 : decode cX11_upTo 23 = .ok (.ifCond .eq 15, 3) := by decide +kernel
theorem dX11_upTo_26 : decode cX11_upTo 26 = .ok (.iload 5, 2) := by decide +kernel
theorem dX11_upTo_28 : decode cX11_upTo 28 = .ok (.iconst 0, 1) := by decide +kernel
theorem dX11_upTo_29 : decode cX11_upTo 29 = .ok (.sipush 999, 3) := by decide +kernel
theorem dX11_upTo_32 : decode cX11_upTo 32 = .ok (.invokestatic 75, 3) := by decide +kernel
theorem dX11_upTo_35 : decode cX11_upTo 35 = .ok (.ifCond .ne 6, 3) := by decide +kernel
theorem dX11_upTo_38 : decode cX11_upTo 38 = .ok (.bipush (-2), 2) := by decide +kernel
theorem dX11_upTo_40 : decode cX11_upTo 40 = .ok (.ireturn, 1) := by decide +kernel
theorem dX11_upTo_41 : decode cX11_upTo 41 = .ok (.iconst 0, 1) := by decide +kernel
theorem dX11_upTo_42 : decode cX11_upTo 42 = .ok (.istore 6, 2) := by decide +kernel
theorem dX11_upTo_44 : decode cX11_upTo 44 = .ok (.iconst 0, 1) := by decide +kernel
theorem dX11_upTo_45 : decode cX11_upTo 45 = .ok (.istore 7, 2) := by decide +kernel
theorem dX11_upTo_47 : decode cX11_upTo 47 = .ok (.iload 7, 2) := by decide +kernel
theorem dX11_upTo_49 : decode cX11_upTo 49 = .ok (.iload 5, 2) := by decide +kernel
theorem dX11_upTo_51 : decode cX11_upTo 51 = .ok (.if_icmp .gt 42, 3) := by decide +kernel
theorem dX11_upTo_54 : decode cX11_upTo 54 = .ok (.iload 6, 2) := by decide +kernel
theorem dX11_upTo_56 : decode cX11_upTo 56 = .ok (.iload_n 1, 1) := by decide +kernel
theorem dX11_upTo_57 : decode cX11_upTo 57 = .ok (.iload_n 2, 1) := by decide +kernel
theorem dX11_upTo_58 : decode cX11_upTo 58 = .ok (.iload_n 3, 1) := by decide +kernel
theorem dX11_upTo_59 : decode cX11_upTo 59 = .ok (.iload 7, 2) := by decide +kernel
theorem dX11_upTo_61 : decode cX11_upTo 61 = .ok (.invokestatic 128, 3) := by decide +kernel
theorem dX11_upTo_64 : decode cX11_upTo 64 = .ok (.ifCond .eq 19, 3) := by decide +kernel
theorem dX11_upTo_67 : decode cX11_upTo 67 = .ok (.iload_n 1, 1) := by decide +kernel
theorem dX11_upTo_68 : decode cX11_upTo 68 = .ok (.iload_n 2, 1) := by decide +kernel
theorem dX11_upTo_69 : decode cX11_upTo 69 = .ok (.iload 4, 2) := by decide +kernel
theorem dX11_upTo_71 : decode cX11_upTo 71 = .ok (.iload 7, 2) := by decide +kernel
theorem dX11_upTo_73 : decode cX11_upTo 73 = .ok (.invokestatic 128, 3) := by decide +kernel
theorem dX11_upTo_76 : decode cX11_upTo 76 = .ok (.ifCond .eq 7, 3) := by decide +kernel
theorem dX11_upTo_79 : decode cX11_upTo 79 = .ok (.iconst 1, 1) := by decide +kernel
theorem dX11_upTo_80 : decode cX11_upTo 80 = .ok (.goto 4, 3) := by decide +kernel
theorem dX11_upTo_83 : decode cX11_upTo 83 = .ok (.iconst 0, 1) := by decide +kernel
theorem dX11_upTo_84 : decode cX11_upTo 84 = .ok (.iadd, 1) := by decide +kernel
theorem dX11_upTo_85 : decode cX11_upTo 85 = .ok (.istore 6, 2) := by decide +kernel
theorem dX11_upTo_87 : decode cX11_upTo 87 = .ok (.iinc 7 1, 3) := by decide +kernel
theorem dX11_upTo_90 : decode cX11_upTo 90 = .ok (.goto (-43), 3) := by decide +kernel
theorem dX11_upTo_93 : decode cX11_upTo 93 = .ok (.iload 6, 2) := by decide +kernel
theorem dX11_upTo_95 : decode cX11_upTo 95 = .ok (.ireturn, 1) := by decide +kernel
theorem dX11_dotMore_0 : decode cX11_dotMore 0 = .ok (.iload_n 1, 1) := by decide +kernel
theorem dX11_dotMore_1 : decode cX11_dotMore 1 = .ok (.iconst 0, 1) := by decide +kernel
theorem dX11_dotMore_2 : decode cX11_dotMore 2 = .ok (.iconst 1, 1) := by decide +kernel
theorem dX11_dotMore_3 : decode cX11_dotMore 3 = .ok (.invokestatic 75, 3) := by decide +kernel
theorem dX11_dotMore_6 : decode cX11_dotMore 6 = .ok (.ifCond .eq 22, 3) := by decide +kernel
theorem dX11_dotMore_9 : decode cX11_dotMore 9 = .ok (.iload_n 2, 1) := by decide +kernel
theorem dX11_dotMore_10 : decode cX11_dotMore 10 = .ok (.iconst 0, 1) := by decide +kernel
theorem dX11_dotMore_11 : decode cX11_dotMore 11 = .ok (.bipush 59, 2) := by decide +kernel
theorem dX11_dotMore_13 : decode cX11_dotMore 13 = .ok (.invokestatic 75, 3) := by decide +kernel
theorem dX11_dotMore_16 : decode cX11_dotMore 16 = .ok (.ifCond .eq 12, 3) := by decide +kernel
theorem dX11_dotMore_19 : decode cX11_dotMore 19 = .ok (.iload_n 3, 1) := by decide +kernel
theorem dX11_dotMore_20 : decode cX11_dotMore 20 = .ok (.iconst 0, 1) := by decide +kernel
theorem dX11_dotMore_21 : decode cX11_dotMore 21 = .ok (.iconst 3, 1) := by decide +kernel
theorem dX11_dotMore_22 : decode cX11_dotMore 22 = .ok (.invokestatic 75, 3) := by decide +kernel
theorem dX11_dotMore_25 : decode cX11_dotMore 25 = .ok (.ifCond .ne 6, 3) := by decide +kernel
theorem dX11_dotMore_28 : decode cX11_dotMore 28 = .ok (.bipush (-2), 2) := by decide +kernel
theorem dX11_dotMore_30 : decode cX11_dotMore 30 = .ok (.ireturn, 1) := by decide +kernel
theorem dX11_dotMore_31 : decode cX11_dotMore 31 = .ok (.aload_n 0, 1) := by decide +kernel
theorem dX11_dotMore_32 : decode cX11_dotMore 32 = .ok (.getfield 25, 3) := by decide +kernel
theorem dX11_dotMore_35 : decode cX11_dotMore 35 = .ok (.iload_n 1, 1) := by decide +kernel
theorem dX11_dotMore_36 : decode cX11_dotMore 36 = .ok (.iaload, 1) := by decide +kernel
theorem dX11_dotMore_37 : decode cX11_dotMore 37 = .ok (.bipush 6, 2) := by decide +kernel
theorem dX11_dotMore_39 : decode cX11_dotMore 39 = .ok (.if_icmp .ne 6, 3) := by decide +kernel
theorem dX11_dotMore_42 : decode cX11_dotMore 42 = .ok (.bipush (-4), 2) := by decide +kernel
theorem dX11_dotMore_44 : decode cX11_dotMore 44 = .ok (.ireturn, 1) := by decide +kernel
theorem dX11_dotMore_45 : decode cX11_dotMore 45 = .ok (.aload_n 0, 1) := by decide +kernel
theorem dX11_dotMore_46 : decode cX11_dotMore 46 = .ok (.getfield 28, 3) := by decide +kernel
theorem dX11_dotMore_49 : decode cX11_dotMore 49 = .ok (.bipush 6, 2) := by decide +kernel
theorem dX11_dotMore_51 : decode cX11_dotMore 51 = .ok (.iload_n 1, 1) := by decide +kernel
theorem dX11_dotMore_52 : decode cX11_dotMore 52 = .ok (.imul, 1) := by decide +kernel
theorem dX11_dotMore_53 : decode cX11_dotMore 53 = .ok (.aload_n 0, 1) := by decide +kernel
theorem dX11_dotMore_54 : decode cX11_dotMore 54 = .ok (.getfield 25, 3) := by decide +kernel
theorem dX11_dotMore_57 : decode cX11_dotMore 57 = .ok (.iload_n 1, 1) := by decide +kernel
theorem dX11_dotMore_58 : decode cX11_dotMore 58 = .ok (.iaload, 1) := by decide +kernel
theorem dX11_dotMore_59 : decode cX11_dotMore 59 = .ok (.iadd, 1) := by decide +kernel
theorem dX11_dotMore_60 : decode cX11_dotMore 60 = .ok (.iload_n 2, 1) := by decide +kernel
theorem dX11_dotMore_61 : decode cX11_dotMore 61 = .ok (.iastore, 1) := by decide +kernel
theorem dX11_dotMore_62 : decode cX11_dotMore 62 = .ok (.aload_n 0, 1) := by decide +kernel
theorem dX11_dotMore_63 : decode cX11_dotMore 63 = .ok (.getfield 31, 3) := by decide +kernel
theorem dX11_dotMore_66 : decode cX11_dotMore 66 = .ok (.bipush 6, 2) := by decide +kernel
theorem dX11_dotMore_68 : decode cX11_dotMore 68 = .ok (.iload_n 1, 1) := by decide +kernel
theorem dX11_dotMore_69 : decode cX11_dotMore 69 = .ok (.imul, 1) := by decide +kernel
theorem dX11_dotMore_70 : decode cX11_dotMore 70 = .ok (.aload_n 0, 1) := by decide +kernel
theorem dX11_dotMore_71 : decode cX11_dotMore 71 = .ok (.getfield 25, 3) := by decide +kernel
theorem dX11_dotMore_74 : decode cX11_dotMore 74 = .ok (.iload_n 1, 1) := by decide +kernel
theorem dX11_dotMore_75 : decode cX11_dotMore 75 = .ok (.iaload, 1) := by decide +kernel
theorem dX11_dotMore_76 : decode cX11_dotMore 76 = .ok (.iadd, 1) := by decide +kernel
theorem dX11_dotMore_77 : decode cX11_dotMore 77 = .ok (.iload_n 3, 1) := by decide +kernel
theorem dX11_dotMore_78 : decode cX11_dotMore 78 = .ok (.iastore, 1) := by decide +kernel
theorem dX11_dotMore_79 : decode cX11_dotMore 79 = .ok (.aload_n 0, 1) := by decide +kernel
theorem dX11_dotMore_80 : decode cX11_dotMore 80 = .ok (.getfield 25, 3) := by decide +kernel
theorem dX11_dotMore_83 : decode cX11_dotMore 83 = .ok (.iload_n 1, 1) := by decide +kernel
theorem dX11_dotMore_84 : decode cX11_dotMore 84 = .ok (.dup2, 1) := by decide +kernel
theorem dX11_dotMore_85 : decode cX11_dotMore 85 = .ok (.iaload, 1) := by decide +kernel
theorem dX11_dotMore_86 : decode cX11_dotMore 86 = .ok (.iconst 1, 1) := by decide +kernel
theorem dX11_dotMore_87 : decode cX11_dotMore 87 = .ok (.iadd, 1) := by decide +kernel
theorem dX11_dotMore_88 : decode cX11_dotMore 88 = .ok (.iastore, 1) := by decide +kernel
theorem dX11_dotMore_89 : decode cX11_dotMore 89 = .ok (.aload_n 0, 1) := by decide +kernel
theorem dX11_dotMore_90 : decode cX11_dotMore 90 = .ok (.getfield 25, 3) := by decide +kernel
theorem dX11_dotMore_93 : decode cX11_dotMore 93 = .ok (.iload_n 1, 1) := by decide +kernel
theorem dX11_dotMore_94 : decode cX11_dotMore 94 = .ok (.iaload, 1) := by decide +kernel
theorem dX11_dotMore_95 : decode cX11_dotMore 95 = .ok (.iconst 1, 1) := by decide +kernel
theorem dX11_dotMore_96 : decode cX11_dotMore 96 = .ok (.isub, 1) := by decide +kernel
theorem dX11_dotMore_97 : decode cX11_dotMore 97 = .ok (.ireturn, 1) := by decide +kernel
theorem dX11_dot_0 : decode cX11_dot 0 = .ok (.aload_n 0, 1) := by decide +kernel
theorem dX11_dot_1 : decode cX11_dot 1 = .ok (.iload_n 1, 1) := by decide +kernel
theorem dX11_dot_2 : decode cX11_dot 2 = .ok (.iload_n 2, 1) := by decide +kernel
theorem dX11_dot_3 : decode cX11_dot 3 = .ok (.iload_n 3, 1) := by decide +kernel
theorem dX11_dot_4 : decode cX11_dot 4 = .ok (.invokevirtual 132, 3) := by decide +kernel
theorem dX11_dot_7 : decode cX11_dot 7 = .ok (.ireturn, 1) := by decide +kernel
theorem dX11_read_0 : decode cX11_read 0 = .ok (.iload_n 1, 1) := by decide +kernel
theorem dX11_read_1 : decode cX11_read 1 = .ok (.invokestatic 135, 3) := by decide +kernel
theorem dX11_read_4 : decode cX11_read 4 = .ok (.ifCond .eq 12, 3) := by decide +kernel
theorem dX11_read_7 : decode cX11_read 7 = .ok (.iload_n 2, 1) := by decide +kernel
theorem dX11_read_8 : decode cX11_read 8 = .ok (.iconst 0, 1) := by decide +kernel
theorem dX11_read_9 : decode cX11_read 9 = .ok (.iconst 1, 1) := by decide +kernel
theorem dX11_read_10 : decode cX11_read 10 = .ok (.invokestatic 75, 3) := by decide +kernel
theorem dX11_read_13 : decode cX11_read 13 = .ok (.ifCond .ne 6, 3) := by decide +kernel
theorem dX11_read_16 : decode cX11_read 16 = .ok (.bipush (-2), 2) := by decide +kernel
theorem dX11_read_18 : decode cX11_read 18 = .ok (.ireturn, 1) := by decide +kernel
theorem dX11_read_19 : decode cX11_read 19 = .ok (.aload_n 0, 1) := by decide +kernel
theorem dX11_read_20 : decode cX11_read 20 = .ok (.getfield 49, 3) := by decide +kernel
theorem dX11_read_23 : decode cX11_read 23 = .ok (.iload_n 1, 1) := by decide +kernel
theorem dX11_read_24 : decode cX11_read 24 = .ok (.baload, 1) := by decide +kernel
theorem dX11_read_25 : decode cX11_read 25 = .ok (.ifCond .ne 9, 3) := by decide +kernel
theorem dX11_read_28 : decode cX11_read 28 = .ok (.aload_n 0, 1) := by decide +kernel
theorem dX11_read_29 : decode cX11_read 29 = .ok (.iconst 1, 1) := by decide +kernel
theorem dX11_read_30 : decode cX11_read 30 = .ok (.invokevirtual 138, 3) := by decide +kernel
theorem dX11_read_33 : decode cX11_read 33 = .ok (.ireturn, 1) := by decide +kernel
theorem dX11_read_34 : decode cX11_read 34 = .ok (.iconst 0, 1) := by decide +kernel
theorem dX11_read_35 : decode cX11_read 35 = .ok (.istore_n 3, 1) := by decide +kernel
theorem dX11_read_36 : decode cX11_read 36 = .ok (.iload_n 3, 1) := by decide +kernel
theorem dX11_read_37 : decode cX11_read 37 = .ok (.aload_n 0, 1) := by decide +kernel
theorem dX11_read_38 : decode cX11_read 38 = .ok (.getfield 56, 3) := by decide +kernel
theorem dX11_read_41 : decode cX11_read 41 = .ok (.iload_n 1, 1) := by decide +kernel
theorem dX11_read_42 : decode cX11_read 42 = .ok (.iaload, 1) := by decide +kernel
theorem dX11_read_43 : decode cX11_read 43 = .ok (.if_icmp .ge 29, 3) := by decide +kernel
theorem dX11_read_46 : decode cX11_read 46 = .ok (.aload_n 0, 1) := by decide +kernel
theorem dX11_read_47 : decode cX11_read 47 = .ok (.iload_n 2, 1) := by decide +kernel
theorem dX11_read_48 : decode cX11_read 48 = .ok (.aload_n 0, 1) := by decide +kernel
theorem dX11_read_49 : decode cX11_read 49 = .ok (.getfield 59, 3) := by decide +kernel
theorem dX11_read_52 : decode cX11_read 52 = .ok (.bipush 60, 2) := by decide +kernel
theorem dX11_read_54 : decode cX11_read 54 = .ok (.iload_n 1, 1) := by decide +kernel
theorem dX11_read_55 : decode cX11_read 55 = .ok (.imul, 1) := by decide +kernel
theorem dX11_read_56 : decode cX11_read 56 = .ok (.iload_n 3, 1) := by decide +kernel
theorem dX11_read_57 : decode cX11_read 57 = .ok (.iadd, 1) := by decide +kernel
theorem dX11_read_58 : decode cX11_read 58 = .ok (.iaload, 1) := by decide +kernel
theorem dX11_read_59 : decode cX11_read 59 = .ok (.iconst 0, 1) := by decide +kernel
theorem dX11_read_60 : decode cX11_read 60 = .ok (.invokevirtual 132, 3) := by decide +kernel
theorem dX11_read_63 : decode cX11_read 63 = .ok (.ifCond .lt 9, 3) := by decide +kernel
theorem dX11_read_66 : decode cX11_read 66 = .ok (.iinc 3 1, 3) := by decide +kernel
theorem dX11_read_69 : decode cX11_read 69 = .ok (.goto (-33), 3) := by decide +kernel
theorem dX11_read_72 : decode cX11_read 72 = .ok (.iload_n 3, 1) := by decide +kernel
theorem dX11_read_73 : decode cX11_read 73 = .ok (.ireturn, 1) := by decide +kernel
theorem dX11_blink_0 : decode cX11_blink 0 = .ok (.iload_n 1, 1) := by decide +kernel
theorem dX11_blink_1 : decode cX11_blink 1 = .ok (.iconst 0, 1) := by decide +kernel
theorem dX11_blink_2 : decode cX11_blink 2 = .ok (.iconst 1, 1) := by decide +kernel
theorem dX11_blink_3 : decode cX11_blink 3 = .ok (.invokestatic 75, 3) := by decide +kernel
theorem dX11_blink_6 : decode cX11_blink 6 = .ok (.ifCond .ne 6, 3) := by decide +kernel
theorem dX11_blink_9 : decode cX11_blink 9 = .ok (.bipush (-2), 2) := by decide +kernel
theorem dX11_blink_11 : decode cX11_blink 11 = .ok (.ireturn, 1) := by decide +kernel
theorem dX11_blink_12 : decode cX11_blink 12 = .ok (.aload_n 0, 1) := by decide +kernel
theorem dX11_blink_13 : decode cX11_blink 13 = .ok (.getfield 25, 3) := by decide +kernel
theorem dX11_blink_16 : decode cX11_blink 16 = .ok (.iload_n 1, 1) := by decide +kernel
theorem dX11_blink_17 : decode cX11_blink 17 = .ok (.iaload, 1) := by decide +kernel
theorem dX11_blink_18 : decode cX11_blink 18 = .ok (.istore_n 2, 1) := by decide +kernel
theorem dX11_blink_19 : decode cX11_blink 19 = .ok (.aload_n 0, 1) := by decide +kernel
theorem dX11_blink_20 : decode cX11_blink 20 = .ok (.getfield 25, 3) := by decide +kernel
theorem dX11_blink_23 : decode cX11_blink 23 = .ok (.iload_n 1, 1) := by decide +kernel
theorem dX11_blink_24 : decode cX11_blink 24 = .ok (.iconst 0, 1) := by decide +kernel
theorem dX11_blink_25 : decode cX11_blink 25 = .ok (.iastore, 1) := by decide +kernel
theorem dX11_blink_26 : decode cX11_blink 26 = .ok (.iload_n 2, 1) := by decide +kernel
theorem dX11_blink_27 : decode cX11_blink 27 = .ok (.ireturn, 1) := by decide +kernel
theorem dX11_way_0 : decode cX11_way 0 = .ok (.iload_n 1, 1) := by decide +kernel
theorem dX11_way_1 : decode cX11_way 1 = .ok (.iload_n 0, 1) := by decide +kernel
theorem dX11_way_2 : decode cX11_way 2 = .ok (.isub, 1) := by decide +kernel
theorem dX11_way_3 : decode cX11_way 3 = .ok (.bipush 60, 2) := by decide +kernel
theorem dX11_way_5 : decode cX11_way 5 = .ok (.iadd, 1) := by decide +kernel
theorem dX11_way_6 : decode cX11_way 6 = .ok (.bipush 60, 2) := by decide +kernel
theorem dX11_way_8 : decode cX11_way 8 = .ok (.irem, 1) := by decide +kernel
theorem dX11_way_9 : decode cX11_way 9 = .ok (.istore_n 2, 1) := by decide +kernel
theorem dX11_way_10 : decode cX11_way 10 = .ok (.iload_n 2, 1) := by decide +kernel
theorem dX11_way_11 : decode cX11_way 11 = .ok (.bipush 30, 2) := by decide +kernel
theorem dX11_way_13 : decode cX11_way 13 = .ok (.if_icmp .le 10, 3) := by decide +kernel
theorem dX11_way_16 : decode cX11_way 16 = .ok (.iload_n 2, 1) := by decide +kernel
theorem dX11_way_17 : decode cX11_way 17 = .ok (.bipush 60, 2) := by decide +kernel
theorem dX11_way_19 : decode cX11_way 19 = .ok (.isub, 1) := by decide +kernel
theorem dX11_way_20 : decode cX11_way 20 = .ok (.goto 4, 3) := by decide +kernel
theorem dX11_way_23 : decode cX11_way 23 = .ok (.iload_n 2, 1) := by decide +kernel
theorem dX11_way_24 : decode cX11_way 24 = .ok (.ireturn, 1) := by decide +kernel
theorem dX11_joins_0 : decode cX11_joins 0 = .ok (.aload_n 0, 1) := by decide +kernel
theorem dX11_joins_1 : decode cX11_joins 1 = .ok (.getfield 25, 3) := by decide +kernel
theorem dX11_joins_4 : decode cX11_joins 4 = .ok (.iconst 1, 1) := by decide +kernel
theorem dX11_joins_5 : decode cX11_joins 5 = .ok (.iaload, 1) := by decide +kernel
theorem dX11_joins_6 : decode cX11_joins 6 = .ok (.aload_n 0, 1) := by decide +kernel
theorem dX11_joins_7 : decode cX11_joins 7 = .ok (.getfield 25, 3) := by decide +kernel
theorem dX11_joins_10 : decode cX11_joins 10 = .ok (.iconst 0, 1) := by decide +kernel
theorem dX11_joins_11 : decode cX11_joins 11 = .ok (.iaload, 1) := by decide +kernel
theorem dX11_joins_12 : decode cX11_joins 12 = .ok (.if_icmp .ge 7, 3) := by decide +kernel
theorem dX11_joins_15 : decode cX11_joins 15 = .ok (.iconst 1, 1) := by decide +kernel
theorem dX11_joins_16 : decode cX11_joins 16 = .ok (.goto 4, 3) := by decide +kernel
theorem dX11_joins_19 : decode cX11_joins 19 = .ok (.iconst 0, 1) := by decide +kernel
theorem dX11_joins_20 : decode cX11_joins 20 = .ok (.istore_n 1, 1) := by decide +kernel
theorem dX11_joins_21 : decode cX11_joins 21 = .ok (.aload_n 0, 1) := by decide +kernel
theorem dX11_joins_22 : decode cX11_joins 22 = .ok (.getfield 25, 3) := by decide +kernel
theorem dX11_joins_25 : decode cX11_joins 25 = .ok (.iload_n 1, 1) := by decide +kernel
theorem dX11_joins_26 : decode cX11_joins 26 = .ok (.iaload, 1) := by decide +kernel
theorem dX11_joins_27 : decode cX11_joins 27 = .ok (.istore_n 2, 1) := by decide +kernel
theorem dX11_joins_28 : decode cX11_joins 28 = .ok (.aload_n 0, 1) := by decide +kernel
theorem dX11_joins_29 : decode cX11_joins 29 = .ok (.getfield 25, 3) := by decide +kernel
theorem dX11_joins_32 : decode cX11_joins 32 = .ok (.iconst 1, 1) := by decide +kernel
theorem dX11_joins_33 : decode cX11_joins 33 = .ok (.iload_n 1, 1) := by decide +kernel
theorem dX11_joins_34 : decode cX11_joins 34 = .ok (.isub, 1) := by decide +kernel
theorem dX11_joins_35 : decode cX11_joins 35 = .ok (.iaload, 1) := by decide +kernel
theorem dX11_joins_36 : decode cX11_joins 36 = .ok (.istore_n 3, 1) := by decide +kernel
theorem dX11_joins_37 : decode cX11_joins 37 = .ok (.aload_n 0, 1) := by decide +kernel
theorem dX11_joins_38 : decode cX11_joins 38 = .ok (.ldc 141, 2) := by decide +kernel
theorem dX11_joins_40 : decode cX11_joins 40 = .ok (.putfield 142, 3) := by decide +kernel
theorem dX11_joins_43 : decode cX11_joins 43 = .ok (.aload_n 0, 1) := by decide +kernel
theorem dX11_joins_44 : decode cX11_joins 44 = .ok (.iconst 0, 1) := by decide +kernel
theorem dX11_joins_45 : decode cX11_joins 45 = .ok (.putfield 146, 3) := by decide +kernel
theorem dX11_joins_48 : decode cX11_joins 48 = .ok (.aload_n 0, 1) := by decide +kernel
theorem dX11_joins_49 : decode cX11_joins 49 = .ok (.iconst 0, 1) := by decide +kernel
theorem dX11_joins_50 : decode cX11_joins 50 = .ok (.putfield 149, 3) := by decide +kernel
theorem dX11_joins_53 : decode cX11_joins 53 = .ok (.aload_n 0, 1) := by decide +kernel
theorem dX11_joins_54 : decode cX11_joins 54 = .ok (.iconst 0, 1) := by decide +kernel
theorem dX11_joins_55 : decode cX11_joins 55 = .ok (.putfield 152, 3) := by decide +kernel
theorem dX11_joins_58 : decode cX11_joins 58 = .ok (.iconst 1, 1) := by decide +kernel
theorem dX11_joins_59 : decode cX11_joins 59 = .ok (.istore 4, 2) := by decide +kernel
theorem dX11_joins_61 : decode cX11_joins 61 = .ok (.iconst 0, 1) := by decide +kernel
theorem dX11_joins_62 : decode cX11_joins 62 = .ok (.istore 5, 2) := by decide +kernel
theorem dX11_joins_64 : decode cX11_joins 64 = .ok (.iload 5, 2) := by decide +kernel
theorem dX11_joins_66 : decode cX11_joins 66 = .ok (.iload_n 2, 1) := by decide +kernel
theorem dX11_joins_67 : decode cX11_joins 67 = .ok (.if_icmp .ge 15, 3) := by decide +kernel
theorem dX11_joins_70 : decode cX11_joins 70 = .ok (.iload 4, 2) := by decide +kernel
theorem dX11_joins_72 : decode cX11_joins 72 = .ok (.iload_n 3, 1) := by decide +kernel
theorem dX11_joins_73 : decode cX11_joins 73 = .ok (.imul, 1) := by decide +kernel
theorem dX11_joins_74 : decode cX11_joins 74 = .ok (.istore 4, 2) := by decide +kernel
theorem dX11_joins_76 : decode cX11_joins 76 = .ok (.iinc 5 1, 3) := by decide +kernel
theorem dX11_joins_79 : decode cX11_joins 79 = .ok (.goto (-15), 3) := by decide +kernel
theorem dX11_joins_82 : decode cX11_joins 82 = .ok (.iconst 0, 1) := by decide +kernel
theorem dX11_joins_83 : decode cX11_joins 83 = .ok (.istore 5, 2) := by decide +kernel
theorem dX11_joins_85 : decode cX11_joins 85 = .ok (.iload 5, 2) := by decide +kernel
theorem dX11_joins_87 : decode cX11_joins 87 = .ok (.iload 4, 2) := by decide +kernel
theorem dX11_joins_89 : decode cX11_joins 89 = .ok (.if_icmp .ge 322, 3) := by decide +kernel
theorem dX11_joins_92 : decode cX11_joins 92 = .ok (.iload 5, 2) := by decide +kernel
theorem dX11_joins_94 : decode cX11_joins 94 = .ok (.istore 6, 2) := by decide +kernel
theorem dX11_joins_96 : decode cX11_joins 96 = .ok (.iconst 0, 1) := by decide +kernel
theorem dX11_joins_97 : decode cX11_joins 97 = .ok (.istore 7, 2) := by decide +kernel
theorem dX11_joins_99 : decode cX11_joins 99 = .ok (.iconst 0, 1) := by decide +kernel
theorem dX11_joins_100 : decode cX11_joins 100 = .ok (.istore 8, 2) := by decide +kernel
theorem dX11_joins_102 : decode cX11_joins 102 = .ok (.iconst 0, 1) := by decide +kernel
theorem dX11_joins_103 : decode cX11_joins 103 = .ok (.istore 9, 2) := by decide +kernel
theorem dX11_joins_105 : decode cX11_joins 105 = .ok (.iconst 1, 1) := by decide +kernel
theorem dX11_joins_106 : decode cX11_joins 106 = .ok (.istore 10, 2) := by decide +kernel
theorem dX11_joins_108 : decode cX11_joins 108 = .ok (.iload_n 2, 1) := by decide +kernel
theorem dX11_joins_109 : decode cX11_joins 109 = .ok (.iconst 1, 1) := by decide +kernel
theorem dX11_joins_110 : decode cX11_joins 110 = .ok (.isub, 1) := by decide +kernel
theorem dX11_joins_111 : decode cX11_joins 111 = .ok (.istore 11, 2) := by decide +kernel
theorem dX11_joins_113 : decode cX11_joins 113 = .ok (.iload 11, 2) := by decide +kernel
theorem dX11_joins_115 : decode cX11_joins 115 = .ok (.ifCond .lt 180, 3) := by decide +kernel
theorem dX11_joins_118 : decode cX11_joins 118 = .ok (.aload_n 0, 1) := by decide +kernel
theorem dX11_joins_119 : decode cX11_joins 119 = .ok (.getfield 34, 3) := by decide +kernel
theorem dX11_joins_122 : decode cX11_joins 122 = .ok (.iload 11, 2) := by decide +kernel
theorem dX11_joins_124 : decode cX11_joins 124 = .ok (.iload 6, 2) := by decide +kernel
theorem dX11_joins_126 : decode cX11_joins 126 = .ok (.iload_n 3, 1) := by decide +kernel
theorem dX11_joins_127 : decode cX11_joins 127 = .ok (.irem, 1) := by decide +kernel
theorem dX11_joins_128 : decode cX11_joins 128 = .ok (.iastore, 1) := by decide +kernel
theorem dX11_joins_129 : decode cX11_joins 129 = .ok (.iload 6, 2) := by decide +kernel
theorem dX11_joins_131 : decode cX11_joins 131 = .ok (.iload_n 3, 1) := by decide +kernel
theorem dX11_joins_132 : decode cX11_joins 132 = .ok (.idiv, 1) := by decide +kernel
theorem dX11_joins_133 : decode cX11_joins 133 = .ok (.istore 6, 2) := by decide +kernel
theorem dX11_joins_135 : decode cX11_joins 135 = .ok (.iload 10, 2) := by decide +kernel
theorem dX11_joins_137 : decode cX11_joins 137 = .ok (.ifCond .eq 22, 3) := by decide +kernel
theorem dX11_joins_140 : decode cX11_joins 140 = .ok (.iload 7, 2) := by decide +kernel
theorem dX11_joins_142 : decode cX11_joins 142 = .ok (.aload_n 0, 1) := by decide +kernel
theorem dX11_joins_143 : decode cX11_joins 143 = .ok (.getfield 34, 3) := by decide +kernel
theorem dX11_joins_146 : decode cX11_joins 146 = .ok (.iload 11, 2) := by decide +kernel
theorem dX11_joins_148 : decode cX11_joins 148 = .ok (.iaload, 1) := by decide +kernel
theorem dX11_joins_149 : decode cX11_joins 149 = .ok (.invokestatic 155, 3) := by decide +kernel
theorem dX11_joins_152 : decode cX11_joins 152 = .ok (.ifCond .ne 7, 3) := by decide +kernel
theorem dX11_joins_155 : decode cX11_joins 155 = .ok (.iconst 1, 1) := by decide +kernel
theorem dX11_joins_156 : decode cX11_joins 156 = .ok (.goto 4, 3) := by decide +kernel
theorem dX11_joins_159 : decode cX11_joins 159 = .ok (.iconst 0, 1) := by decide +kernel
theorem dX11_joins_160 : decode cX11_joins 160 = .ok (.istore 10, 2) := by decide +kernel
theorem dX11_joins_162 : decode cX11_joins 162 = .ok (.iload 7, 2) := by decide +kernel
theorem dX11_joins_164 : decode cX11_joins 164 = .ok (.iconst 1, 1) := by decide +kernel
theorem dX11_joins_165 : decode cX11_joins 165 = .ok (.aload_n 0, 1) := by decide +kernel
theorem dX11_joins_166 : decode cX11_joins 166 = .ok (.getfield 34, 3) := by decide +kernel
theorem dX11_joins_169 : decode cX11_joins 169 = .ok (.iload 11, 2) := by decide +kernel
theorem dX11_joins_171 : decode cX11_joins 171 = .ok (.iaload, 1) := by decide +kernel
theorem dX11_joins_172 : decode cX11_joins 172 = .ok (.ishl, 1) := by decide +kernel
theorem dX11_joins_173 : decode cX11_joins 173 = .ok (.ior, 1) := by decide +kernel
theorem dX11_joins_174 : decode cX11_joins 174 = .ok (.istore 7, 2) := by decide +kernel
theorem dX11_joins_176 : decode cX11_joins 176 = .ok (.bipush 6, 2) := by decide +kernel
theorem dX11_joins_178 : decode cX11_joins 178 = .ok (.iload_n 1, 1) := by decide +kernel
theorem dX11_joins_179 : decode cX11_joins 179 = .ok (.imul, 1) := by decide +kernel
theorem dX11_joins_180 : decode cX11_joins 180 = .ok (.iload 11, 2) := by decide +kernel
theorem dX11_joins_182 : decode cX11_joins 182 = .ok (.iadd, 1) := by decide +kernel
theorem dX11_joins_183 : decode cX11_joins 183 = .ok (.istore 12, 2) := by decide +kernel
theorem dX11_joins_185 : decode cX11_joins 185 = .ok (.bipush 6, 2) := by decide +kernel
theorem dX11_joins_187 : decode cX11_joins 187 = .ok (.iconst 1, 1) := by decide +kernel
theorem dX11_joins_188 : decode cX11_joins 188 = .ok (.iload_n 1, 1) := by decide +kernel
theorem dX11_joins_189 : decode cX11_joins 189 = .ok (.isub, 1) := by decide +kernel
theorem dX11_joins_190 : decode cX11_joins 190 = .ok (.imul, 1) := by decide +kernel
theorem dX11_joins_191 : decode cX11_joins 191 = .ok (.aload_n 0, 1) := by decide +kernel
theorem dX11_joins_192 : decode cX11_joins 192 = .ok (.getfield 34, 3) := by decide +kernel
theorem dX11_joins_195 : decode cX11_joins 195 = .ok (.iload 11, 2) := by decide +kernel
theorem dX11_joins_197 : decode cX11_joins 197 = .ok (.iaload, 1) := by decide +kernel
theorem dX11_joins_198 : decode cX11_joins 198 = .ok (.iadd, 1) := by decide +kernel
theorem dX11_joins_199 : decode cX11_joins 199 = .ok (.istore 13, 2) := by decide +kernel
theorem dX11_joins_201 : decode cX11_joins 201 = .ok (.iload_n 1, 1) := by decide +kernel
theorem dX11_joins_202 : decode cX11_joins 202 = .ok (.ifCond .ne 23, 3) := by decide +kernel
theorem dX11_joins_205 : decode cX11_joins 205 = .ok (.aload_n 0, 1) := by decide +kernel
theorem dX11_joins_206 : decode cX11_joins 206 = .ok (.getfield 28, 3) := by decide +kernel
theorem dX11_joins_209 : decode cX11_joins 209 = .ok (.iload 12, 2) := by decide +kernel
theorem dX11_joins_211 : decode cX11_joins 211 = .ok (.iaload, 1) := by decide +kernel
theorem dX11_joins_212 : decode cX11_joins 212 = .ok (.aload_n 0, 1) := by decide +kernel
theorem dX11_joins_213 : decode cX11_joins 213 = .ok (.getfield 28, 3) := by decide +kernel
theorem dX11_joins_216 : decode cX11_joins 216 = .ok (.iload 13, 2) := by decide +kernel
theorem dX11_joins_218 : decode cX11_joins 218 = .ok (.iaload, 1) := by decide +kernel
theorem dX11_joins_219 : decode cX11_joins 219 = .ok (.invokestatic 159, 3) := by decide +kernel
theorem dX11_joins_222 : decode cX11_joins 222 = .ok (.goto 20, 3) := by decide +kernel
theorem dX11_joins_225 : decode cX11_joins 225 = .ok (.aload_n 0, 1) := by decide +kernel
theorem dX11_joins_226 : decode cX11_joins 226 = .ok (.getfield 28, 3) := by decide +kernel
theorem dX11_joins_229 : decode cX11_joins 229 = .ok (.iload 13, 2) := by decide +kernel
theorem dX11_joins_231 : decode cX11_joins 231 = .ok (.iaload, 1) := by decide +kernel
theorem dX11_joins_232 : decode cX11_joins 232 = .ok (.aload_n 0, 1) := by decide +kernel
theorem dX11_joins_233 : decode cX11_joins 233 = .ok (.getfield 28, 3) := by decide +kernel
theorem dX11_joins_236 : decode cX11_joins 236 = .ok (.iload 12, 2) := by decide +kernel
theorem dX11_joins_238 : decode cX11_joins 238 = .ok (.iaload, 1) := by decide +kernel
theorem dX11_joins_239 : decode cX11_joins 239 = .ok (.invokestatic 159, 3) := by decide +kernel
theorem dX11_joins_242 : decode cX11_joins 242 = .ok (.istore 14, 2) := by decide +kernel
theorem dX11_joins_244 : decode cX11_joins 244 = .ok (.iload 9, 2) := by decide +kernel
theorem dX11_joins_246 : decode cX11_joins 246 = .ok (.iload 14, 2) := by decide +kernel
theorem dX11_joins_248 : decode cX11_joins 248 = .ok (.iadd, 1) := by decide +kernel
theorem dX11_joins_249 : decode cX11_joins 249 = .ok (.istore 9, 2) := by decide +kernel
theorem dX11_joins_251 : decode cX11_joins 251 = .ok (.iload 8, 2) := by decide +kernel
theorem dX11_joins_253 : decode cX11_joins 253 = .ok (.iload 14, 2) := by decide +kernel
theorem dX11_joins_255 : decode cX11_joins 255 = .ok (.invokestatic 67, 3) := by decide +kernel
theorem dX11_joins_258 : decode cX11_joins 258 = .ok (.aload_n 0, 1) := by decide +kernel
theorem dX11_joins_259 : decode cX11_joins 259 = .ok (.getfield 31, 3) := by decide +kernel
theorem dX11_joins_262 : decode cX11_joins 262 = .ok (.iload 12, 2) := by decide +kernel
theorem dX11_joins_264 : decode cX11_joins 264 = .ok (.iaload, 1) := by decide +kernel
theorem dX11_joins_265 : decode cX11_joins 265 = .ok (.aload_n 0, 1) := by decide +kernel
theorem dX11_joins_266 : decode cX11_joins 266 = .ok (.getfield 31, 3) := by decide +kernel
theorem dX11_joins_269 : decode cX11_joins 269 = .ok (.iload 13, 2) := by decide +kernel
theorem dX11_joins_271 : decode cX11_joins 271 = .ok (.iaload, 1) := by decide +kernel
theorem dX11_joins_272 : decode cX11_joins 272 = .ok (.if_icmp .ne 7, 3) := by decide +kernel
theorem dX11_joins_275 : decode cX11_joins 275 = .ok (.iconst 0, 1) := by decide +kernel
theorem dX11_joins_276 : decode cX11_joins 276 = .ok (.goto 9, 3) := by decide +kernel
theorem dX11_joins_279 : decode cX11_joins 279 = .ok (.aload_n 0, 1) := by decide +kernel
theorem dX11_joins_280 : decode cX11_joins 280 = .ok (.getfield 22, 3) := by decide +kernel
theorem dX11_joins_283 : decode cX11_joins 283 = .ok (.iconst 1, 1) := by decide +kernel
theorem dX11_joins_284 : decode cX11_joins 284 = .ok (.iaload, 1) := by decide +kernel
theorem dX11_joins_285 : decode cX11_joins 285 = .ok (.iadd, 1) := by decide +kernel
theorem dX11_joins_286 : decode cX11_joins 286 = .ok (.iadd, 1) := by decide +kernel
theorem dX11_joins_287 : decode cX11_joins 287 = .ok (.istore 8, 2) := by decide +kernel
theorem dX11_joins_289 : decode cX11_joins 289 = .ok (.iinc 11 (-1), 3) := by decide +kernel
theorem dX11_joins_292 : decode cX11_joins 292 = .ok (.goto (-179), 3) := by decide +kernel
theorem dX11_joins_295 : decode cX11_joins 295 = .ok (.iload 10, 2) := by decide +kernel
theorem dX11_joins_297 : decode cX11_joins 297 = .ok (.ifCond .eq 63, 3) := by decide +kernel
theorem dX11_joins_300 : decode cX11_joins 300 = .ok (.iload 8, 2) := by decide +kernel
theorem dX11_joins_302 : decode cX11_joins 302 = .ok (.aload_n 0, 1) := by decide +kernel
theorem dX11_joins_303 : decode cX11_joins 303 = .ok (.getfield 142, 3) := by decide +kernel
theorem dX11_joins_306 : decode cX11_joins 306 = .ok (.if_icmp .ge 54, 3) := by decide +kernel
theorem dX11_joins_309 : decode cX11_joins 309 = .ok (.aload_n 0, 1) := by decide +kernel
theorem dX11_joins_310 : decode cX11_joins 310 = .ok (.iload 8, 2) := by decide +kernel
theorem dX11_joins_312 : decode cX11_joins 312 = .ok (.putfield 142, 3) := by decide +kernel
theorem dX11_joins_315 : decode cX11_joins 315 = .ok (.aload_n 0, 1) := by decide +kernel
theorem dX11_joins_316 : decode cX11_joins 316 = .ok (.iconst 0, 1) := by decide +kernel
theorem dX11_joins_317 : decode cX11_joins 317 = .ok (.putfield 146, 3) := by decide +kernel
theorem dX11_joins_320 : decode cX11_joins 320 = .ok (.aload_n 0, 1) := by decide +kernel
theorem dX11_joins_321 : decode cX11_joins 321 = .ok (.iload 9, 2) := by decide +kernel
theorem dX11_joins_323 : decode cX11_joins 323 = .ok (.putfield 149, 3) := by decide +kernel
theorem dX11_joins_326 : decode cX11_joins 326 = .ok (.aload_n 0, 1) := by decide +kernel
theorem dX11_joins_327 : decode cX11_joins 327 = .ok (.iconst 0, 1) := by decide +kernel
theorem dX11_joins_328 : decode cX11_joins 328 = .ok (.putfield 152, 3) := by decide +kernel
theorem dX11_joins_331 : decode cX11_joins 331 = .ok (.iconst 0, 1) := by decide +kernel
theorem dX11_joins_332 : decode cX11_joins 332 = .ok (.istore 11, 2) := by decide +kernel
theorem dX11_joins_334 : decode cX11_joins 334 = .ok (.iload 11, 2) := by decide +kernel
theorem dX11_joins_336 : decode cX11_joins 336 = .ok (.iload_n 2, 1) := by decide +kernel
theorem dX11_joins_337 : decode cX11_joins 337 = .ok (.if_icmp .ge 23, 3) := by decide +kernel
theorem dX11_joins_340 : decode cX11_joins 340 = .ok (.aload_n 0, 1) := by decide +kernel
theorem dX11_joins_341 : decode cX11_joins 341 = .ok (.getfield 37, 3) := by decide +kernel
theorem dX11_joins_344 : decode cX11_joins 344 = .ok (.iload 11, 2) := by decide +kernel
theorem dX11_joins_346 : decode cX11_joins 346 = .ok (.aload_n 0, 1) := by decide +kernel
theorem dX11_joins_347 : decode cX11_joins 347 = .ok (.getfield 34, 3) := by decide +kernel
theorem dX11_joins_350 : decode cX11_joins 350 = .ok (.iload 11, 2) := by decide +kernel
theorem dX11_joins_352 : decode cX11_joins 352 = .ok (.iaload, 1) := by decide +kernel
theorem dX11_joins_353 : decode cX11_joins 353 = .ok (.iastore, 1) := by decide +kernel
theorem dX11_joins_354 : decode cX11_joins 354 = .ok (.iinc 11 1, 3) := by decide +kernel
theorem dX11_joins_357 : decode cX11_joins 357 = .ok (.goto (-23), 3) := by decide +kernel
theorem dX11_joins_360 : decode cX11_joins 360 = .ok (.iload 10, 2) := by decide +kernel
theorem dX11_joins_362 : decode cX11_joins 362 = .ok (.ifCond .eq 43, 3) := by decide +kernel
theorem dX11_joins_365 : decode cX11_joins 365 = .ok (.iload 8, 2) := by decide +kernel
theorem dX11_joins_367 : decode cX11_joins 367 = .ok (.aload_n 0, 1) := by decide +kernel
theorem dX11_joins_368 : decode cX11_joins 368 = .ok (.getfield 142, 3) := by decide +kernel
theorem dX11_joins_371 : decode cX11_joins 371 = .ok (.if_icmp .ne 34, 3) := by decide +kernel
theorem dX11_joins_374 : decode cX11_joins 374 = .ok (.aload_n 0, 1) := by decide +kernel
theorem dX11_joins_375 : decode cX11_joins 375 = .ok (.dup, 1) := by decide +kernel
theorem dX11_joins_376 : decode cX11_joins 376 = .ok (.getfield 146, 3) := by decide +kernel
theorem dX11_joins_379 : decode cX11_joins 379 = .ok (.iconst 1, 1) := by decide +kernel
theorem dX11_joins_380 : decode cX11_joins 380 = .ok (.iadd, 1) := by decide +kernel
theorem dX11_joins_381 : decode cX11_joins 381 = .ok (.putfield 146, 3) := by decide +kernel
theorem dX11_joins_384 : decode cX11_joins 384 = .ok (.aload_n 0, 1) := by decide +kernel
theorem dX11_joins_385 : decode cX11_joins 385 = .ok (.iload 9, 2) := by decide +kernel
theorem dX11_joins_387 : decode cX11_joins 387 = .ok (.aload_n 0, 1) := by decide +kernel
theorem dX11_joins_388 : decode cX11_joins 388 = .ok (.getfield 149, 3) := by decide +kernel
theorem dX11_joins_391 : decode cX11_joins 391 = .ok (.if_icmp .eq 7, 3) := by decide +kernel
theorem dX11_joins_394 : decode cX11_joins 394 = .ok (.iconst 1, 1) := by decide +kernel
theorem dX11_joins_395 : decode cX11_joins 395 = .ok (.goto 7, 3) := by decide +kernel
theorem dX11_joins_398 : decode cX11_joins 398 = .ok (.aload_n 0, 1) := by decide +kernel
theorem dX11_joins_399 : decode cX11_joins 399 = .ok (.getfield 152, 3) := by decide +kernel
theorem dX11_joins_402 : decode cX11_joins 402 = .ok (.putfield 152, 3) := by decide +kernel
theorem dX11_joins_405 : decode cX11_joins 405 = .ok (.iinc 5 1, 3) := by decide +kernel
theorem dX11_joins_408 : decode cX11_joins 408 = .ok (.goto (-323), 3) := by decide +kernel
theorem dX11_joins_411 : decode cX11_joins 411 = .ok (.return_, 1) := by decide +kernel
theorem dX11_joinNow_0 : decode cX11_joinNow 0 = .ok (.aload_n 0, 1) := by decide +kernel
theorem dX11_joinNow_1 : decode cX11_joinNow 1 = .ok (.invokevirtual 162, 3) := by decide +kernel
theorem dX11_joinNow_4 : decode cX11_joinNow 4 = .ok (.iload_n 1, 1) := by decide +kernel
theorem dX11_joinNow_5 : decode cX11_joinNow 5 = .ok (.ifCond .ne 10, 3) := by decide +kernel
theorem dX11_joinNow_8 : decode cX11_joinNow 8 = .ok (.aload_n 0, 1) := by decide +kernel
theorem dX11_joinNow_9 : decode cX11_joinNow 9 = .ok (.getfield 142, 3) := by decide +kernel
theorem dX11_joinNow_12 : decode cX11_joinNow 12 = .ok (.goto 19, 3) := by decide +kernel
theorem dX11_joinNow_15 : decode cX11_joinNow 15 = .ok (.iload_n 1, 1) := by decide +kernel
theorem dX11_joinNow_16 : decode cX11_joinNow 16 = .ok (.iconst 1, 1) := by decide +kernel
theorem dX11_joinNow_17 : decode cX11_joinNow 17 = .ok (.if_icmp .ne 10, 3) := by decide +kernel
theorem dX11_joinNow_20 : decode cX11_joinNow 20 = .ok (.aload_n 0, 1) := by decide +kernel
theorem dX11_joinNow_21 : decode cX11_joinNow 21 = .ok (.getfield 146, 3) := by decide +kernel
theorem dX11_joinNow_24 : decode cX11_joinNow 24 = .ok (.goto 7, 3) := by decide +kernel
theorem dX11_joinNow_27 : decode cX11_joinNow 27 = .ok (.aload_n 0, 1) := by decide +kernel
theorem dX11_joinNow_28 : decode cX11_joinNow 28 = .ok (.getfield 152, 3) := by decide +kernel
theorem dX11_joinNow_31 : decode cX11_joinNow 31 = .ok (.ireturn, 1) := by decide +kernel
theorem dX11_join_0 : decode cX11_join 0 = .ok (.iload_n 1, 1) := by decide +kernel
theorem dX11_join_1 : decode cX11_join 1 = .ok (.iconst 0, 1) := by decide +kernel
theorem dX11_join_2 : decode cX11_join 2 = .ok (.iconst 2, 1) := by decide +kernel
theorem dX11_join_3 : decode cX11_join 3 = .ok (.invokestatic 75, 3) := by decide +kernel
theorem dX11_join_6 : decode cX11_join 6 = .ok (.ifCond .eq 11, 3) := by decide +kernel
theorem dX11_join_9 : decode cX11_join 9 = .ok (.aload_n 0, 1) := by decide +kernel
theorem dX11_join_10 : decode cX11_join 10 = .ok (.iload_n 1, 1) := by decide +kernel
theorem dX11_join_11 : decode cX11_join 11 = .ok (.invokevirtual 165, 3) := by decide +kernel
theorem dX11_join_14 : decode cX11_join 14 = .ok (.goto 5, 3) := by decide +kernel
theorem dX11_join_17 : decode cX11_join 17 = .ok (.bipush (-2), 2) := by decide +kernel
theorem dX11_join_19 : decode cX11_join 19 = .ok (.ireturn, 1) := by decide +kernel
theorem dX11_netNow_0 : decode cX11_netNow 0 = .ok (.aload_n 0, 1) := by decide +kernel
theorem dX11_netNow_1 : decode cX11_netNow 1 = .ok (.invokevirtual 162, 3) := by decide +kernel
theorem dX11_netNow_4 : decode cX11_netNow 4 = .ok (.aload_n 0, 1) := by decide +kernel
theorem dX11_netNow_5 : decode cX11_netNow 5 = .ok (.getfield 149, 3) := by decide +kernel
theorem dX11_netNow_8 : decode cX11_netNow 8 = .ok (.ireturn, 1) := by decide +kernel
theorem dX11_net_0 : decode cX11_net 0 = .ok (.aload_n 0, 1) := by decide +kernel
theorem dX11_net_1 : decode cX11_net 1 = .ok (.invokevirtual 168, 3) := by decide +kernel
theorem dX11_net_4 : decode cX11_net 4 = .ok (.ireturn, 1) := by decide +kernel
theorem dX11_joinedNow_0 : decode cX11_joinedNow 0 = .ok (.aload_n 0, 1) := by decide +kernel
theorem dX11_joinedNow_1 : decode cX11_joinedNow 1 = .ok (.invokevirtual 162, 3) := by decide +kernel
theorem dX11_joinedNow_4 : decode cX11_joinedNow 4 = .ok (.aload_n 0, 1) := by decide +kernel
theorem dX11_joinedNow_5 : decode cX11_joinedNow 5 = .ok (.getfield 25, 3) := by decide +kernel
theorem dX11_joinedNow_8 : decode cX11_joinedNow 8 = .ok (.iconst 1, 1) := by decide +kernel
theorem dX11_joinedNow_9 : decode cX11_joinedNow 9 = .ok (.iaload, 1) := by decide +kernel
theorem dX11_joinedNow_10 : decode cX11_joinedNow 10 = .ok (.aload_n 0, 1) := by decide +kernel
theorem dX11_joinedNow_11 : decode cX11_joinedNow 11 = .ok (.getfield 25, 3) := by decide +kernel
theorem dX11_joinedNow_14 : decode cX11_joinedNow 14 = .ok (.iconst 0, 1) := by decide +kernel
theorem dX11_joinedNow_15 : decode cX11_joinedNow 15 = .ok (.iaload, 1) := by decide +kernel
theorem dX11_joinedNow_16 : decode cX11_joinedNow 16 = .ok (.if_icmp .ge 7, 3) := by decide +kernel
theorem dX11_joinedNow_19 : decode cX11_joinedNow 19 = .ok (.iconst 1, 1) := by decide +kernel
theorem dX11_joinedNow_20 : decode cX11_joinedNow 20 = .ok (.goto 4, 3) := by decide +kernel
theorem dX11_joinedNow_23 : decode cX11_joinedNow 23 = .ok (.iconst 0, 1) := by decide +kernel
theorem dX11_joinedNow_24 : decode cX11_joinedNow 24 = .ok (.istore_n 3, 1) := by decide +kernel
theorem dX11_joinedNow_25 : decode cX11_joinedNow 25 = .ok (.iload_n 1, 1) := by decide +kernel
theorem dX11_joinedNow_26 : decode cX11_joinedNow 26 = .ok (.iload_n 3, 1) := by decide +kernel
theorem dX11_joinedNow_27 : decode cX11_joinedNow 27 = .ok (.if_icmp .ne 10, 3) := by decide +kernel
theorem dX11_joinedNow_30 : decode cX11_joinedNow 30 = .ok (.aload_n 0, 1) := by decide +kernel
theorem dX11_joinedNow_31 : decode cX11_joinedNow 31 = .ok (.getfield 37, 3) := by decide +kernel
theorem dX11_joinedNow_34 : decode cX11_joinedNow 34 = .ok (.iload_n 2, 1) := by decide +kernel
theorem dX11_joinedNow_35 : decode cX11_joinedNow 35 = .ok (.iaload, 1) := by decide +kernel
theorem dX11_joinedNow_36 : decode cX11_joinedNow 36 = .ok (.ireturn, 1) := by decide +kernel
theorem dX11_joinedNow_37 : decode cX11_joinedNow 37 = .ok (.iconst 0, 1) := by decide +kernel
theorem dX11_joinedNow_38 : decode cX11_joinedNow 38 = .ok (.istore 4, 2) := by decide +kernel
theorem dX11_joinedNow_40 : decode cX11_joinedNow 40 = .ok (.iload 4, 2) := by decide +kernel
theorem dX11_joinedNow_42 : decode cX11_joinedNow 42 = .ok (.aload_n 0, 1) := by decide +kernel
theorem dX11_joinedNow_43 : decode cX11_joinedNow 43 = .ok (.getfield 25, 3) := by decide +kernel
theorem dX11_joinedNow_46 : decode cX11_joinedNow 46 = .ok (.iload_n 3, 1) := by decide +kernel
theorem dX11_joinedNow_47 : decode cX11_joinedNow 47 = .ok (.iaload, 1) := by decide +kernel
theorem dX11_joinedNow_48 : decode cX11_joinedNow 48 = .ok (.if_icmp .ge 23, 3) := by decide +kernel
theorem dX11_joinedNow_51 : decode cX11_joinedNow 51 = .ok (.aload_n 0, 1) := by decide +kernel
theorem dX11_joinedNow_52 : decode cX11_joinedNow 52 = .ok (.getfield 37, 3) := by decide +kernel
theorem dX11_joinedNow_55 : decode cX11_joinedNow 55 = .ok (.iload 4, 2) := by decide +kernel
theorem dX11_joinedNow_57 : decode cX11_joinedNow 57 = .ok (.iaload, 1) := by decide +kernel
theorem dX11_joinedNow_58 : decode cX11_joinedNow 58 = .ok (.iload_n 2, 1) := by decide +kernel
theorem dX11_joinedNow_59 : decode cX11_joinedNow 59 = .ok (.if_icmp .ne 6, 3) := by decide +kernel
theorem dX11_joinedNow_62 : decode cX11_joinedNow 62 = .ok (.iload 4, 2) := by decide +kernel
theorem dX11_joinedNow_64 : decode cX11_joinedNow 64 = .ok (.ireturn, 1) := by decide +kernel
theorem dX11_joinedNow_65 : decode cX11_joinedNow 65 = .ok (.iinc 4 1, 3) := by decide +kernel
theorem dX11_joinedNow_68 : decode cX11_joinedNow 68 = .ok (.goto (-28), 3) := by decide +kernel
theorem dX11_joinedNow_71 : decode cX11_joinedNow 71 = .ok (.iconst (-1), 1) := by decide +kernel
theorem dX11_joinedNow_72 : decode cX11_joinedNow 72 = .ok (.ireturn, 1) := by decide +kernel
theorem dX11_joined_0 : decode cX11_joined 0 = .ok (.iload_n 1, 1) := by decide +kernel
theorem dX11_joined_1 : decode cX11_joined 1 = .ok (.iconst 0, 1) := by decide +kernel
theorem dX11_joined_2 : decode cX11_joined 2 = .ok (.iconst 1, 1) := by decide +kernel
theorem dX11_joined_3 : decode cX11_joined 3 = .ok (.invokestatic 75, 3) := by decide +kernel
theorem dX11_joined_6 : decode cX11_joined 6 = .ok (.ifCond .eq 28, 3) := by decide +kernel
theorem dX11_joined_9 : decode cX11_joined 9 = .ok (.iload_n 2, 1) := by decide +kernel
theorem dX11_joined_10 : decode cX11_joined 10 = .ok (.iconst 0, 1) := by decide +kernel
theorem dX11_joined_11 : decode cX11_joined 11 = .ok (.aload_n 0, 1) := by decide +kernel
theorem dX11_joined_12 : decode cX11_joined 12 = .ok (.getfield 25, 3) := by decide +kernel
theorem dX11_joined_15 : decode cX11_joined 15 = .ok (.iload_n 1, 1) := by decide +kernel
theorem dX11_joined_16 : decode cX11_joined 16 = .ok (.iaload, 1) := by decide +kernel
theorem dX11_joined_17 : decode cX11_joined 17 = .ok (.iconst 1, 1) := by decide +kernel
theorem dX11_joined_18 : decode cX11_joined 18 = .ok (.isub, 1) := by decide +kernel
theorem dX11_joined_19 : decode cX11_joined 19 = .ok (.invokestatic 75, 3) := by decide +kernel
theorem dX11_joined_22 : decode cX11_joined 22 = .ok (.ifCond .eq 12, 3) := by decide +kernel
theorem dX11_joined_25 : decode cX11_joined 25 = .ok (.aload_n 0, 1) := by decide +kernel
theorem dX11_joined_26 : decode cX11_joined 26 = .ok (.iload_n 1, 1) := by decide +kernel
theorem dX11_joined_27 : decode cX11_joined 27 = .ok (.iload_n 2, 1) := by decide +kernel
theorem dX11_joined_28 : decode cX11_joined 28 = .ok (.invokevirtual 172, 3) := by decide +kernel
theorem dX11_joined_31 : decode cX11_joined 31 = .ok (.goto 5, 3) := by decide +kernel
theorem dX11_joined_34 : decode cX11_joined 34 = .ok (.bipush (-2), 2) := by decide +kernel
theorem dX11_joined_36 : decode cX11_joined 36 = .ok (.ireturn, 1) := by decide +kernel
theorem dX11_isFar_0 : decode cX11_isFar 0 = .ok (.iload_n 0, 1) := by decide +kernel
theorem dX11_isFar_1 : decode cX11_isFar 1 = .ok (.iconst 1, 1) := by decide +kernel
theorem dX11_isFar_2 : decode cX11_isFar 2 = .ok (.bipush 99, 2) := by decide +kernel
theorem dX11_isFar_4 : decode cX11_isFar 4 = .ok (.invokestatic 75, 3) := by decide +kernel
theorem dX11_isFar_7 : decode cX11_isFar 7 = .ok (.ireturn, 1) := by decide +kernel
theorem dX11_narrow_0 : decode cX11_narrow 0 = .ok (.iload_n 1, 1) := by decide +kernel
theorem dX11_narrow_1 : decode cX11_narrow 1 = .ok (.invokestatic 175, 3) := by decide +kernel
theorem dX11_narrow_4 : decode cX11_narrow 4 = .ok (.ifCond .eq 41, 3) := by decide +kernel
theorem dX11_narrow_7 : decode cX11_narrow 7 = .ok (.iload_n 2, 1) := by decide +kernel
theorem dX11_narrow_8 : decode cX11_narrow 8 = .ok (.invokestatic 175, 3) := by decide +kernel
theorem dX11_narrow_11 : decode cX11_narrow 11 = .ok (.ifCond .eq 34, 3) := by decide +kernel
theorem dX11_narrow_14 : decode cX11_narrow 14 = .ok (.iload_n 3, 1) := by decide +kernel
theorem dX11_narrow_15 : decode cX11_narrow 15 = .ok (.invokestatic 175, 3) := by decide +kernel
theorem dX11_narrow_18 : decode cX11_narrow 18 = .ok (.ifCond .eq 27, 3) := by decide +kernel
theorem dX11_narrow_21 : decode cX11_narrow 21 = .ok (.iload 4, 2) := by decide +kernel
theorem dX11_narrow_23 : decode cX11_narrow 23 = .ok (.iconst 0, 1) := by decide +kernel
theorem dX11_narrow_24 : decode cX11_narrow 24 = .ok (.iconst 1, 1) := by decide +kernel
theorem dX11_narrow_25 : decode cX11_narrow 25 = .ok (.invokestatic 75, 3) := by decide +kernel
theorem dX11_narrow_28 : decode cX11_narrow 28 = .ok (.ifCond .eq 17, 3) := by decide +kernel
theorem dX11_narrow_31 : decode cX11_narrow 31 = .ok (.iload_n 1, 1) := by decide +kernel
theorem dX11_narrow_32 : decode cX11_narrow 32 = .ok (.iload_n 3, 1) := by decide +kernel
theorem dX11_narrow_33 : decode cX11_narrow 33 = .ok (.imul, 1) := by decide +kernel
theorem dX11_narrow_34 : decode cX11_narrow 34 = .ok (.iload_n 2, 1) := by decide +kernel
theorem dX11_narrow_35 : decode cX11_narrow 35 = .ok (.iload_n 3, 1) := by decide +kernel
theorem dX11_narrow_36 : decode cX11_narrow 36 = .ok (.iadd, 1) := by decide +kernel
theorem dX11_narrow_37 : decode cX11_narrow 37 = .ok (.iload 4, 2) := by decide +kernel
theorem dX11_narrow_39 : decode cX11_narrow 39 = .ok (.invokestatic 115, 3) := by decide +kernel
theorem dX11_narrow_42 : decode cX11_narrow 42 = .ok (.goto 8, 3) := by decide +kernel
theorem dX11_narrow_45 : decode cX11_narrow 45 = .ok (.bipush (-2), 2) := by decide +kernel
theorem dX11_narrow_47 : decode cX11_narrow 47 = .ok (.invokestatic 111, 3) := by decide +kernel
theorem dX11_narrow_50 : decode cX11_narrow 50 = .ok (.lreturn, 1) := by decide +kernel
theorem dX11_wide_0 : decode cX11_wide 0 = .ok (.iload_n 1, 1) := by decide +kernel
theorem dX11_wide_1 : decode cX11_wide 1 = .ok (.iconst 0, 1) := by decide +kernel
theorem dX11_wide_2 : decode cX11_wide 2 = .ok (.bipush 99, 2) := by decide +kernel
theorem dX11_wide_4 : decode cX11_wide 4 = .ok (.invokestatic 75, 3) := by decide +kernel
theorem dX11_wide_7 : decode cX11_wide 7 = .ok (.ifCond .eq 17, 3) := by decide +kernel
theorem dX11_wide_10 : decode cX11_wide 10 = .ok (.iload_n 2, 1) := by decide +kernel
theorem dX11_wide_11 : decode cX11_wide 11 = .ok (.invokestatic 175, 3) := by decide +kernel
theorem dX11_wide_14 : decode cX11_wide 14 = .ok (.ifCond .eq 10, 3) := by decide +kernel
theorem dX11_wide_17 : decode cX11_wide 17 = .ok (.iload_n 3, 1) := by decide +kernel
theorem dX11_wide_18 : decode cX11_wide 18 = .ok (.invokestatic 175, 3) := by decide +kernel
theorem dX11_wide_21 : decode cX11_wide 21 = .ok (.ifCond .ne 6, 3) := by decide +kernel
theorem dX11_wide_24 : decode cX11_wide 24 = .ok (.bipush (-2), 2) := by decide +kernel
theorem dX11_wide_26 : decode cX11_wide 26 = .ok (.ireturn, 1) := by decide +kernel
theorem dX11_wide_27 : decode cX11_wide 27 = .ok (.iconst 1, 1) := by decide +kernel
theorem dX11_wide_28 : decode cX11_wide 28 = .ok (.istore 4, 2) := by decide +kernel
theorem dX11_wide_30 : decode cX11_wide 30 = .ok (.iload 4, 2) := by decide +kernel
theorem dX11_wide_32 : decode cX11_wide 32 = .ok (.sipush 1000, 3) := by decide +kernel
theorem dX11_wide_35 : decode cX11_wide 35 = .ok (.if_icmp .ge 24, 3) := by decide +kernel
theorem dX11_wide_38 : decode cX11_wide 38 = .ok (.iload 4, 2) := by decide +kernel
theorem dX11_wide_40 : decode cX11_wide 40 = .ok (.iload_n 3, 1) := by decide +kernel
theorem dX11_wide_41 : decode cX11_wide 41 = .ok (.imul, 1) := by decide +kernel
theorem dX11_wide_42 : decode cX11_wide 42 = .ok (.iload_n 1, 1) := by decide +kernel
theorem dX11_wide_43 : decode cX11_wide 43 = .ok (.iload_n 2, 1) := by decide +kernel
theorem dX11_wide_44 : decode cX11_wide 44 = .ok (.iload_n 3, 1) := by decide +kernel
theorem dX11_wide_45 : decode cX11_wide 45 = .ok (.iadd, 1) := by decide +kernel
theorem dX11_wide_46 : decode cX11_wide 46 = .ok (.imul, 1) := by decide +kernel
theorem dX11_wide_47 : decode cX11_wide 47 = .ok (.if_icmp .lt 6, 3) := by decide +kernel
theorem dX11_wide_50 : decode cX11_wide 50 = .ok (.iload 4, 2) := by decide +kernel
theorem dX11_wide_52 : decode cX11_wide 52 = .ok (.ireturn, 1) := by decide +kernel
theorem dX11_wide_53 : decode cX11_wide 53 = .ok (.iinc 4 1, 3) := by decide +kernel
theorem dX11_wide_56 : decode cX11_wide 56 = .ok (.goto (-26), 3) := by decide +kernel
theorem dX11_wide_59 : decode cX11_wide 59 = .ok (.iconst (-1), 1) := by decide +kernel
theorem dX11_wide_60 : decode cX11_wide 60 = .ok (.ireturn, 1) := by decide +kernel
theorem dX11_slit_0 : decode cX11_slit 0 = .ok (.iload_n 1, 1) := by decide +kernel
theorem dX11_slit_1 : decode cX11_slit 1 = .ok (.iconst 0, 1) := by decide +kernel
theorem dX11_slit_2 : decode cX11_slit 2 = .ok (.bipush 99, 2) := by decide +kernel
theorem dX11_slit_4 : decode cX11_slit 4 = .ok (.invokestatic 75, 3) := by decide +kernel
theorem dX11_slit_7 : decode cX11_slit 7 = .ok (.ifCond .eq 13, 3) := by decide +kernel
theorem dX11_slit_10 : decode cX11_slit 10 = .ok (.iload_n 2, 1) := by decide +kernel
theorem dX11_slit_11 : decode cX11_slit 11 = .ok (.iconst 0, 1) := by decide +kernel
theorem dX11_slit_12 : decode cX11_slit 12 = .ok (.bipush 99, 2) := by decide +kernel
theorem dX11_slit_14 : decode cX11_slit 14 = .ok (.invokestatic 75, 3) := by decide +kernel
theorem dX11_slit_17 : decode cX11_slit 17 = .ok (.ifCond .ne 6, 3) := by decide +kernel
theorem dX11_slit_20 : decode cX11_slit 20 = .ok (.bipush (-2), 2) := by decide +kernel
theorem dX11_slit_22 : decode cX11_slit 22 = .ok (.ireturn, 1) := by decide +kernel
theorem dX11_slit_23 : decode cX11_slit 23 = .ok (.iconst 1, 1) := by decide +kernel
theorem dX11_slit_24 : decode cX11_slit 24 = .ok (.istore_n 3, 1) := by decide +kernel
theorem dX11_slit_25 : decode cX11_slit 25 = .ok (.iconst 2, 1) := by decide +kernel
theorem dX11_slit_26 : decode cX11_slit 26 = .ok (.istore 4, 2) := by decide +kernel
theorem dX11_slit_28 : decode cX11_slit 28 = .ok (.iload 4, 2) := by decide +kernel
theorem dX11_slit_30 : decode cX11_slit 30 = .ok (.bipush 21, 2) := by decide +kernel
theorem dX11_slit_32 : decode cX11_slit 32 = .ok (.if_icmp .ge 40, 3) := by decide +kernel
theorem dX11_slit_35 : decode cX11_slit 35 = .ok (.iload_n 1, 1) := by decide +kernel
theorem dX11_slit_36 : decode cX11_slit 36 = .ok (.iload 4, 2) := by decide +kernel
theorem dX11_slit_38 : decode cX11_slit 38 = .ok (.imul, 1) := by decide +kernel
theorem dX11_slit_39 : decode cX11_slit 39 = .ok (.iload_n 2, 1) := by decide +kernel
theorem dX11_slit_40 : decode cX11_slit 40 = .ok (.iload 4, 2) := by decide +kernel
theorem dX11_slit_42 : decode cX11_slit 42 = .ok (.imul, 1) := by decide +kernel
theorem dX11_slit_43 : decode cX11_slit 43 = .ok (.iload 4, 2) := by decide +kernel
theorem dX11_slit_45 : decode cX11_slit 45 = .ok (.imul, 1) := by decide +kernel
theorem dX11_slit_46 : decode cX11_slit 46 = .ok (.isub, 1) := by decide +kernel
theorem dX11_slit_47 : decode cX11_slit 47 = .ok (.iload_n 1, 1) := by decide +kernel
theorem dX11_slit_48 : decode cX11_slit 48 = .ok (.iload_n 3, 1) := by decide +kernel
theorem dX11_slit_49 : decode cX11_slit 49 = .ok (.imul, 1) := by decide +kernel
theorem dX11_slit_50 : decode cX11_slit 50 = .ok (.iload_n 2, 1) := by decide +kernel
theorem dX11_slit_51 : decode cX11_slit 51 = .ok (.iload_n 3, 1) := by decide +kernel
theorem dX11_slit_52 : decode cX11_slit 52 = .ok (.imul, 1) := by decide +kernel
theorem dX11_slit_53 : decode cX11_slit 53 = .ok (.iload_n 3, 1) := by decide +kernel
theorem dX11_slit_54 : decode cX11_slit 54 = .ok (.imul, 1) := by decide +kernel
theorem dX11_slit_55 : decode cX11_slit 55 = .ok (.isub, 1) := by decide +kernel
theorem dX11_slit_56 : decode cX11_slit 56 = .ok (.if_icmp .le 8, 3) := by decide +kernel
theorem dX11_slit_59 : decode cX11_slit 59 = .ok (.iload 4, 2) := by decide +kernel
theorem dX11_slit_61 : decode cX11_slit 61 = .ok (.goto 4, 3) := by decide +kernel
theorem dX11_slit_64 : decode cX11_slit 64 = .ok (.iload_n 3, 1) := by decide +kernel
theorem dX11_slit_65 : decode cX11_slit 65 = .ok (.istore_n 3, 1) := by decide +kernel
theorem dX11_slit_66 : decode cX11_slit 66 = .ok (.iinc 4 1, 3) := by decide +kernel
theorem dX11_slit_69 : decode cX11_slit 69 = .ok (.goto (-41), 3) := by decide +kernel
theorem dX11_slit_72 : decode cX11_slit 72 = .ok (.iload_n 3, 1) := by decide +kernel
theorem dX11_slit_73 : decode cX11_slit 73 = .ok (.ireturn, 1) := by decide +kernel
theorem dX11_turns_0 : decode cX11_turns 0 = .ok (.iload_n 1, 1) := by decide +kernel
theorem dX11_turns_1 : decode cX11_turns 1 = .ok (.iconst 2, 1) := by decide +kernel
theorem dX11_turns_2 : decode cX11_turns 2 = .ok (.isub, 1) := by decide +kernel
theorem dX11_turns_3 : decode cX11_turns 3 = .ok (.istore_n 2, 1) := by decide +kernel
theorem dX11_turns_4 : decode cX11_turns 4 = .ok (.iload_n 2, 1) := by decide +kernel
theorem dX11_turns_5 : decode cX11_turns 5 = .ok (.ifCond .le 26, 3) := by decide +kernel
theorem dX11_turns_8 : decode cX11_turns 8 = .ok (.aload_n 0, 1) := by decide +kernel
theorem dX11_turns_9 : decode cX11_turns 9 = .ok (.getfield 34, 3) := by decide +kernel
theorem dX11_turns_12 : decode cX11_turns 12 = .ok (.iload_n 2, 1) := by decide +kernel
theorem dX11_turns_13 : decode cX11_turns 13 = .ok (.iaload, 1) := by decide +kernel
theorem dX11_turns_14 : decode cX11_turns 14 = .ok (.aload_n 0, 1) := by decide +kernel
theorem dX11_turns_15 : decode cX11_turns 15 = .ok (.getfield 34, 3) := by decide +kernel
theorem dX11_turns_18 : decode cX11_turns 18 = .ok (.iload_n 2, 1) := by decide +kernel
theorem dX11_turns_19 : decode cX11_turns 19 = .ok (.iconst 1, 1) := by decide +kernel
theorem dX11_turns_20 : decode cX11_turns 20 = .ok (.iadd, 1) := by decide +kernel
theorem dX11_turns_21 : decode cX11_turns 21 = .ok (.iaload, 1) := by decide +kernel
theorem dX11_turns_22 : decode cX11_turns 22 = .ok (.if_icmp .le 9, 3) := by decide +kernel
theorem dX11_turns_25 : decode cX11_turns 25 = .ok (.iinc 2 (-1), 3) := by decide +kernel
theorem dX11_turns_28 : decode cX11_turns 28 = .ok (.goto (-24), 3) := by decide +kernel
theorem dX11_turns_31 : decode cX11_turns 31 = .ok (.iload_n 2, 1) := by decide +kernel
theorem dX11_turns_32 : decode cX11_turns 32 = .ok (.ifCond .gt 5, 3) := by decide +kernel
theorem dX11_turns_35 : decode cX11_turns 35 = .ok (.iconst 0, 1) := by decide +kernel
theorem dX11_turns_36 : decode cX11_turns 36 = .ok (.ireturn, 1) := by decide +kernel
theorem dX11_turns_37 : decode cX11_turns 37 = .ok (.iload_n 1, 1) := by decide +kernel
theorem dX11_turns_38 : decode cX11_turns 38 = .ok (.iconst 1, 1) := by decide +kernel
theorem dX11_turns_39 : decode cX11_turns 39 = .ok (.isub, 1) := by decide +kernel
theorem dX11_turns_40 : decode cX11_turns 40 = .ok (.istore_n 3, 1) := by decide +kernel
theorem dX11_turns_41 : decode cX11_turns 41 = .ok (.aload_n 0, 1) := by decide +kernel
theorem dX11_turns_42 : decode cX11_turns 42 = .ok (.getfield 34, 3) := by decide +kernel
theorem dX11_turns_45 : decode cX11_turns 45 = .ok (.iload_n 3, 1) := by decide +kernel
theorem dX11_turns_46 : decode cX11_turns 46 = .ok (.iaload, 1) := by decide +kernel
theorem dX11_turns_47 : decode cX11_turns 47 = .ok (.aload_n 0, 1) := by decide +kernel
theorem dX11_turns_48 : decode cX11_turns 48 = .ok (.getfield 34, 3) := by decide +kernel
theorem dX11_turns_51 : decode cX11_turns 51 = .ok (.iload_n 2, 1) := by decide +kernel
theorem dX11_turns_52 : decode cX11_turns 52 = .ok (.iaload, 1) := by decide +kernel
theorem dX11_turns_53 : decode cX11_turns 53 = .ok (.if_icmp .ge 9, 3) := by decide +kernel
theorem dX11_turns_56 : decode cX11_turns 56 = .ok (.iinc 3 (-1), 3) := by decide +kernel
theorem dX11_turns_59 : decode cX11_turns 59 = .ok (.goto (-18), 3) := by decide +kernel
theorem dX11_turns_62 : decode cX11_turns 62 = .ok (.aload_n 0, 1) := by decide +kernel
theorem dX11_turns_63 : decode cX11_turns 63 = .ok (.getfield 34, 3) := by decide +kernel
theorem dX11_turns_66 : decode cX11_turns 66 = .ok (.iload_n 2, 1) := by decide +kernel
theorem dX11_turns_67 : decode cX11_turns 67 = .ok (.iaload, 1) := by decide +kernel
theorem dX11_turns_68 : decode cX11_turns 68 = .ok (.istore 4, 2) := by decide +kernel
theorem dX11_turns_70 : decode cX11_turns 70 = .ok (.aload_n 0, 1) := by decide +kernel
theorem dX11_turns_71 : decode cX11_turns 71 = .ok (.getfield 34, 3) := by decide +kernel
theorem dX11_turns_74 : decode cX11_turns 74 = .ok (.iload_n 2, 1) := by decide +kernel
theorem dX11_turns_75 : decode cX11_turns 75 = .ok (.aload_n 0, 1) := by decide +kernel
theorem dX11_turns_76 : decode cX11_turns 76 = .ok (.getfield 34, 3) := by decide +kernel
theorem dX11_turns_79 : decode cX11_turns 79 = .ok (.iload_n 3, 1) := by decide +kernel
theorem dX11_turns_80 : decode cX11_turns 80 = .ok (.iaload, 1) := by decide +kernel
theorem dX11_turns_81 : decode cX11_turns 81 = .ok (.iastore, 1) := by decide +kernel
theorem dX11_turns_82 : decode cX11_turns 82 = .ok (.aload_n 0, 1) := by decide +kernel
theorem dX11_turns_83 : decode cX11_turns 83 = .ok (.getfield 34, 3) := by decide +kernel
theorem dX11_turns_86 : decode cX11_turns 86 = .ok (.iload_n 3, 1) := by decide +kernel
theorem dX11_turns_87 : decode cX11_turns 87 = .ok (.iload 4, 2) := by decide +kernel
theorem dX11_turns_89 : decode cX11_turns 89 = .ok (.iastore, 1) := by decide +kernel
theorem dX11_turns_90 : decode cX11_turns 90 = .ok (.iload_n 2, 1) := by decide +kernel
theorem dX11_turns_91 : decode cX11_turns 91 = .ok (.iconst 1, 1) := by decide +kernel
theorem dX11_turns_92 : decode cX11_turns 92 = .ok (.iadd, 1) := by decide +kernel
theorem dX11_turns_93 : decode cX11_turns 93 = .ok (.istore 5, 2) := by decide +kernel
theorem dX11_turns_95 : decode cX11_turns 95 = .ok (.iload_n 1, 1) := by decide +kernel
theorem dX11_turns_96 : decode cX11_turns 96 = .ok (.iconst 1, 1) := by decide +kernel
theorem dX11_turns_97 : decode cX11_turns 97 = .ok (.isub, 1) := by decide +kernel
theorem dX11_turns_98 : decode cX11_turns 98 = .ok (.istore 6, 2) := by decide +kernel
theorem dX11_turns_100 : decode cX11_turns 100 = .ok (.iload 5, 2) := by decide +kernel
theorem dX11_turns_102 : decode cX11_turns 102 = .ok (.iload 6, 2) := by decide +kernel
theorem dX11_turns_104 : decode cX11_turns 104 = .ok (.if_icmp .ge 44, 3) := by decide +kernel
theorem dX11_turns_107 : decode cX11_turns 107 = .ok (.aload_n 0, 1) := by decide +kernel
theorem dX11_turns_108 : decode cX11_turns 108 = .ok (.getfield 34, 3) := by decide +kernel
theorem dX11_turns_111 : decode cX11_turns 111 = .ok (.iload 5, 2) := by decide +kernel
theorem dX11_turns_113 : decode cX11_turns 113 = .ok (.iaload, 1) := by decide +kernel
theorem dX11_turns_114 : decode cX11_turns 114 = .ok (.istore 4, 2) := by decide +kernel
theorem dX11_turns_116 : decode cX11_turns 116 = .ok (.aload_n 0, 1) := by decide +kernel
theorem dX11_turns_117 : decode cX11_turns 117 = .ok (.getfield 34, 3) := by decide +kernel
theorem dX11_turns_120 : decode cX11_turns 120 = .ok (.iload 5, 2) := by decide +kernel
theorem dX11_turns_122 : decode cX11_turns 122 = .ok (.aload_n 0, 1) := by decide +kernel
theorem dX11_turns_123 : decode cX11_turns 123 = .ok (.getfield 34, 3) := by decide +kernel
theorem dX11_turns_126 : decode cX11_turns 126 = .ok (.iload 6, 2) := by decide +kernel
theorem dX11_turns_128 : decode cX11_turns 128 = .ok (.iaload, 1) := by decide +kernel
theorem dX11_turns_129 : decode cX11_turns 129 = .ok (.iastore, 1) := by decide +kernel
theorem dX11_turns_130 : decode cX11_turns 130 = .ok (.aload_n 0, 1) := by decide +kernel
theorem dX11_turns_131 : decode cX11_turns 131 = .ok (.getfield 34, 3) := by decide +kernel
theorem dX11_turns_134 : decode cX11_turns 134 = .ok (.iload 6, 2) := by decide +kernel
theorem dX11_turns_136 : decode cX11_turns 136 = .ok (.iload 4, 2) := by decide +kernel
theorem dX11_turns_138 : decode cX11_turns 138 = .ok (.iastore, 1) := by decide +kernel
theorem dX11_turns_139 : decode cX11_turns 139 = .ok (.iinc 5 1, 3) := by decide +kernel
theorem dX11_turns_142 : decode cX11_turns 142 = .ok (.iinc 6 (-1), 3) := by decide +kernel
theorem dX11_turns_145 : decode cX11_turns 145 = .ok (.goto (-45), 3) := by decide +kernel
theorem dX11_turns_148 : decode cX11_turns 148 = .ok (.iconst 1, 1) := by decide +kernel
theorem dX11_turns_149 : decode cX11_turns 149 = .ok (.ireturn, 1) := by decide +kernel
theorem dX11_puts_0 : decode cX11_puts 0 = .ok (.aload_n 0, 1) := by decide +kernel
theorem dX11_puts_1 : decode cX11_puts 1 = .ok (.iload_n 1, 1) := by decide +kernel
theorem dX11_puts_2 : decode cX11_puts 2 = .ok (.invokevirtual 89, 3) := by decide +kernel
theorem dX11_puts_5 : decode cX11_puts 5 = .ok (.istore_n 2, 1) := by decide +kernel
theorem dX11_puts_6 : decode cX11_puts 6 = .ok (.iload_n 2, 1) := by decide +kernel
theorem dX11_puts_7 : decode cX11_puts 7 = .ok (.ifCond .ne 6, 3) := by decide +kernel
theorem dX11_puts_10 : decode cX11_puts 10 = .ok (.bipush (-3), 2) := by decide +kernel
theorem dX11_puts_12 : decode cX11_puts 12 = .ok (.ireturn, 1) := by decide +kernel
theorem dX11_puts_13 : decode cX11_puts 13 = .ok (.iload_n 2, 1) := by decide +kernel
theorem dX11_puts_14 : decode cX11_puts 14 = .ok (.bipush 8, 2) := by decide +kernel
theorem dX11_puts_16 : decode cX11_puts 16 = .ok (.if_icmp .le 6, 3) := by decide +kernel
theorem dX11_puts_19 : decode cX11_puts 19 = .ok (.bipush (-4), 2) := by decide +kernel
theorem dX11_puts_21 : decode cX11_puts 21 = .ok (.ireturn, 1) := by decide +kernel
theorem dX11_puts_22 : decode cX11_puts 22 = .ok (.iconst 0, 1) := by decide +kernel
theorem dX11_puts_23 : decode cX11_puts 23 = .ok (.istore_n 3, 1) := by decide +kernel
theorem dX11_puts_24 : decode cX11_puts 24 = .ok (.iload_n 3, 1) := by decide +kernel
theorem dX11_puts_25 : decode cX11_puts 25 = .ok (.iload_n 2, 1) := by decide +kernel
theorem dX11_puts_26 : decode cX11_puts 26 = .ok (.if_icmp .ge 16, 3) := by decide +kernel
theorem dX11_puts_29 : decode cX11_puts 29 = .ok (.aload_n 0, 1) := by decide +kernel
theorem dX11_puts_30 : decode cX11_puts 30 = .ok (.getfield 34, 3) := by decide +kernel
theorem dX11_puts_33 : decode cX11_puts 33 = .ok (.iload_n 3, 1) := by decide +kernel
theorem dX11_puts_34 : decode cX11_puts 34 = .ok (.iload_n 3, 1) := by decide +kernel
theorem dX11_puts_35 : decode cX11_puts 35 = .ok (.iastore, 1) := by decide +kernel
theorem dX11_puts_36 : decode cX11_puts 36 = .ok (.iinc 3 1, 3) := by decide +kernel
theorem dX11_puts_39 : decode cX11_puts 39 = .ok (.goto (-15), 3) := by decide +kernel
theorem dX11_puts_42 : decode cX11_puts 42 = .ok (.aload_n 0, 1) := by decide +kernel
theorem dX11_puts_43 : decode cX11_puts 43 = .ok (.ldc 141, 2) := by decide +kernel
theorem dX11_puts_45 : decode cX11_puts 45 = .ok (.putfield 142, 3) := by decide +kernel
theorem dX11_puts_48 : decode cX11_puts 48 = .ok (.aload_n 0, 1) := by decide +kernel
theorem dX11_puts_49 : decode cX11_puts 49 = .ok (.iconst 0, 1) := by decide +kernel
theorem dX11_puts_50 : decode cX11_puts 50 = .ok (.putfield 146, 3) := by decide +kernel
theorem dX11_puts_53 : decode cX11_puts 53 = .ok (.iconst 1, 1) := by decide +kernel
theorem dX11_puts_54 : decode cX11_puts 54 = .ok (.istore_n 3, 1) := by decide +kernel
theorem dX11_puts_55 : decode cX11_puts 55 = .ok (.iload_n 3, 1) := by decide +kernel
theorem dX11_puts_56 : decode cX11_puts 56 = .ok (.ifCond .eq 130, 3) := by decide +kernel
theorem dX11_puts_59 : decode cX11_puts 59 = .ok (.iconst 0, 1) := by decide +kernel
theorem dX11_puts_60 : decode cX11_puts 60 = .ok (.istore 4, 2) := by decide +kernel
theorem dX11_puts_62 : decode cX11_puts 62 = .ok (.iconst 0, 1) := by decide +kernel
theorem dX11_puts_63 : decode cX11_puts 63 = .ok (.istore 5, 2) := by decide +kernel
theorem dX11_puts_65 : decode cX11_puts 65 = .ok (.iload 5, 2) := by decide +kernel
theorem dX11_puts_67 : decode cX11_puts 67 = .ok (.iload_n 2, 1) := by decide +kernel
theorem dX11_puts_68 : decode cX11_puts 68 = .ok (.if_icmp .ge 37, 3) := by decide +kernel
theorem dX11_puts_71 : decode cX11_puts 71 = .ok (.iload 4, 2) := by decide +kernel
theorem dX11_puts_73 : decode cX11_puts 73 = .ok (.aload_n 0, 1) := by decide +kernel
theorem dX11_puts_74 : decode cX11_puts 74 = .ok (.iload_n 1, 1) := by decide +kernel
theorem dX11_puts_75 : decode cX11_puts 75 = .ok (.aload_n 0, 1) := by decide +kernel
theorem dX11_puts_76 : decode cX11_puts 76 = .ok (.getfield 34, 3) := by decide +kernel
theorem dX11_puts_79 : decode cX11_puts 79 = .ok (.iload 5, 2) := by decide +kernel
theorem dX11_puts_81 : decode cX11_puts 81 = .ok (.iaload, 1) := by decide +kernel
theorem dX11_puts_82 : decode cX11_puts 82 = .ok (.aload_n 0, 1) := by decide +kernel
theorem dX11_puts_83 : decode cX11_puts 83 = .ok (.getfield 34, 3) := by decide +kernel
theorem dX11_puts_86 : decode cX11_puts 86 = .ok (.iload 5, 2) := by decide +kernel
theorem dX11_puts_88 : decode cX11_puts 88 = .ok (.iconst 1, 1) := by decide +kernel
theorem dX11_puts_89 : decode cX11_puts 89 = .ok (.iadd, 1) := by decide +kernel
theorem dX11_puts_90 : decode cX11_puts 90 = .ok (.iload_n 2, 1) := by decide +kernel
theorem dX11_puts_91 : decode cX11_puts 91 = .ok (.irem, 1) := by decide +kernel
theorem dX11_puts_92 : decode cX11_puts 92 = .ok (.iaload, 1) := by decide +kernel
theorem dX11_puts_93 : decode cX11_puts 93 = .ok (.invokevirtual 95, 3) := by decide +kernel
theorem dX11_puts_96 : decode cX11_puts 96 = .ok (.iadd, 1) := by decide +kernel
theorem dX11_puts_97 : decode cX11_puts 97 = .ok (.istore 4, 2) := by decide +kernel
theorem dX11_puts_99 : decode cX11_puts 99 = .ok (.iinc 5 1, 3) := by decide +kernel
theorem dX11_puts_102 : decode cX11_puts 102 = .ok (.goto (-37), 3) := by decide +kernel
theorem dX11_puts_105 : decode cX11_puts 105 = .ok (.iload 4, 2) := by decide +kernel
theorem dX11_puts_107 : decode cX11_puts 107 = .ok (.aload_n 0, 1) := by decide +kernel
theorem dX11_puts_108 : decode cX11_puts 108 = .ok (.getfield 142, 3) := by decide +kernel
theorem dX11_puts_111 : decode cX11_puts 111 = .ok (.if_icmp .ge 43, 3) := by decide +kernel
theorem dX11_puts_114 : decode cX11_puts 114 = .ok (.aload_n 0, 1) := by decide +kernel
theorem dX11_puts_115 : decode cX11_puts 115 = .ok (.iload 4, 2) := by decide +kernel
theorem dX11_puts_117 : decode cX11_puts 117 = .ok (.putfield 142, 3) := by decide +kernel
theorem dX11_puts_120 : decode cX11_puts 120 = .ok (.aload_n 0, 1) := by decide +kernel
theorem dX11_puts_121 : decode cX11_puts 121 = .ok (.iconst 0, 1) := by decide +kernel
theorem dX11_puts_122 : decode cX11_puts 122 = .ok (.putfield 146, 3) := by decide +kernel
theorem dX11_puts_125 : decode cX11_puts 125 = .ok (.iconst 0, 1) := by decide +kernel
theorem dX11_puts_126 : decode cX11_puts 126 = .ok (.istore 5, 2) := by decide +kernel
theorem dX11_puts_128 : decode cX11_puts 128 = .ok (.iload 5, 2) := by decide +kernel
theorem dX11_puts_130 : decode cX11_puts 130 = .ok (.iload_n 2, 1) := by decide +kernel
theorem dX11_puts_131 : decode cX11_puts 131 = .ok (.if_icmp .ge 23, 3) := by decide +kernel
theorem dX11_puts_134 : decode cX11_puts 134 = .ok (.aload_n 0, 1) := by decide +kernel
theorem dX11_puts_135 : decode cX11_puts 135 = .ok (.getfield 37, 3) := by decide +kernel
theorem dX11_puts_138 : decode cX11_puts 138 = .ok (.iload 5, 2) := by decide +kernel
theorem dX11_puts_140 : decode cX11_puts 140 = .ok (.aload_n 0, 1) := by decide +kernel
theorem dX11_puts_141 : decode cX11_puts 141 = .ok (.getfield 34, 3) := by decide +kernel
theorem dX11_puts_144 : decode cX11_puts 144 = .ok (.iload 5, 2) := by decide +kernel
theorem dX11_puts_146 : decode cX11_puts 146 = .ok (.iaload, 1) := by decide +kernel
theorem dX11_puts_147 : decode cX11_puts 147 = .ok (.iastore, 1) := by decide +kernel
theorem dX11_puts_148 : decode cX11_puts 148 = .ok (.iinc 5 1, 3) := by decide +kernel
theorem dX11_puts_151 : decode cX11_puts 151 = .ok (.goto (-23), 3) := by decide +kernel
theorem dX11_puts_154 : decode cX11_puts 154 = .ok (.aload_n 0, 1) := by decide +kernel
theorem dX11_puts_155 : decode cX11_puts 155 = .ok (.dup, 1) := by decide +kernel
theorem dX11_puts_156 : decode cX11_puts 156 = .ok (.getfield 146, 3) := by decide +kernel
theorem dX11_puts_159 : decode cX11_puts 159 = .ok (.iload 4, 2) := by decide +kernel
theorem dX11_puts_161 : decode cX11_puts 161 = .ok (.aload_n 0, 1) := by decide +kernel
theorem dX11_puts_162 : decode cX11_puts 162 = .ok (.getfield 142, 3) := by decide +kernel
theorem dX11_puts_165 : decode cX11_puts 165 = .ok (.if_icmp .ne 7, 3) := by decide +kernel
theorem dX11_puts_168 : decode cX11_puts 168 = .ok (.iconst 1, 1) := by decide +kernel
theorem dX11_puts_169 : decode cX11_puts 169 = .ok (.goto 4, 3) := by decide +kernel
theorem dX11_puts_172 : decode cX11_puts 172 = .ok (.iconst 0, 1) := by decide +kernel
theorem dX11_puts_173 : decode cX11_puts 173 = .ok (.iadd, 1) := by decide +kernel
theorem dX11_puts_174 : decode cX11_puts 174 = .ok (.putfield 146, 3) := by decide +kernel
theorem dX11_puts_177 : decode cX11_puts 177 = .ok (.aload_n 0, 1) := by decide +kernel
theorem dX11_puts_178 : decode cX11_puts 178 = .ok (.iload_n 2, 1) := by decide +kernel
theorem dX11_puts_179 : decode cX11_puts 179 = .ok (.invokevirtual 178, 3) := by decide +kernel
theorem dX11_puts_182 : decode cX11_puts 182 = .ok (.istore_n 3, 1) := by decide +kernel
theorem dX11_puts_183 : decode cX11_puts 183 = .ok (.goto (-128), 3) := by decide +kernel
theorem dX11_puts_186 : decode cX11_puts 186 = .ok (.iconst 0, 1) := by decide +kernel
theorem dX11_puts_187 : decode cX11_puts 187 = .ok (.ireturn, 1) := by decide +kernel
theorem dX11_order_0 : decode cX11_order 0 = .ok (.iload_n 1, 1) := by decide +kernel
theorem dX11_order_1 : decode cX11_order 1 = .ok (.invokestatic 79, 3) := by decide +kernel
theorem dX11_order_4 : decode cX11_order 4 = .ok (.ifCond .eq 8, 3) := by decide +kernel
theorem dX11_order_7 : decode cX11_order 7 = .ok (.iload_n 2, 1) := by decide +kernel
theorem dX11_order_8 : decode cX11_order 8 = .ok (.iconst (-1), 1) := by decide +kernel
theorem dX11_order_9 : decode cX11_order 9 = .ok (.if_icmp .ge 6, 3) := by decide +kernel
theorem dX11_order_12 : decode cX11_order 12 = .ok (.bipush (-2), 2) := by decide +kernel
theorem dX11_order_14 : decode cX11_order 14 = .ok (.ireturn, 1) := by decide +kernel
theorem dX11_order_15 : decode cX11_order 15 = .ok (.aload_n 0, 1) := by decide +kernel
theorem dX11_order_16 : decode cX11_order 16 = .ok (.iload_n 1, 1) := by decide +kernel
theorem dX11_order_17 : decode cX11_order 17 = .ok (.invokevirtual 181, 3) := by decide +kernel
theorem dX11_order_20 : decode cX11_order 20 = .ok (.istore_n 3, 1) := by decide +kernel
theorem dX11_order_21 : decode cX11_order 21 = .ok (.iload_n 3, 1) := by decide +kernel
theorem dX11_order_22 : decode cX11_order 22 = .ok (.ifCond .eq 5, 3) := by decide +kernel
theorem dX11_order_25 : decode cX11_order 25 = .ok (.iload_n 3, 1) := by decide +kernel
theorem dX11_order_26 : decode cX11_order 26 = .ok (.ireturn, 1) := by decide +kernel
theorem dX11_order_27 : decode cX11_order 27 = .ok (.iload_n 2, 1) := by decide +kernel
theorem dX11_order_28 : decode cX11_order 28 = .ok (.iconst (-1), 1) := by decide +kernel
theorem dX11_order_29 : decode cX11_order 29 = .ok (.if_icmp .ne 10, 3) := by decide +kernel
theorem dX11_order_32 : decode cX11_order 32 = .ok (.aload_n 0, 1) := by decide +kernel
theorem dX11_order_33 : decode cX11_order 33 = .ok (.getfield 142, 3) := by decide +kernel
theorem dX11_order_36 : decode cX11_order 36 = .ok (.goto 24, 3) := by decide +kernel
theorem dX11_order_39 : decode cX11_order 39 = .ok (.iload_n 2, 1) := by decide +kernel
theorem dX11_order_40 : decode cX11_order 40 = .ok (.aload_n 0, 1) := by decide +kernel
theorem dX11_order_41 : decode cX11_order 41 = .ok (.getfield 16, 3) := by decide +kernel
theorem dX11_order_44 : decode cX11_order 44 = .ok (.iload_n 1, 1) := by decide +kernel
theorem dX11_order_45 : decode cX11_order 45 = .ok (.iaload, 1) := by decide +kernel
theorem dX11_order_46 : decode cX11_order 46 = .ok (.if_icmp .ge 12, 3) := by decide +kernel
theorem dX11_order_49 : decode cX11_order 49 = .ok (.aload_n 0, 1) := by decide +kernel
theorem dX11_order_50 : decode cX11_order 50 = .ok (.getfield 37, 3) := by decide +kernel
theorem dX11_order_53 : decode cX11_order 53 = .ok (.iload_n 2, 1) := by decide +kernel
theorem dX11_order_54 : decode cX11_order 54 = .ok (.iaload, 1) := by decide +kernel
theorem dX11_order_55 : decode cX11_order 55 = .ok (.goto 5, 3) := by decide +kernel
theorem dX11_order_58 : decode cX11_order 58 = .ok (.bipush (-2), 2) := by decide +kernel
theorem dX11_order_60 : decode cX11_order 60 = .ok (.ireturn, 1) := by decide +kernel
theorem dX11_ordersNow_0 : decode cX11_ordersNow 0 = .ok (.aload_n 0, 1) := by decide +kernel
theorem dX11_ordersNow_1 : decode cX11_ordersNow 1 = .ok (.iload_n 1, 1) := by decide +kernel
theorem dX11_ordersNow_2 : decode cX11_ordersNow 2 = .ok (.invokevirtual 181, 3) := by decide +kernel
theorem dX11_ordersNow_5 : decode cX11_ordersNow 5 = .ok (.istore_n 2, 1) := by decide +kernel
theorem dX11_ordersNow_6 : decode cX11_ordersNow 6 = .ok (.iload_n 2, 1) := by decide +kernel
theorem dX11_ordersNow_7 : decode cX11_ordersNow 7 = .ok (.ifCond .eq 7, 3) := by decide +kernel
theorem dX11_ordersNow_10 : decode cX11_ordersNow 10 = .ok (.iload_n 2, 1) := by decide +kernel
theorem dX11_ordersNow_11 : decode cX11_ordersNow 11 = .ok (.goto 7, 3) := by decide +kernel
theorem dX11_ordersNow_14 : decode cX11_ordersNow 14 = .ok (.aload_n 0, 1) := by decide +kernel
theorem dX11_ordersNow_15 : decode cX11_ordersNow 15 = .ok (.getfield 146, 3) := by decide +kernel
theorem dX11_ordersNow_18 : decode cX11_ordersNow 18 = .ok (.ireturn, 1) := by decide +kernel
theorem dX11_orders_0 : decode cX11_orders 0 = .ok (.iload_n 1, 1) := by decide +kernel
theorem dX11_orders_1 : decode cX11_orders 1 = .ok (.invokestatic 79, 3) := by decide +kernel
theorem dX11_orders_4 : decode cX11_orders 4 = .ok (.ifCond .eq 11, 3) := by decide +kernel
theorem dX11_orders_7 : decode cX11_orders 7 = .ok (.aload_n 0, 1) := by decide +kernel
theorem dX11_orders_8 : decode cX11_orders 8 = .ok (.iload_n 1, 1) := by decide +kernel
theorem dX11_orders_9 : decode cX11_orders 9 = .ok (.invokevirtual 184, 3) := by decide +kernel
theorem dX11_orders_12 : decode cX11_orders 12 = .ok (.goto 5, 3) := by decide +kernel
theorem dX11_orders_15 : decode cX11_orders 15 = .ok (.bipush (-2), 2) := by decide +kernel
theorem dX11_orders_17 : decode cX11_orders 17 = .ok (.ireturn, 1) := by decide +kernel
theorem dX11_halves_0 : decode cX11_halves 0 = .ok (.bipush 48, 2) := by decide +kernel
theorem dX11_halves_2 : decode cX11_halves 2 = .ok (.iload_n 1, 1) := by decide +kernel
theorem dX11_halves_3 : decode cX11_halves 3 = .ok (.imul, 1) := by decide +kernel
theorem dX11_halves_4 : decode cX11_halves 4 = .ok (.iconst 4, 1) := by decide +kernel
theorem dX11_halves_5 : decode cX11_halves 5 = .ok (.iload_n 2, 1) := by decide +kernel
theorem dX11_halves_6 : decode cX11_halves 6 = .ok (.imul, 1) := by decide +kernel
theorem dX11_halves_7 : decode cX11_halves 7 = .ok (.iadd, 1) := by decide +kernel
theorem dX11_halves_8 : decode cX11_halves 8 = .ok (.istore_n 3, 1) := by decide +kernel
theorem dX11_halves_9 : decode cX11_halves 9 = .ok (.bipush 48, 2) := by decide +kernel
theorem dX11_halves_11 : decode cX11_halves 11 = .ok (.iload_n 1, 1) := by decide +kernel
theorem dX11_halves_12 : decode cX11_halves 12 = .ok (.imul, 1) := by decide +kernel
theorem dX11_halves_13 : decode cX11_halves 13 = .ok (.iconst 4, 1) := by decide +kernel
theorem dX11_halves_14 : decode cX11_halves 14 = .ok (.iload_n 2, 1) := by decide +kernel
theorem dX11_halves_15 : decode cX11_halves 15 = .ok (.iconst 1, 1) := by decide +kernel
theorem dX11_halves_16 : decode cX11_halves 16 = .ok (.iadd, 1) := by decide +kernel
theorem dX11_halves_17 : decode cX11_halves 17 = .ok (.aload_n 0, 1) := by decide +kernel
theorem dX11_halves_18 : decode cX11_halves 18 = .ok (.getfield 16, 3) := by decide +kernel
theorem dX11_halves_21 : decode cX11_halves 21 = .ok (.iload_n 1, 1) := by decide +kernel
theorem dX11_halves_22 : decode cX11_halves 22 = .ok (.iaload, 1) := by decide +kernel
theorem dX11_halves_23 : decode cX11_halves 23 = .ok (.irem, 1) := by decide +kernel
theorem dX11_halves_24 : decode cX11_halves 24 = .ok (.imul, 1) := by decide +kernel
theorem dX11_halves_25 : decode cX11_halves 25 = .ok (.iadd, 1) := by decide +kernel
theorem dX11_halves_26 : decode cX11_halves 26 = .ok (.istore 4, 2) := by decide +kernel
theorem dX11_halves_28 : decode cX11_halves 28 = .ok (.iconst 0, 1) := by decide +kernel
theorem dX11_halves_29 : decode cX11_halves 29 = .ok (.istore 5, 2) := by decide +kernel
theorem dX11_halves_31 : decode cX11_halves 31 = .ok (.iload 5, 2) := by decide +kernel
theorem dX11_halves_33 : decode cX11_halves 33 = .ok (.iconst 4, 1) := by decide +kernel
theorem dX11_halves_34 : decode cX11_halves 34 = .ok (.if_icmp .ge 71, 3) := by decide +kernel
theorem dX11_halves_37 : decode cX11_halves 37 = .ok (.aload_n 0, 1) := by decide +kernel
theorem dX11_halves_38 : decode cX11_halves 38 = .ok (.getfield 19, 3) := by decide +kernel
theorem dX11_halves_41 : decode cX11_halves 41 = .ok (.iload_n 3, 1) := by decide +kernel
theorem dX11_halves_42 : decode cX11_halves 42 = .ok (.iload 5, 2) := by decide +kernel
theorem dX11_halves_44 : decode cX11_halves 44 = .ok (.iadd, 1) := by decide +kernel
theorem dX11_halves_45 : decode cX11_halves 45 = .ok (.iaload, 1) := by decide +kernel
theorem dX11_halves_46 : decode cX11_halves 46 = .ok (.istore 6, 2) := by decide +kernel
theorem dX11_halves_48 : decode cX11_halves 48 = .ok (.aload_n 0, 1) := by decide +kernel
theorem dX11_halves_49 : decode cX11_halves 49 = .ok (.getfield 19, 3) := by decide +kernel
theorem dX11_halves_52 : decode cX11_halves 52 = .ok (.iload 4, 2) := by decide +kernel
theorem dX11_halves_54 : decode cX11_halves 54 = .ok (.iload 5, 2) := by decide +kernel
theorem dX11_halves_56 : decode cX11_halves 56 = .ok (.iadd, 1) := by decide +kernel
theorem dX11_halves_57 : decode cX11_halves 57 = .ok (.iaload, 1) := by decide +kernel
theorem dX11_halves_58 : decode cX11_halves 58 = .ok (.istore 7, 2) := by decide +kernel
theorem dX11_halves_60 : decode cX11_halves 60 = .ok (.aload_n 0, 1) := by decide +kernel
theorem dX11_halves_61 : decode cX11_halves 61 = .ok (.getfield 19, 3) := by decide +kernel
theorem dX11_halves_64 : decode cX11_halves 64 = .ok (.bipush 96, 2) := by decide +kernel
theorem dX11_halves_66 : decode cX11_halves 66 = .ok (.iload 5, 2) := by decide +kernel
theorem dX11_halves_68 : decode cX11_halves 68 = .ok (.iadd, 1) := by decide +kernel
theorem dX11_halves_69 : decode cX11_halves 69 = .ok (.iload 6, 2) := by decide +kernel
theorem dX11_halves_71 : decode cX11_halves 71 = .ok (.iconst (-1), 1) := by decide +kernel
theorem dX11_halves_72 : decode cX11_halves 72 = .ok (.if_icmp .ne 8, 3) := by decide +kernel
theorem dX11_halves_75 : decode cX11_halves 75 = .ok (.iload 7, 2) := by decide +kernel
theorem dX11_halves_77 : decode cX11_halves 77 = .ok (.goto 21, 3) := by decide +kernel
theorem dX11_halves_80 : decode cX11_halves 80 = .ok (.iload 7, 2) := by decide +kernel
theorem dX11_halves_82 : decode cX11_halves 82 = .ok (.iconst (-1), 1) := by decide +kernel
theorem dX11_halves_83 : decode cX11_halves 83 = .ok (.if_icmp .ne 8, 3) := by decide +kernel
theorem dX11_halves_86 : decode cX11_halves 86 = .ok (.iload 6, 2) := by decide +kernel
theorem dX11_halves_88 : decode cX11_halves 88 = .ok (.goto 10, 3) := by decide +kernel
theorem dX11_halves_91 : decode cX11_halves 91 = .ok (.iload 6, 2) := by decide +kernel
theorem dX11_halves_93 : decode cX11_halves 93 = .ok (.iload 7, 2) := by decide +kernel
theorem dX11_halves_95 : decode cX11_halves 95 = .ok (.iadd, 1) := by decide +kernel
theorem dX11_halves_96 : decode cX11_halves 96 = .ok (.iconst 2, 1) := by decide +kernel
theorem dX11_halves_97 : decode cX11_halves 97 = .ok (.idiv, 1) := by decide +kernel
theorem dX11_halves_98 : decode cX11_halves 98 = .ok (.iastore, 1) := by decide +kernel
theorem dX11_halves_99 : decode cX11_halves 99 = .ok (.iinc 5 1, 3) := by decide +kernel
theorem dX11_halves_102 : decode cX11_halves 102 = .ok (.goto (-71), 3) := by decide +kernel
theorem dX11_halves_105 : decode cX11_halves 105 = .ok (.return_, 1) := by decide +kernel
theorem dX11_missingNow_0 : decode cX11_missingNow 0 = .ok (.aload_n 0, 1) := by decide +kernel
theorem dX11_missingNow_1 : decode cX11_missingNow 1 = .ok (.iload_n 1, 1) := by decide +kernel
theorem dX11_missingNow_2 : decode cX11_missingNow 2 = .ok (.invokevirtual 89, 3) := by decide +kernel
theorem dX11_missingNow_5 : decode cX11_missingNow 5 = .ok (.istore_n 3, 1) := by decide +kernel
theorem dX11_missingNow_6 : decode cX11_missingNow 6 = .ok (.iload_n 3, 1) := by decide +kernel
theorem dX11_missingNow_7 : decode cX11_missingNow 7 = .ok (.ifCond .ne 6, 3) := by decide +kernel
theorem dX11_missingNow_10 : decode cX11_missingNow 10 = .ok (.bipush (-3), 2) := by decide +kernel
theorem dX11_missingNow_12 : decode cX11_missingNow 12 = .ok (.ireturn, 1) := by decide +kernel
theorem dX11_missingNow_13 : decode cX11_missingNow 13 = .ok (.iconst (-1), 1) := by decide +kernel
theorem dX11_missingNow_14 : decode cX11_missingNow 14 = .ok (.istore 4, 2) := by decide +kernel
theorem dX11_missingNow_16 : decode cX11_missingNow 16 = .ok (.iconst 0, 1) := by decide +kernel
theorem dX11_missingNow_17 : decode cX11_missingNow 17 = .ok (.istore 5, 2) := by decide +kernel
theorem dX11_missingNow_19 : decode cX11_missingNow 19 = .ok (.iconst 0, 1) := by decide +kernel
theorem dX11_missingNow_20 : decode cX11_missingNow 20 = .ok (.istore 6, 2) := by decide +kernel
theorem dX11_missingNow_22 : decode cX11_missingNow 22 = .ok (.iload 6, 2) := by decide +kernel
theorem dX11_missingNow_24 : decode cX11_missingNow 24 = .ok (.iload_n 3, 1) := by decide +kernel
theorem dX11_missingNow_25 : decode cX11_missingNow 25 = .ok (.if_icmp .ge 129, 3) := by decide +kernel
theorem dX11_missingNow_28 : decode cX11_missingNow 28 = .ok (.aload_n 0, 1) := by decide +kernel
theorem dX11_missingNow_29 : decode cX11_missingNow 29 = .ok (.iload_n 1, 1) := by decide +kernel
theorem dX11_missingNow_30 : decode cX11_missingNow 30 = .ok (.iload 6, 2) := by decide +kernel
theorem dX11_missingNow_32 : decode cX11_missingNow 32 = .ok (.invokevirtual 187, 3) := by decide +kernel
theorem dX11_missingNow_35 : decode cX11_missingNow 35 = .ok (.bipush 48, 2) := by decide +kernel
theorem dX11_missingNow_37 : decode cX11_missingNow 37 = .ok (.iload_n 1, 1) := by decide +kernel
theorem dX11_missingNow_38 : decode cX11_missingNow 38 = .ok (.imul, 1) := by decide +kernel
theorem dX11_missingNow_39 : decode cX11_missingNow 39 = .ok (.iconst 4, 1) := by decide +kernel
theorem dX11_missingNow_40 : decode cX11_missingNow 40 = .ok (.iload 6, 2) := by decide +kernel
theorem dX11_missingNow_42 : decode cX11_missingNow 42 = .ok (.imul, 1) := by decide +kernel
theorem dX11_missingNow_43 : decode cX11_missingNow 43 = .ok (.iadd, 1) := by decide +kernel
theorem dX11_missingNow_44 : decode cX11_missingNow 44 = .ok (.istore 7, 2) := by decide +kernel
theorem dX11_missingNow_46 : decode cX11_missingNow 46 = .ok (.bipush 48, 2) := by decide +kernel
theorem dX11_missingNow_48 : decode cX11_missingNow 48 = .ok (.iload_n 1, 1) := by decide +kernel
theorem dX11_missingNow_49 : decode cX11_missingNow 49 = .ok (.imul, 1) := by decide +kernel
theorem dX11_missingNow_50 : decode cX11_missingNow 50 = .ok (.iconst 4, 1) := by decide +kernel
theorem dX11_missingNow_51 : decode cX11_missingNow 51 = .ok (.iload 6, 2) := by decide +kernel
theorem dX11_missingNow_53 : decode cX11_missingNow 53 = .ok (.iconst 1, 1) := by decide +kernel
theorem dX11_missingNow_54 : decode cX11_missingNow 54 = .ok (.iadd, 1) := by decide +kernel
theorem dX11_missingNow_55 : decode cX11_missingNow 55 = .ok (.iload_n 3, 1) := by decide +kernel
theorem dX11_missingNow_56 : decode cX11_missingNow 56 = .ok (.irem, 1) := by decide +kernel
theorem dX11_missingNow_57 : decode cX11_missingNow 57 = .ok (.imul, 1) := by decide +kernel
theorem dX11_missingNow_58 : decode cX11_missingNow 58 = .ok (.iadd, 1) := by decide +kernel
theorem dX11_missingNow_59 : decode cX11_missingNow 59 = .ok (.istore 8, 2) := by decide +kernel
theorem dX11_missingNow_61 : decode cX11_missingNow 61 = .ok (.aload_n 0, 1) := by decide +kernel
theorem dX11_missingNow_62 : decode cX11_missingNow 62 = .ok (.iload 7, 2) := by decide +kernel
theorem dX11_missingNow_64 : decode cX11_missingNow 64 = .ok (.iload 8, 2) := by decide +kernel
theorem dX11_missingNow_66 : decode cX11_missingNow 66 = .ok (.invokevirtual 92, 3) := by decide +kernel
theorem dX11_missingNow_69 : decode cX11_missingNow 69 = .ok (.aload_n 0, 1) := by decide +kernel
theorem dX11_missingNow_70 : decode cX11_missingNow 70 = .ok (.iload 7, 2) := by decide +kernel
theorem dX11_missingNow_72 : decode cX11_missingNow 72 = .ok (.iload 8, 2) := by decide +kernel
theorem dX11_missingNow_74 : decode cX11_missingNow 74 = .ok (.invokevirtual 92, 3) := by decide +kernel
theorem dX11_missingNow_77 : decode cX11_missingNow 77 = .ok (.imul, 1) := by decide +kernel
theorem dX11_missingNow_78 : decode cX11_missingNow 78 = .ok (.aload_n 0, 1) := by decide +kernel
theorem dX11_missingNow_79 : decode cX11_missingNow 79 = .ok (.iload 7, 2) := by decide +kernel
theorem dX11_missingNow_81 : decode cX11_missingNow 81 = .ok (.bipush 96, 2) := by decide +kernel
theorem dX11_missingNow_83 : decode cX11_missingNow 83 = .ok (.invokevirtual 92, 3) := by decide +kernel
theorem dX11_missingNow_86 : decode cX11_missingNow 86 = .ok (.aload_n 0, 1) := by decide +kernel
theorem dX11_missingNow_87 : decode cX11_missingNow 87 = .ok (.iload 7, 2) := by decide +kernel
theorem dX11_missingNow_89 : decode cX11_missingNow 89 = .ok (.bipush 96, 2) := by decide +kernel
theorem dX11_missingNow_91 : decode cX11_missingNow 91 = .ok (.invokevirtual 92, 3) := by decide +kernel
theorem dX11_missingNow_94 : decode cX11_missingNow 94 = .ok (.imul, 1) := by decide +kernel
theorem dX11_missingNow_95 : decode cX11_missingNow 95 = .ok (.isub, 1) := by decide +kernel
theorem dX11_missingNow_96 : decode cX11_missingNow 96 = .ok (.aload_n 0, 1) := by decide +kernel
theorem dX11_missingNow_97 : decode cX11_missingNow 97 = .ok (.bipush 96, 2) := by decide +kernel
theorem dX11_missingNow_99 : decode cX11_missingNow 99 = .ok (.iload 8, 2) := by decide +kernel
theorem dX11_missingNow_101 : decode cX11_missingNow 101 = .ok (.invokevirtual 92, 3) := by decide +kernel
theorem dX11_missingNow_104 : decode cX11_missingNow 104 = .ok (.aload_n 0, 1) := by decide +kernel
theorem dX11_missingNow_105 : decode cX11_missingNow 105 = .ok (.bipush 96, 2) := by decide +kernel
theorem dX11_missingNow_107 : decode cX11_missingNow 107 = .ok (.iload 8, 2) := by decide +kernel
theorem dX11_missingNow_109 : decode cX11_missingNow 109 = .ok (.invokevirtual 92, 3) := by decide +kernel
theorem dX11_missingNow_112 : decode cX11_missingNow 112 = .ok (.imul, 1) := by decide +kernel
theorem dX11_missingNow_113 : decode cX11_missingNow 113 = .ok (.isub, 1) := by decide +kernel
theorem dX11_missingNow_114 : decode cX11_missingNow 114 = .ok (.istore 9, 2) := by decide +kernel
theorem dX11_missingNow_116 : decode cX11_missingNow 116 = .ok (.iload 9, 2) := by decide +kernel
theorem dX11_missingNow_118 : decode cX11_missingNow 118 = .ok (.iload 5, 2) := by decide +kernel
theorem dX11_missingNow_120 : decode cX11_missingNow 120 = .ok (.if_icmp .le 8, 3) := by decide +kernel
theorem dX11_missingNow_123 : decode cX11_missingNow 123 = .ok (.iload 6, 2) := by decide +kernel
theorem dX11_missingNow_125 : decode cX11_missingNow 125 = .ok (.goto 5, 3) := by decide +kernel
theorem dX11_missingNow_128 : decode cX11_missingNow 128 = .ok (.iload 4, 2) := by decide +kernel
theorem dX11_missingNow_130 : decode cX11_missingNow 130 = .ok (.istore 4, 2) := by decide +kernel
theorem dX11_missingNow_132 : decode cX11_missingNow 132 = .ok (.iload 9, 2) := by decide +kernel
theorem dX11_missingNow_134 : decode cX11_missingNow 134 = .ok (.iload 5, 2) := by decide +kernel
theorem dX11_missingNow_136 : decode cX11_missingNow 136 = .ok (.if_icmp .le 8, 3) := by decide +kernel
theorem dX11_missingNow_139 : decode cX11_missingNow 139 = .ok (.iload 9, 2) := by decide +kernel
theorem dX11_missingNow_141 : decode cX11_missingNow 141 = .ok (.goto 5, 3) := by decide +kernel
theorem dX11_missingNow_144 : decode cX11_missingNow 144 = .ok (.iload 5, 2) := by decide +kernel
theorem dX11_missingNow_146 : decode cX11_missingNow 146 = .ok (.istore 5, 2) := by decide +kernel
theorem dX11_missingNow_148 : decode cX11_missingNow 148 = .ok (.iinc 6 1, 3) := by decide +kernel
theorem dX11_missingNow_151 : decode cX11_missingNow 151 = .ok (.goto (-129), 3) := by decide +kernel
theorem dX11_missingNow_154 : decode cX11_missingNow 154 = .ok (.iload_n 2, 1) := by decide +kernel
theorem dX11_missingNow_155 : decode cX11_missingNow 155 = .ok (.ifCond .ne 8, 3) := by decide +kernel
theorem dX11_missingNow_158 : decode cX11_missingNow 158 = .ok (.iload 4, 2) := by decide +kernel
theorem dX11_missingNow_160 : decode cX11_missingNow 160 = .ok (.goto 5, 3) := by decide +kernel
theorem dX11_missingNow_163 : decode cX11_missingNow 163 = .ok (.iload 5, 2) := by decide +kernel
theorem dX11_missingNow_165 : decode cX11_missingNow 165 = .ok (.ireturn, 1) := by decide +kernel
theorem dX11_missing_0 : decode cX11_missing 0 = .ok (.iload_n 1, 1) := by decide +kernel
theorem dX11_missing_1 : decode cX11_missing 1 = .ok (.invokestatic 79, 3) := by decide +kernel
theorem dX11_missing_4 : decode cX11_missing 4 = .ok (.ifCond .eq 21, 3) := by decide +kernel
theorem dX11_missing_7 : decode cX11_missing 7 = .ok (.iload_n 2, 1) := by decide +kernel
theorem dX11_missing_8 : decode cX11_missing 8 = .ok (.iconst 0, 1) := by decide +kernel
theorem dX11_missing_9 : decode cX11_missing 9 = .ok (.iconst 1, 1) := by decide +kernel
theorem dX11_missing_10 : decode cX11_missing 10 = .ok (.invokestatic 75, 3) := by decide +kernel
theorem dX11_missing_13 : decode cX11_missing 13 = .ok (.ifCond .eq 12, 3) := by decide +kernel
theorem dX11_missing_16 : decode cX11_missing 16 = .ok (.aload_n 0, 1) := by decide +kernel
theorem dX11_missing_17 : decode cX11_missing 17 = .ok (.iload_n 1, 1) := by decide +kernel
theorem dX11_missing_18 : decode cX11_missing 18 = .ok (.iload_n 2, 1) := by decide +kernel
theorem dX11_missing_19 : decode cX11_missing 19 = .ok (.invokevirtual 191, 3) := by decide +kernel
theorem dX11_missing_22 : decode cX11_missing 22 = .ok (.goto 5, 3) := by decide +kernel
theorem dX11_missing_25 : decode cX11_missing 25 = .ok (.bipush (-2), 2) := by decide +kernel
theorem dX11_missing_27 : decode cX11_missing 27 = .ok (.ireturn, 1) := by decide +kernel
theorem dX11_half_0 : decode cX11_half 0 = .ok (.iload_n 1, 1) := by decide +kernel
theorem dX11_half_1 : decode cX11_half 1 = .ok (.invokestatic 79, 3) := by decide +kernel
theorem dX11_half_4 : decode cX11_half 4 = .ok (.ifCond .eq 27, 3) := by decide +kernel
theorem dX11_half_7 : decode cX11_half 7 = .ok (.iload_n 2, 1) := by decide +kernel
theorem dX11_half_8 : decode cX11_half 8 = .ok (.iconst 0, 1) := by decide +kernel
theorem dX11_half_9 : decode cX11_half 9 = .ok (.aload_n 0, 1) := by decide +kernel
theorem dX11_half_10 : decode cX11_half 10 = .ok (.iload_n 1, 1) := by decide +kernel
theorem dX11_half_11 : decode cX11_half 11 = .ok (.invokevirtual 89, 3) := by decide +kernel
theorem dX11_half_14 : decode cX11_half 14 = .ok (.iconst 1, 1) := by decide +kernel
theorem dX11_half_15 : decode cX11_half 15 = .ok (.isub, 1) := by decide +kernel
theorem dX11_half_16 : decode cX11_half 16 = .ok (.invokestatic 75, 3) := by decide +kernel
theorem dX11_half_19 : decode cX11_half 19 = .ok (.ifCond .eq 12, 3) := by decide +kernel
theorem dX11_half_22 : decode cX11_half 22 = .ok (.iload_n 3, 1) := by decide +kernel
theorem dX11_half_23 : decode cX11_half 23 = .ok (.iconst 0, 1) := by decide +kernel
theorem dX11_half_24 : decode cX11_half 24 = .ok (.iconst 3, 1) := by decide +kernel
theorem dX11_half_25 : decode cX11_half 25 = .ok (.invokestatic 75, 3) := by decide +kernel
theorem dX11_half_28 : decode cX11_half 28 = .ok (.ifCond .ne 6, 3) := by decide +kernel
theorem dX11_half_31 : decode cX11_half 31 = .ok (.bipush (-2), 2) := by decide +kernel
theorem dX11_half_33 : decode cX11_half 33 = .ok (.ireturn, 1) := by decide +kernel
theorem dX11_half_34 : decode cX11_half 34 = .ok (.aload_n 0, 1) := by decide +kernel
theorem dX11_half_35 : decode cX11_half 35 = .ok (.iload_n 1, 1) := by decide +kernel
theorem dX11_half_36 : decode cX11_half 36 = .ok (.iload_n 2, 1) := by decide +kernel
theorem dX11_half_37 : decode cX11_half 37 = .ok (.invokevirtual 187, 3) := by decide +kernel
theorem dX11_half_40 : decode cX11_half 40 = .ok (.aload_n 0, 1) := by decide +kernel
theorem dX11_half_41 : decode cX11_half 41 = .ok (.getfield 19, 3) := by decide +kernel
theorem dX11_half_44 : decode cX11_half 44 = .ok (.bipush 96, 2) := by decide +kernel
theorem dX11_half_46 : decode cX11_half 46 = .ok (.iload_n 3, 1) := by decide +kernel
theorem dX11_half_47 : decode cX11_half 47 = .ok (.iadd, 1) := by decide +kernel
theorem dX11_half_48 : decode cX11_half 48 = .ok (.iaload, 1) := by decide +kernel
theorem dX11_half_49 : decode cX11_half 49 = .ok (.ireturn, 1) := by decide +kernel
theorem dX11_fewNow_0 : decode cX11_fewNow 0 = .ok (.aload_n 0, 1) := by decide +kernel
theorem dX11_fewNow_1 : decode cX11_fewNow 1 = .ok (.iload_n 1, 1) := by decide +kernel
theorem dX11_fewNow_2 : decode cX11_fewNow 2 = .ok (.invokevirtual 89, 3) := by decide +kernel
theorem dX11_fewNow_5 : decode cX11_fewNow 5 = .ok (.istore_n 3, 1) := by decide +kernel
theorem dX11_fewNow_6 : decode cX11_fewNow 6 = .ok (.iload_n 3, 1) := by decide +kernel
theorem dX11_fewNow_7 : decode cX11_fewNow 7 = .ok (.ifCond .ne 6, 3) := by decide +kernel
theorem dX11_fewNow_10 : decode cX11_fewNow 10 = .ok (.bipush (-3), 2) := by decide +kernel
theorem dX11_fewNow_12 : decode cX11_fewNow 12 = .ok (.ireturn, 1) := by decide +kernel
theorem dX11_fewNow_13 : decode cX11_fewNow 13 = .ok (.iconst (-1), 1) := by decide +kernel
theorem dX11_fewNow_14 : decode cX11_fewNow 14 = .ok (.istore 4, 2) := by decide +kernel
theorem dX11_fewNow_16 : decode cX11_fewNow 16 = .ok (.iconst 1, 1) := by decide +kernel
theorem dX11_fewNow_17 : decode cX11_fewNow 17 = .ok (.istore 5, 2) := by decide +kernel
theorem dX11_fewNow_19 : decode cX11_fewNow 19 = .ok (.iload 5, 2) := by decide +kernel
theorem dX11_fewNow_21 : decode cX11_fewNow 21 = .ok (.iconst 1, 1) := by decide +kernel
theorem dX11_fewNow_22 : decode cX11_fewNow 22 = .ok (.iload_n 3, 1) := by decide +kernel
theorem dX11_fewNow_23 : decode cX11_fewNow 23 = .ok (.ishl, 1) := by decide +kernel
theorem dX11_fewNow_24 : decode cX11_fewNow 24 = .ok (.if_icmp .ge 126, 3) := by decide +kernel
theorem dX11_fewNow_27 : decode cX11_fewNow 27 = .ok (.iload 4, 2) := by decide +kernel
theorem dX11_fewNow_29 : decode cX11_fewNow 29 = .ok (.iconst (-1), 1) := by decide +kernel
theorem dX11_fewNow_30 : decode cX11_fewNow 30 = .ok (.if_icmp .eq 16, 3) := by decide +kernel
theorem dX11_fewNow_33 : decode cX11_fewNow 33 = .ok (.iload 5, 2) := by decide +kernel
theorem dX11_fewNow_35 : decode cX11_fewNow 35 = .ok (.invokestatic 194, 3) := by decide +kernel
theorem dX11_fewNow_38 : decode cX11_fewNow 38 = .ok (.iload 4, 2) := by decide +kernel
theorem dX11_fewNow_40 : decode cX11_fewNow 40 = .ok (.invokestatic 194, 3) := by decide +kernel
theorem dX11_fewNow_43 : decode cX11_fewNow 43 = .ok (.if_icmp .ge 7, 3) := by decide +kernel
theorem dX11_fewNow_46 : decode cX11_fewNow 46 = .ok (.iconst 1, 1) := by decide +kernel
theorem dX11_fewNow_47 : decode cX11_fewNow 47 = .ok (.goto 4, 3) := by decide +kernel
theorem dX11_fewNow_50 : decode cX11_fewNow 50 = .ok (.iconst 0, 1) := by decide +kernel
theorem dX11_fewNow_51 : decode cX11_fewNow 51 = .ok (.istore 6, 2) := by decide +kernel
theorem dX11_fewNow_53 : decode cX11_fewNow 53 = .ok (.iconst 0, 1) := by decide +kernel
theorem dX11_fewNow_54 : decode cX11_fewNow 54 = .ok (.istore 7, 2) := by decide +kernel
theorem dX11_fewNow_56 : decode cX11_fewNow 56 = .ok (.iload 7, 2) := by decide +kernel
theorem dX11_fewNow_58 : decode cX11_fewNow 58 = .ok (.iload_n 3, 1) := by decide +kernel
theorem dX11_fewNow_59 : decode cX11_fewNow 59 = .ok (.if_icmp .ge 71, 3) := by decide +kernel
theorem dX11_fewNow_62 : decode cX11_fewNow 62 = .ok (.iload 6, 2) := by decide +kernel
theorem dX11_fewNow_64 : decode cX11_fewNow 64 = .ok (.ifCond .eq 66, 3) := by decide +kernel
theorem dX11_fewNow_67 : decode cX11_fewNow 67 = .ok (.iconst 0, 1) := by decide +kernel
theorem dX11_fewNow_68 : decode cX11_fewNow 68 = .ok (.istore 8, 2) := by decide +kernel
theorem dX11_fewNow_70 : decode cX11_fewNow 70 = .ok (.iconst 0, 1) := by decide +kernel
theorem dX11_fewNow_71 : decode cX11_fewNow 71 = .ok (.istore 9, 2) := by decide +kernel
theorem dX11_fewNow_73 : decode cX11_fewNow 73 = .ok (.iload 9, 2) := by decide +kernel
theorem dX11_fewNow_75 : decode cX11_fewNow 75 = .ok (.iload_n 3, 1) := by decide +kernel
theorem dX11_fewNow_76 : decode cX11_fewNow 76 = .ok (.if_icmp .ge 44, 3) := by decide +kernel
theorem dX11_fewNow_79 : decode cX11_fewNow 79 = .ok (.iload 8, 2) := by decide +kernel
theorem dX11_fewNow_81 : decode cX11_fewNow 81 = .ok (.ifCond .ne 26, 3) := by decide +kernel
theorem dX11_fewNow_84 : decode cX11_fewNow 84 = .ok (.iload 5, 2) := by decide +kernel
theorem dX11_fewNow_86 : decode cX11_fewNow 86 = .ok (.iload 9, 2) := by decide +kernel
theorem dX11_fewNow_88 : decode cX11_fewNow 88 = .ok (.invokestatic 155, 3) := by decide +kernel
theorem dX11_fewNow_91 : decode cX11_fewNow 91 = .ok (.ifCond .eq 20, 3) := by decide +kernel
theorem dX11_fewNow_94 : decode cX11_fewNow 94 = .ok (.aload_n 0, 1) := by decide +kernel
theorem dX11_fewNow_95 : decode cX11_fewNow 95 = .ok (.iload_n 1, 1) := by decide +kernel
theorem dX11_fewNow_96 : decode cX11_fewNow 96 = .ok (.iload 7, 2) := by decide +kernel
theorem dX11_fewNow_98 : decode cX11_fewNow 98 = .ok (.iload 9, 2) := by decide +kernel
theorem dX11_fewNow_100 : decode cX11_fewNow 100 = .ok (.invokevirtual 95, 3) := by decide +kernel
theorem dX11_fewNow_103 : decode cX11_fewNow 103 = .ok (.iload_n 2, 1) := by decide +kernel
theorem dX11_fewNow_104 : decode cX11_fewNow 104 = .ok (.if_icmp .gt 7, 3) := by decide +kernel
theorem dX11_fewNow_107 : decode cX11_fewNow 107 = .ok (.iconst 1, 1) := by decide +kernel
theorem dX11_fewNow_108 : decode cX11_fewNow 108 = .ok (.goto 4, 3) := by decide +kernel
theorem dX11_fewNow_111 : decode cX11_fewNow 111 = .ok (.iconst 0, 1) := by decide +kernel
theorem dX11_fewNow_112 : decode cX11_fewNow 112 = .ok (.istore 8, 2) := by decide +kernel
theorem dX11_fewNow_114 : decode cX11_fewNow 114 = .ok (.iinc 9 1, 3) := by decide +kernel
theorem dX11_fewNow_117 : decode cX11_fewNow 117 = .ok (.goto (-44), 3) := by decide +kernel
theorem dX11_fewNow_120 : decode cX11_fewNow 120 = .ok (.iload 8, 2) := by decide +kernel
theorem dX11_fewNow_122 : decode cX11_fewNow 122 = .ok (.istore 6, 2) := by decide +kernel
theorem dX11_fewNow_124 : decode cX11_fewNow 124 = .ok (.iinc 7 1, 3) := by decide +kernel
theorem dX11_fewNow_127 : decode cX11_fewNow 127 = .ok (.goto (-71), 3) := by decide +kernel
theorem dX11_fewNow_130 : decode cX11_fewNow 130 = .ok (.iload 6, 2) := by decide +kernel
theorem dX11_fewNow_132 : decode cX11_fewNow 132 = .ok (.ifCond .eq 8, 3) := by decide +kernel
theorem dX11_fewNow_135 : decode cX11_fewNow 135 = .ok (.iload 5, 2) := by decide +kernel
theorem dX11_fewNow_137 : decode cX11_fewNow 137 = .ok (.goto 5, 3) := by decide +kernel
theorem dX11_fewNow_140 : decode cX11_fewNow 140 = .ok (.iload 4, 2) := by decide +kernel
theorem dX11_fewNow_142 : decode cX11_fewNow 142 = .ok (.istore 4, 2) := by decide +kernel
theorem dX11_fewNow_144 : decode cX11_fewNow 144 = .ok (.iinc 5 1, 3) := by decide +kernel
theorem dX11_fewNow_147 : decode cX11_fewNow 147 = .ok (.goto (-128), 3) := by decide +kernel
theorem dX11_fewNow_150 : decode cX11_fewNow 150 = .ok (.iload 4, 2) := by decide +kernel
theorem dX11_fewNow_152 : decode cX11_fewNow 152 = .ok (.ireturn, 1) := by decide +kernel
theorem dX11_few_0 : decode cX11_few 0 = .ok (.iload_n 1, 1) := by decide +kernel
theorem dX11_few_1 : decode cX11_few 1 = .ok (.invokestatic 79, 3) := by decide +kernel
theorem dX11_few_4 : decode cX11_few 4 = .ok (.ifCond .eq 22, 3) := by decide +kernel
theorem dX11_few_7 : decode cX11_few 7 = .ok (.iload_n 2, 1) := by decide +kernel
theorem dX11_few_8 : decode cX11_few 8 = .ok (.iconst 0, 1) := by decide +kernel
theorem dX11_few_9 : decode cX11_few 9 = .ok (.bipush 60, 2) := by decide +kernel
theorem dX11_few_11 : decode cX11_few 11 = .ok (.invokestatic 75, 3) := by decide +kernel
theorem dX11_few_14 : decode cX11_few 14 = .ok (.ifCond .eq 12, 3) := by decide +kernel
theorem dX11_few_17 : decode cX11_few 17 = .ok (.aload_n 0, 1) := by decide +kernel
theorem dX11_few_18 : decode cX11_few 18 = .ok (.iload_n 1, 1) := by decide +kernel
theorem dX11_few_19 : decode cX11_few 19 = .ok (.iload_n 2, 1) := by decide +kernel
theorem dX11_few_20 : decode cX11_few 20 = .ok (.invokevirtual 197, 3) := by decide +kernel
theorem dX11_few_23 : decode cX11_few 23 = .ok (.goto 5, 3) := by decide +kernel
theorem dX11_few_26 : decode cX11_few 26 = .ok (.bipush (-2), 2) := by decide +kernel
theorem dX11_few_28 : decode cX11_few 28 = .ok (.ireturn, 1) := by decide +kernel
theorem dX11_tries_0 : decode cX11_tries 0 = .ok (.iload_n 1, 1) := by decide +kernel
theorem dX11_tries_1 : decode cX11_tries 1 = .ok (.iconst 1, 1) := by decide +kernel
theorem dX11_tries_2 : decode cX11_tries 2 = .ok (.bipush 60, 2) := by decide +kernel
theorem dX11_tries_4 : decode cX11_tries 4 = .ok (.invokestatic 75, 3) := by decide +kernel
theorem dX11_tries_7 : decode cX11_tries 7 = .ok (.ifCond .eq 22, 3) := by decide +kernel
theorem dX11_tries_10 : decode cX11_tries 10 = .ok (.iload_n 2, 1) := by decide +kernel
theorem dX11_tries_11 : decode cX11_tries 11 = .ok (.iconst 0, 1) := by decide +kernel
theorem dX11_tries_12 : decode cX11_tries 12 = .ok (.bipush 9, 2) := by decide +kernel
theorem dX11_tries_14 : decode cX11_tries 14 = .ok (.invokestatic 75, 3) := by decide +kernel
theorem dX11_tries_17 : decode cX11_tries 17 = .ok (.ifCond .eq 12, 3) := by decide +kernel
theorem dX11_tries_20 : decode cX11_tries 20 = .ok (.iload_n 3, 1) := by decide +kernel
theorem dX11_tries_21 : decode cX11_tries 21 = .ok (.iconst 0, 1) := by decide +kernel
theorem dX11_tries_22 : decode cX11_tries 22 = .ok (.iconst 1, 1) := by decide +kernel
theorem dX11_tries_23 : decode cX11_tries 23 = .ok (.invokestatic 75, 3) := by decide +kernel
theorem dX11_tries_26 : decode cX11_tries 26 = .ok (.ifCond .ne 6, 3) := by decide +kernel
theorem dX11_tries_29 : decode cX11_tries 29 = .ok (.bipush (-2), 2) := by decide +kernel
theorem dX11_tries_31 : decode cX11_tries 31 = .ok (.ireturn, 1) := by decide +kernel
theorem dX11_tries_32 : decode cX11_tries 32 = .ok (.aload_n 0, 1) := by decide +kernel
theorem dX11_tries_33 : decode cX11_tries 33 = .ok (.getfield 200, 3) := by decide +kernel
theorem dX11_tries_36 : decode cX11_tries 36 = .ok (.bipush 40, 2) := by decide +kernel
theorem dX11_tries_38 : decode cX11_tries 38 = .ok (.if_icmp .ne 6, 3) := by decide +kernel
theorem dX11_tries_41 : decode cX11_tries 41 = .ok (.bipush (-4), 2) := by decide +kernel
theorem dX11_tries_43 : decode cX11_tries 43 = .ok (.ireturn, 1) := by decide +kernel
theorem dX11_tries_44 : decode cX11_tries 44 = .ok (.aload_n 0, 1) := by decide +kernel
theorem dX11_tries_45 : decode cX11_tries 45 = .ok (.getfield 40, 3) := by decide +kernel
theorem dX11_tries_48 : decode cX11_tries 48 = .ok (.aload_n 0, 1) := by decide +kernel
theorem dX11_tries_49 : decode cX11_tries 49 = .ok (.getfield 200, 3) := by decide +kernel
theorem dX11_tries_52 : decode cX11_tries 52 = .ok (.iload_n 1, 1) := by decide +kernel
theorem dX11_tries_53 : decode cX11_tries 53 = .ok (.iastore, 1) := by decide +kernel
theorem dX11_tries_54 : decode cX11_tries 54 = .ok (.aload_n 0, 1) := by decide +kernel
theorem dX11_tries_55 : decode cX11_tries 55 = .ok (.getfield 43, 3) := by decide +kernel
theorem dX11_tries_58 : decode cX11_tries 58 = .ok (.aload_n 0, 1) := by decide +kernel
theorem dX11_tries_59 : decode cX11_tries 59 = .ok (.getfield 200, 3) := by decide +kernel
theorem dX11_tries_62 : decode cX11_tries 62 = .ok (.iload_n 2, 1) := by decide +kernel
theorem dX11_tries_63 : decode cX11_tries 63 = .ok (.iastore, 1) := by decide +kernel
theorem dX11_tries_64 : decode cX11_tries 64 = .ok (.aload_n 0, 1) := by decide +kernel
theorem dX11_tries_65 : decode cX11_tries 65 = .ok (.getfield 46, 3) := by decide +kernel
theorem dX11_tries_68 : decode cX11_tries 68 = .ok (.aload_n 0, 1) := by decide +kernel
theorem dX11_tries_69 : decode cX11_tries 69 = .ok (.getfield 200, 3) := by decide +kernel
theorem dX11_tries_72 : decode cX11_tries 72 = .ok (.iload_n 3, 1) := by decide +kernel
theorem dX11_tries_73 : decode cX11_tries 73 = .ok (.iastore, 1) := by decide +kernel
theorem dX11_tries_74 : decode cX11_tries 74 = .ok (.aload_n 0, 1) := by decide +kernel
theorem dX11_tries_75 : decode cX11_tries 75 = .ok (.dup, 1) := by decide +kernel
theorem dX11_tries_76 : decode cX11_tries 76 = .ok (.getfield 200, 3) := by decide +kernel
theorem dX11_tries_79 : decode cX11_tries 79 = .ok (.iconst 1, 1) := by decide +kernel
theorem dX11_tries_80 : decode cX11_tries 80 = .ok (.iadd, 1) := by decide +kernel
theorem dX11_tries_81 : decode cX11_tries 81 = .ok (.putfield 200, 3) := by decide +kernel
theorem dX11_tries_84 : decode cX11_tries 84 = .ok (.aload_n 0, 1) := by decide +kernel
theorem dX11_tries_85 : decode cX11_tries 85 = .ok (.getfield 200, 3) := by decide +kernel
theorem dX11_tries_88 : decode cX11_tries 88 = .ok (.ireturn, 1) := by decide +kernel
theorem dX11_wrongOf_0 : decode cX11_wrongOf 0 = .ok (.iconst 0, 1) := by decide +kernel
theorem dX11_wrongOf_1 : decode cX11_wrongOf 1 = .ok (.istore_n 3, 1) := by decide +kernel
theorem dX11_wrongOf_2 : decode cX11_wrongOf 2 = .ok (.iconst 0, 1) := by decide +kernel
theorem dX11_wrongOf_3 : decode cX11_wrongOf 3 = .ok (.istore 4, 2) := by decide +kernel
theorem dX11_wrongOf_5 : decode cX11_wrongOf 5 = .ok (.iload 4, 2) := by decide +kernel
theorem dX11_wrongOf_7 : decode cX11_wrongOf 7 = .ok (.aload_n 0, 1) := by decide +kernel
theorem dX11_wrongOf_8 : decode cX11_wrongOf 8 = .ok (.getfield 200, 3) := by decide +kernel
theorem dX11_wrongOf_11 : decode cX11_wrongOf 11 = .ok (.if_icmp .ge 57, 3) := by decide +kernel
theorem dX11_wrongOf_14 : decode cX11_wrongOf 14 = .ok (.aload_n 0, 1) := by decide +kernel
theorem dX11_wrongOf_15 : decode cX11_wrongOf 15 = .ok (.getfield 40, 3) := by decide +kernel
theorem dX11_wrongOf_18 : decode cX11_wrongOf 18 = .ok (.iload 4, 2) := by decide +kernel
theorem dX11_wrongOf_20 : decode cX11_wrongOf 20 = .ok (.iaload, 1) := by decide +kernel
theorem dX11_wrongOf_21 : decode cX11_wrongOf 21 = .ok (.iload_n 1, 1) := by decide +kernel
theorem dX11_wrongOf_22 : decode cX11_wrongOf 22 = .ok (.iload_n 2, 1) := by decide +kernel
theorem dX11_wrongOf_23 : decode cX11_wrongOf 23 = .ok (.aload_n 0, 1) := by decide +kernel
theorem dX11_wrongOf_24 : decode cX11_wrongOf 24 = .ok (.getfield 43, 3) := by decide +kernel
theorem dX11_wrongOf_27 : decode cX11_wrongOf 27 = .ok (.iload 4, 2) := by decide +kernel
theorem dX11_wrongOf_29 : decode cX11_wrongOf 29 = .ok (.iaload, 1) := by decide +kernel
theorem dX11_wrongOf_30 : decode cX11_wrongOf 30 = .ok (.imul, 1) := by decide +kernel
theorem dX11_wrongOf_31 : decode cX11_wrongOf 31 = .ok (.iadd, 1) := by decide +kernel
theorem dX11_wrongOf_32 : decode cX11_wrongOf 32 = .ok (.if_icmp .lt 7, 3) := by decide +kernel
theorem dX11_wrongOf_35 : decode cX11_wrongOf 35 = .ok (.iconst 1, 1) := by decide +kernel
theorem dX11_wrongOf_36 : decode cX11_wrongOf 36 = .ok (.goto 4, 3) := by decide +kernel
theorem dX11_wrongOf_39 : decode cX11_wrongOf 39 = .ok (.iconst 0, 1) := by decide +kernel
theorem dX11_wrongOf_40 : decode cX11_wrongOf 40 = .ok (.istore 5, 2) := by decide +kernel
theorem dX11_wrongOf_42 : decode cX11_wrongOf 42 = .ok (.iload_n 3, 1) := by decide +kernel
theorem dX11_wrongOf_43 : decode cX11_wrongOf 43 = .ok (.iload 5, 2) := by decide +kernel
theorem dX11_wrongOf_45 : decode cX11_wrongOf 45 = .ok (.aload_n 0, 1) := by decide +kernel
theorem dX11_wrongOf_46 : decode cX11_wrongOf 46 = .ok (.getfield 46, 3) := by decide +kernel
theorem dX11_wrongOf_49 : decode cX11_wrongOf 49 = .ok (.iload 4, 2) := by decide +kernel
theorem dX11_wrongOf_51 : decode cX11_wrongOf 51 = .ok (.iaload, 1) := by decide +kernel
theorem dX11_wrongOf_52 : decode cX11_wrongOf 52 = .ok (.if_icmp .ne 7, 3) := by decide +kernel
theorem dX11_wrongOf_55 : decode cX11_wrongOf 55 = .ok (.iconst 0, 1) := by decide +kernel
theorem dX11_wrongOf_56 : decode cX11_wrongOf 56 = .ok (.goto 4, 3) := by decide +kernel
theorem dX11_wrongOf_59 : decode cX11_wrongOf 59 = .ok (.iconst 1, 1) := by decide +kernel
theorem dX11_wrongOf_60 : decode cX11_wrongOf 60 = .ok (.iadd, 1) := by decide +kernel
theorem dX11_wrongOf_61 : decode cX11_wrongOf 61 = .ok (.istore_n 3, 1) := by decide +kernel
theorem dX11_wrongOf_62 : decode cX11_wrongOf 62 = .ok (.iinc 4 1, 3) := by decide +kernel
theorem dX11_wrongOf_65 : decode cX11_wrongOf 65 = .ok (.goto (-60), 3) := by decide +kernel
theorem dX11_wrongOf_68 : decode cX11_wrongOf 68 = .ok (.iload_n 3, 1) := by decide +kernel
theorem dX11_wrongOf_69 : decode cX11_wrongOf 69 = .ok (.ireturn, 1) := by decide +kernel
theorem dX11_wrong_0 : decode cX11_wrong 0 = .ok (.iload_n 1, 1) := by decide +kernel
theorem dX11_wrong_1 : decode cX11_wrong 1 = .ok (.iconst 0, 1) := by decide +kernel
theorem dX11_wrong_2 : decode cX11_wrong 2 = .ok (.bipush 60, 2) := by decide +kernel
theorem dX11_wrong_4 : decode cX11_wrong 4 = .ok (.invokestatic 75, 3) := by decide +kernel
theorem dX11_wrong_7 : decode cX11_wrong 7 = .ok (.ifCond .eq 22, 3) := by decide +kernel
theorem dX11_wrong_10 : decode cX11_wrong 10 = .ok (.iload_n 2, 1) := by decide +kernel
theorem dX11_wrong_11 : decode cX11_wrong 11 = .ok (.iconst 0, 1) := by decide +kernel
theorem dX11_wrong_12 : decode cX11_wrong 12 = .ok (.bipush 9, 2) := by decide +kernel
theorem dX11_wrong_14 : decode cX11_wrong 14 = .ok (.invokestatic 75, 3) := by decide +kernel
theorem dX11_wrong_17 : decode cX11_wrong 17 = .ok (.ifCond .eq 12, 3) := by decide +kernel
theorem dX11_wrong_20 : decode cX11_wrong 20 = .ok (.aload_n 0, 1) := by decide +kernel
theorem dX11_wrong_21 : decode cX11_wrong 21 = .ok (.iload_n 1, 1) := by decide +kernel
theorem dX11_wrong_22 : decode cX11_wrong 22 = .ok (.iload_n 2, 1) := by decide +kernel
theorem dX11_wrong_23 : decode cX11_wrong 23 = .ok (.invokevirtual 203, 3) := by decide +kernel
theorem dX11_wrong_26 : decode cX11_wrong 26 = .ok (.goto 5, 3) := by decide +kernel
theorem dX11_wrong_29 : decode cX11_wrong 29 = .ok (.bipush (-2), 2) := by decide +kernel
theorem dX11_wrong_31 : decode cX11_wrong 31 = .ok (.ireturn, 1) := by decide +kernel
theorem dX11_lineNow_0 : decode cX11_lineNow 0 = .ok (.aload_n 0, 1) := by decide +kernel
theorem dX11_lineNow_1 : decode cX11_lineNow 1 = .ok (.getfield 200, 3) := by decide +kernel
theorem dX11_lineNow_4 : decode cX11_lineNow 4 = .ok (.ifCond .ne 6, 3) := by decide +kernel
theorem dX11_lineNow_7 : decode cX11_lineNow 7 = .ok (.bipush (-3), 2) := by decide +kernel
theorem dX11_lineNow_9 : decode cX11_lineNow 9 = .ok (.ireturn, 1) := by decide +kernel
theorem dX11_lineNow_10 : decode cX11_lineNow 10 = .ok (.iconst 0, 1) := by decide +kernel
theorem dX11_lineNow_11 : decode cX11_lineNow 11 = .ok (.istore_n 2, 1) := by decide +kernel
theorem dX11_lineNow_12 : decode cX11_lineNow 12 = .ok (.aload_n 0, 1) := by decide +kernel
theorem dX11_lineNow_13 : decode cX11_lineNow 13 = .ok (.iconst 0, 1) := by decide +kernel
theorem dX11_lineNow_14 : decode cX11_lineNow 14 = .ok (.iconst 0, 1) := by decide +kernel
theorem dX11_lineNow_15 : decode cX11_lineNow 15 = .ok (.invokevirtual 203, 3) := by decide +kernel
theorem dX11_lineNow_18 : decode cX11_lineNow 18 = .ok (.istore_n 3, 1) := by decide +kernel
theorem dX11_lineNow_19 : decode cX11_lineNow 19 = .ok (.iconst 1, 1) := by decide +kernel
theorem dX11_lineNow_20 : decode cX11_lineNow 20 = .ok (.istore 4, 2) := by decide +kernel
theorem dX11_lineNow_22 : decode cX11_lineNow 22 = .ok (.iload 4, 2) := by decide +kernel
theorem dX11_lineNow_24 : decode cX11_lineNow 24 = .ok (.sipush 610, 3) := by decide +kernel
theorem dX11_lineNow_27 : decode cX11_lineNow 27 = .ok (.if_icmp .ge 51, 3) := by decide +kernel
theorem dX11_lineNow_30 : decode cX11_lineNow 30 = .ok (.aload_n 0, 1) := by decide +kernel
theorem dX11_lineNow_31 : decode cX11_lineNow 31 = .ok (.iload 4, 2) := by decide +kernel
theorem dX11_lineNow_33 : decode cX11_lineNow 33 = .ok (.bipush 10, 2) := by decide +kernel
theorem dX11_lineNow_35 : decode cX11_lineNow 35 = .ok (.idiv, 1) := by decide +kernel
theorem dX11_lineNow_36 : decode cX11_lineNow 36 = .ok (.iload 4, 2) := by decide +kernel
theorem dX11_lineNow_38 : decode cX11_lineNow 38 = .ok (.bipush 10, 2) := by decide +kernel
theorem dX11_lineNow_40 : decode cX11_lineNow 40 = .ok (.irem, 1) := by decide +kernel
theorem dX11_lineNow_41 : decode cX11_lineNow 41 = .ok (.invokevirtual 203, 3) := by decide +kernel
theorem dX11_lineNow_44 : decode cX11_lineNow 44 = .ok (.istore 5, 2) := by decide +kernel
theorem dX11_lineNow_46 : decode cX11_lineNow 46 = .ok (.iload 5, 2) := by decide +kernel
theorem dX11_lineNow_48 : decode cX11_lineNow 48 = .ok (.iload_n 3, 1) := by decide +kernel
theorem dX11_lineNow_49 : decode cX11_lineNow 49 = .ok (.if_icmp .ge 8, 3) := by decide +kernel
theorem dX11_lineNow_52 : decode cX11_lineNow 52 = .ok (.iload 4, 2) := by decide +kernel
theorem dX11_lineNow_54 : decode cX11_lineNow 54 = .ok (.goto 4, 3) := by decide +kernel
theorem dX11_lineNow_57 : decode cX11_lineNow 57 = .ok (.iload_n 2, 1) := by decide +kernel
theorem dX11_lineNow_58 : decode cX11_lineNow 58 = .ok (.istore_n 2, 1) := by decide +kernel
theorem dX11_lineNow_59 : decode cX11_lineNow 59 = .ok (.iload 5, 2) := by decide +kernel
theorem dX11_lineNow_61 : decode cX11_lineNow 61 = .ok (.iload_n 3, 1) := by decide +kernel
theorem dX11_lineNow_62 : decode cX11_lineNow 62 = .ok (.if_icmp .ge 8, 3) := by decide +kernel
theorem dX11_lineNow_65 : decode cX11_lineNow 65 = .ok (.iload 5, 2) := by decide +kernel
theorem dX11_lineNow_67 : decode cX11_lineNow 67 = .ok (.goto 4, 3) := by decide +kernel
theorem dX11_lineNow_70 : decode cX11_lineNow 70 = .ok (.iload_n 3, 1) := by decide +kernel
theorem dX11_lineNow_71 : decode cX11_lineNow 71 = .ok (.istore_n 3, 1) := by decide +kernel
theorem dX11_lineNow_72 : decode cX11_lineNow 72 = .ok (.iinc 4 1, 3) := by decide +kernel
theorem dX11_lineNow_75 : decode cX11_lineNow 75 = .ok (.goto (-53), 3) := by decide +kernel
theorem dX11_lineNow_78 : decode cX11_lineNow 78 = .ok (.iload_n 1, 1) := by decide +kernel
theorem dX11_lineNow_79 : decode cX11_lineNow 79 = .ok (.ifCond .ne 10, 3) := by decide +kernel
theorem dX11_lineNow_82 : decode cX11_lineNow 82 = .ok (.iload_n 2, 1) := by decide +kernel
theorem dX11_lineNow_83 : decode cX11_lineNow 83 = .ok (.bipush 10, 2) := by decide +kernel
theorem dX11_lineNow_85 : decode cX11_lineNow 85 = .ok (.idiv, 1) := by decide +kernel
theorem dX11_lineNow_86 : decode cX11_lineNow 86 = .ok (.goto 16, 3) := by decide +kernel
theorem dX11_lineNow_89 : decode cX11_lineNow 89 = .ok (.iload_n 1, 1) := by decide +kernel
theorem dX11_lineNow_90 : decode cX11_lineNow 90 = .ok (.iconst 1, 1) := by decide +kernel
theorem dX11_lineNow_91 : decode cX11_lineNow 91 = .ok (.if_icmp .ne 10, 3) := by decide +kernel
theorem dX11_lineNow_94 : decode cX11_lineNow 94 = .ok (.iload_n 2, 1) := by decide +kernel
theorem dX11_lineNow_95 : decode cX11_lineNow 95 = .ok (.bipush 10, 2) := by decide +kernel
theorem dX11_lineNow_97 : decode cX11_lineNow 97 = .ok (.irem, 1) := by decide +kernel
theorem dX11_lineNow_98 : decode cX11_lineNow 98 = .ok (.goto 4, 3) := by decide +kernel
theorem dX11_lineNow_101 : decode cX11_lineNow 101 = .ok (.iload_n 3, 1) := by decide +kernel
theorem dX11_lineNow_102 : decode cX11_lineNow 102 = .ok (.ireturn, 1) := by decide +kernel
theorem dX11_line_0 : decode cX11_line 0 = .ok (.iload_n 1, 1) := by decide +kernel
theorem dX11_line_1 : decode cX11_line 1 = .ok (.iconst 0, 1) := by decide +kernel
theorem dX11_line_2 : decode cX11_line 2 = .ok (.iconst 2, 1) := by decide +kernel
theorem dX11_line_3 : decode cX11_line 3 = .ok (.invokestatic 75, 3) := by decide +kernel
theorem dX11_line_6 : decode cX11_line 6 = .ok (.ifCond .eq 11, 3) := by decide +kernel
theorem dX11_line_9 : decode cX11_line 9 = .ok (.aload_n 0, 1) := by decide +kernel
theorem dX11_line_10 : decode cX11_line 10 = .ok (.iload_n 1, 1) := by decide +kernel
theorem dX11_line_11 : decode cX11_line 11 = .ok (.invokevirtual 206, 3) := by decide +kernel
theorem dX11_line_14 : decode cX11_line 14 = .ok (.goto 5, 3) := by decide +kernel
theorem dX11_line_17 : decode cX11_line 17 = .ok (.bipush (-2), 2) := by decide +kernel
theorem dX11_line_19 : decode cX11_line 19 = .ok (.ireturn, 1) := by decide +kernel
theorem dX11_bent_0 : decode cX11_bent 0 = .ok (.iload_n 1, 1) := by decide +kernel
theorem dX11_bent_1 : decode cX11_bent 1 = .ok (.invokestatic 135, 3) := by decide +kernel
theorem dX11_bent_4 : decode cX11_bent 4 = .ok (.ifCond .eq 12, 3) := by decide +kernel
theorem dX11_bent_7 : decode cX11_bent 7 = .ok (.iload_n 2, 1) := by decide +kernel
theorem dX11_bent_8 : decode cX11_bent 8 = .ok (.iconst 0, 1) := by decide +kernel
theorem dX11_bent_9 : decode cX11_bent 9 = .ok (.iconst 2, 1) := by decide +kernel
theorem dX11_bent_10 : decode cX11_bent 10 = .ok (.invokestatic 75, 3) := by decide +kernel
theorem dX11_bent_13 : decode cX11_bent 13 = .ok (.ifCond .ne 6, 3) := by decide +kernel
theorem dX11_bent_16 : decode cX11_bent 16 = .ok (.bipush (-2), 2) := by decide +kernel
theorem dX11_bent_18 : decode cX11_bent 18 = .ok (.ireturn, 1) := by decide +kernel
theorem dX11_bent_19 : decode cX11_bent 19 = .ok (.aload_n 0, 1) := by decide +kernel
theorem dX11_bent_20 : decode cX11_bent 20 = .ok (.getfield 49, 3) := by decide +kernel
theorem dX11_bent_23 : decode cX11_bent 23 = .ok (.iload_n 1, 1) := by decide +kernel
theorem dX11_bent_24 : decode cX11_bent 24 = .ok (.baload, 1) := by decide +kernel
theorem dX11_bent_25 : decode cX11_bent 25 = .ok (.ifCond .ne 9, 3) := by decide +kernel
theorem dX11_bent_28 : decode cX11_bent 28 = .ok (.aload_n 0, 1) := by decide +kernel
theorem dX11_bent_29 : decode cX11_bent 29 = .ok (.iconst 1, 1) := by decide +kernel
theorem dX11_bent_30 : decode cX11_bent 30 = .ok (.invokevirtual 138, 3) := by decide +kernel
theorem dX11_bent_33 : decode cX11_bent 33 = .ok (.ireturn, 1) := by decide +kernel
theorem dX11_bent_34 : decode cX11_bent 34 = .ok (.aload_n 0, 1) := by decide +kernel
theorem dX11_bent_35 : decode cX11_bent 35 = .ok (.getfield 56, 3) := by decide +kernel
theorem dX11_bent_38 : decode cX11_bent 38 = .ok (.iload_n 1, 1) := by decide +kernel
theorem dX11_bent_39 : decode cX11_bent 39 = .ok (.iaload, 1) := by decide +kernel
theorem dX11_bent_40 : decode cX11_bent 40 = .ok (.ifCond .ne 6, 3) := by decide +kernel
theorem dX11_bent_43 : decode cX11_bent 43 = .ok (.bipush (-3), 2) := by decide +kernel
theorem dX11_bent_45 : decode cX11_bent 45 = .ok (.ireturn, 1) := by decide +kernel
theorem dX11_bent_46 : decode cX11_bent 46 = .ok (.iconst 0, 1) := by decide +kernel
theorem dX11_bent_47 : decode cX11_bent 47 = .ok (.istore_n 3, 1) := by decide +kernel
theorem dX11_bent_48 : decode cX11_bent 48 = .ok (.ldc 141, 2) := by decide +kernel
theorem dX11_bent_50 : decode cX11_bent 50 = .ok (.istore 4, 2) := by decide +kernel
theorem dX11_bent_52 : decode cX11_bent 52 = .ok (.iconst 0, 1) := by decide +kernel
theorem dX11_bent_53 : decode cX11_bent 53 = .ok (.istore 5, 2) := by decide +kernel
theorem dX11_bent_55 : decode cX11_bent 55 = .ok (.iload 5, 2) := by decide +kernel
theorem dX11_bent_57 : decode cX11_bent 57 = .ok (.sipush 3600, 3) := by decide +kernel
theorem dX11_bent_60 : decode cX11_bent 60 = .ok (.if_icmp .ge 115, 3) := by decide +kernel
theorem dX11_bent_63 : decode cX11_bent 63 = .ok (.iconst 0, 1) := by decide +kernel
theorem dX11_bent_64 : decode cX11_bent 64 = .ok (.istore 6, 2) := by decide +kernel
theorem dX11_bent_66 : decode cX11_bent 66 = .ok (.iconst 0, 1) := by decide +kernel
theorem dX11_bent_67 : decode cX11_bent 67 = .ok (.istore 7, 2) := by decide +kernel
theorem dX11_bent_69 : decode cX11_bent 69 = .ok (.iload 7, 2) := by decide +kernel
theorem dX11_bent_71 : decode cX11_bent 71 = .ok (.aload_n 0, 1) := by decide +kernel
theorem dX11_bent_72 : decode cX11_bent 72 = .ok (.getfield 56, 3) := by decide +kernel
theorem dX11_bent_75 : decode cX11_bent 75 = .ok (.iload_n 1, 1) := by decide +kernel
theorem dX11_bent_76 : decode cX11_bent 76 = .ok (.iaload, 1) := by decide +kernel
theorem dX11_bent_77 : decode cX11_bent 77 = .ok (.if_icmp .ge 62, 3) := by decide +kernel
theorem dX11_bent_80 : decode cX11_bent 80 = .ok (.aload_n 0, 1) := by decide +kernel
theorem dX11_bent_81 : decode cX11_bent 81 = .ok (.getfield 59, 3) := by decide +kernel
theorem dX11_bent_84 : decode cX11_bent 84 = .ok (.bipush 60, 2) := by decide +kernel
theorem dX11_bent_86 : decode cX11_bent 86 = .ok (.iload_n 1, 1) := by decide +kernel
theorem dX11_bent_87 : decode cX11_bent 87 = .ok (.imul, 1) := by decide +kernel
theorem dX11_bent_88 : decode cX11_bent 88 = .ok (.iload 7, 2) := by decide +kernel
theorem dX11_bent_90 : decode cX11_bent 90 = .ok (.iadd, 1) := by decide +kernel
theorem dX11_bent_91 : decode cX11_bent 91 = .ok (.iaload, 1) := by decide +kernel
theorem dX11_bent_92 : decode cX11_bent 92 = .ok (.bipush 60, 2) := by decide +kernel
theorem dX11_bent_94 : decode cX11_bent 94 = .ok (.irem, 1) := by decide +kernel
theorem dX11_bent_95 : decode cX11_bent 95 = .ok (.bipush 60, 2) := by decide +kernel
theorem dX11_bent_97 : decode cX11_bent 97 = .ok (.iadd, 1) := by decide +kernel
theorem dX11_bent_98 : decode cX11_bent 98 = .ok (.bipush 60, 2) := by decide +kernel
theorem dX11_bent_100 : decode cX11_bent 100 = .ok (.irem, 1) := by decide +kernel
theorem dX11_bent_101 : decode cX11_bent 101 = .ok (.istore 8, 2) := by decide +kernel
theorem dX11_bent_103 : decode cX11_bent 103 = .ok (.iload 6, 2) := by decide +kernel
theorem dX11_bent_105 : decode cX11_bent 105 = .ok (.iload 5, 2) := by decide +kernel
theorem dX11_bent_107 : decode cX11_bent 107 = .ok (.bipush 60, 2) := by decide +kernel
theorem dX11_bent_109 : decode cX11_bent 109 = .ok (.irem, 1) := by decide +kernel
theorem dX11_bent_110 : decode cX11_bent 110 = .ok (.iload 5, 2) := by decide +kernel
theorem dX11_bent_112 : decode cX11_bent 112 = .ok (.bipush 60, 2) := by decide +kernel
theorem dX11_bent_114 : decode cX11_bent 114 = .ok (.idiv, 1) := by decide +kernel
theorem dX11_bent_115 : decode cX11_bent 115 = .ok (.iload 7, 2) := by decide +kernel
theorem dX11_bent_117 : decode cX11_bent 117 = .ok (.imul, 1) := by decide +kernel
theorem dX11_bent_118 : decode cX11_bent 118 = .ok (.iadd, 1) := by decide +kernel
theorem dX11_bent_119 : decode cX11_bent 119 = .ok (.bipush 60, 2) := by decide +kernel
theorem dX11_bent_121 : decode cX11_bent 121 = .ok (.irem, 1) := by decide +kernel
theorem dX11_bent_122 : decode cX11_bent 122 = .ok (.iload 8, 2) := by decide +kernel
theorem dX11_bent_124 : decode cX11_bent 124 = .ok (.invokestatic 159, 3) := by decide +kernel
theorem dX11_bent_127 : decode cX11_bent 127 = .ok (.invokestatic 67, 3) := by decide +kernel
theorem dX11_bent_130 : decode cX11_bent 130 = .ok (.iadd, 1) := by decide +kernel
theorem dX11_bent_131 : decode cX11_bent 131 = .ok (.istore 6, 2) := by decide +kernel
theorem dX11_bent_133 : decode cX11_bent 133 = .ok (.iinc 7 1, 3) := by decide +kernel
theorem dX11_bent_136 : decode cX11_bent 136 = .ok (.goto (-67), 3) := by decide +kernel
theorem dX11_bent_139 : decode cX11_bent 139 = .ok (.iload 6, 2) := by decide +kernel
theorem dX11_bent_141 : decode cX11_bent 141 = .ok (.iload 4, 2) := by decide +kernel
theorem dX11_bent_143 : decode cX11_bent 143 = .ok (.if_icmp .ge 8, 3) := by decide +kernel
theorem dX11_bent_146 : decode cX11_bent 146 = .ok (.iload 5, 2) := by decide +kernel
theorem dX11_bent_148 : decode cX11_bent 148 = .ok (.goto 4, 3) := by decide +kernel
theorem dX11_bent_151 : decode cX11_bent 151 = .ok (.iload_n 3, 1) := by decide +kernel
theorem dX11_bent_152 : decode cX11_bent 152 = .ok (.istore_n 3, 1) := by decide +kernel
theorem dX11_bent_153 : decode cX11_bent 153 = .ok (.iload 6, 2) := by decide +kernel
theorem dX11_bent_155 : decode cX11_bent 155 = .ok (.iload 4, 2) := by decide +kernel
theorem dX11_bent_157 : decode cX11_bent 157 = .ok (.if_icmp .ge 8, 3) := by decide +kernel
theorem dX11_bent_160 : decode cX11_bent 160 = .ok (.iload 6, 2) := by decide +kernel
theorem dX11_bent_162 : decode cX11_bent 162 = .ok (.goto 5, 3) := by decide +kernel
theorem dX11_bent_165 : decode cX11_bent 165 = .ok (.iload 4, 2) := by decide +kernel
theorem dX11_bent_167 : decode cX11_bent 167 = .ok (.istore 4, 2) := by decide +kernel
theorem dX11_bent_169 : decode cX11_bent 169 = .ok (.iinc 5 1, 3) := by decide +kernel
theorem dX11_bent_172 : decode cX11_bent 172 = .ok (.goto (-117), 3) := by decide +kernel
theorem dX11_bent_175 : decode cX11_bent 175 = .ok (.iload_n 2, 1) := by decide +kernel
theorem dX11_bent_176 : decode cX11_bent 176 = .ok (.ifCond .ne 10, 3) := by decide +kernel
theorem dX11_bent_179 : decode cX11_bent 179 = .ok (.iload_n 3, 1) := by decide +kernel
theorem dX11_bent_180 : decode cX11_bent 180 = .ok (.bipush 60, 2) := by decide +kernel
theorem dX11_bent_182 : decode cX11_bent 182 = .ok (.idiv, 1) := by decide +kernel
theorem dX11_bent_183 : decode cX11_bent 183 = .ok (.goto 17, 3) := by decide +kernel
theorem dX11_bent_186 : decode cX11_bent 186 = .ok (.iload_n 2, 1) := by decide +kernel
theorem dX11_bent_187 : decode cX11_bent 187 = .ok (.iconst 1, 1) := by decide +kernel
theorem dX11_bent_188 : decode cX11_bent 188 = .ok (.if_icmp .ne 10, 3) := by decide +kernel
theorem dX11_bent_191 : decode cX11_bent 191 = .ok (.iload_n 3, 1) := by decide +kernel
theorem dX11_bent_192 : decode cX11_bent 192 = .ok (.bipush 60, 2) := by decide +kernel
theorem dX11_bent_194 : decode cX11_bent 194 = .ok (.irem, 1) := by decide +kernel
theorem dX11_bent_195 : decode cX11_bent 195 = .ok (.goto 5, 3) := by decide +kernel
theorem dX11_bent_198 : decode cX11_bent 198 = .ok (.iload 4, 2) := by decide +kernel
theorem dX11_bent_200 : decode cX11_bent 200 = .ok (.ireturn, 1) := by decide +kernel
theorem dX11_meets_0 : decode cX11_meets 0 = .ok (.aload_n 0, 1) := by decide +kernel
theorem dX11_meets_1 : decode cX11_meets 1 = .ok (.iload_n 1, 1) := by decide +kernel
theorem dX11_meets_2 : decode cX11_meets 2 = .ok (.putfield 209, 3) := by decide +kernel
theorem dX11_meets_5 : decode cX11_meets 5 = .ok (.bipush (-10), 2) := by decide +kernel
theorem dX11_meets_7 : decode cX11_meets 7 = .ok (.iload_n 1, 1) := by decide +kernel
theorem dX11_meets_8 : decode cX11_meets 8 = .ok (.isub, 1) := by decide +kernel
theorem dX11_meets_9 : decode cX11_meets 9 = .ok (.ireturn, 1) := by decide +kernel
theorem dX11_isSheet_0 : decode cX11_isSheet 0 = .ok (.iload_n 0, 1) := by decide +kernel
theorem dX11_isSheet_1 : decode cX11_isSheet 1 = .ok (.iconst 0, 1) := by decide +kernel
theorem dX11_isSheet_2 : decode cX11_isSheet 2 = .ok (.iconst 3, 1) := by decide +kernel
theorem dX11_isSheet_3 : decode cX11_isSheet 3 = .ok (.invokestatic 75, 3) := by decide +kernel
theorem dX11_isSheet_6 : decode cX11_isSheet 6 = .ok (.ireturn, 1) := by decide +kernel
theorem dX11_sheet_0 : decode cX11_sheet 0 = .ok (.iload_n 1, 1) := by decide +kernel
theorem dX11_sheet_1 : decode cX11_sheet 1 = .ok (.invokestatic 135, 3) := by decide +kernel
theorem dX11_sheet_4 : decode cX11_sheet 4 = .ok (.ifCond .eq 18, 3) := by decide +kernel
theorem dX11_sheet_7 : decode cX11_sheet 7 = .ok (.iload_n 2, 1) := by decide +kernel
theorem dX11_sheet_8 : decode cX11_sheet 8 = .ok (.iconst 0, 1) := by decide +kernel
theorem dX11_sheet_9 : decode cX11_sheet 9 = .ok (.iconst 2, 1) := by decide +kernel
theorem dX11_sheet_10 : decode cX11_sheet 10 = .ok (.invokestatic 75, 3) := by decide +kernel
theorem dX11_sheet_13 : decode cX11_sheet 13 = .ok (.ifCond .eq 9, 3) := by decide +kernel
theorem dX11_sheet_16 : decode cX11_sheet 16 = .ok (.iload_n 3, 1) := by decide +kernel
theorem dX11_sheet_17 : decode cX11_sheet 17 = .ok (.bipush 60, 2) := by decide +kernel
theorem dX11_sheet_19 : decode cX11_sheet 19 = .ok (.if_icmp .le 6, 3) := by decide +kernel
theorem dX11_sheet_22 : decode cX11_sheet 22 = .ok (.bipush (-2), 2) := by decide +kernel
theorem dX11_sheet_24 : decode cX11_sheet 24 = .ok (.ireturn, 1) := by decide +kernel
theorem dX11_sheet_25 : decode cX11_sheet 25 = .ok (.iload_n 3, 1) := by decide +kernel
theorem dX11_sheet_26 : decode cX11_sheet 26 = .ok (.ifCond .ge 9, 3) := by decide +kernel
theorem dX11_sheet_29 : decode cX11_sheet 29 = .ok (.aload_n 0, 1) := by decide +kernel
theorem dX11_sheet_30 : decode cX11_sheet 30 = .ok (.iconst 5, 1) := by decide +kernel
theorem dX11_sheet_31 : decode cX11_sheet 31 = .ok (.invokevirtual 138, 3) := by decide +kernel
theorem dX11_sheet_34 : decode cX11_sheet 34 = .ok (.ireturn, 1) := by decide +kernel
theorem dX11_sheet_35 : decode cX11_sheet 35 = .ok (.aload_n 0, 1) := by decide +kernel
theorem dX11_sheet_36 : decode cX11_sheet 36 = .ok (.getfield 49, 3) := by decide +kernel
theorem dX11_sheet_39 : decode cX11_sheet 39 = .ok (.iload_n 1, 1) := by decide +kernel
theorem dX11_sheet_40 : decode cX11_sheet 40 = .ok (.iconst 1, 1) := by decide +kernel
theorem dX11_sheet_41 : decode cX11_sheet 41 = .ok (.bastore, 1) := by decide +kernel
theorem dX11_sheet_42 : decode cX11_sheet 42 = .ok (.aload_n 0, 1) := by decide +kernel
theorem dX11_sheet_43 : decode cX11_sheet 43 = .ok (.getfield 53, 3) := by decide +kernel
theorem dX11_sheet_46 : decode cX11_sheet 46 = .ok (.iload_n 1, 1) := by decide +kernel
theorem dX11_sheet_47 : decode cX11_sheet 47 = .ok (.iload_n 2, 1) := by decide +kernel
theorem dX11_sheet_48 : decode cX11_sheet 48 = .ok (.iastore, 1) := by decide +kernel
theorem dX11_sheet_49 : decode cX11_sheet 49 = .ok (.aload_n 0, 1) := by decide +kernel
theorem dX11_sheet_50 : decode cX11_sheet 50 = .ok (.getfield 56, 3) := by decide +kernel
theorem dX11_sheet_53 : decode cX11_sheet 53 = .ok (.iload_n 1, 1) := by decide +kernel
theorem dX11_sheet_54 : decode cX11_sheet 54 = .ok (.iload_n 3, 1) := by decide +kernel
theorem dX11_sheet_55 : decode cX11_sheet 55 = .ok (.iastore, 1) := by decide +kernel
theorem dX11_sheet_56 : decode cX11_sheet 56 = .ok (.iconst 0, 1) := by decide +kernel
theorem dX11_sheet_57 : decode cX11_sheet 57 = .ok (.istore 4, 2) := by decide +kernel
theorem dX11_sheet_59 : decode cX11_sheet 59 = .ok (.iload 4, 2) := by decide +kernel
theorem dX11_sheet_61 : decode cX11_sheet 61 = .ok (.bipush 60, 2) := by decide +kernel
theorem dX11_sheet_63 : decode cX11_sheet 63 = .ok (.if_icmp .ge 22, 3) := by decide +kernel
theorem dX11_sheet_66 : decode cX11_sheet 66 = .ok (.aload_n 0, 1) := by decide +kernel
theorem dX11_sheet_67 : decode cX11_sheet 67 = .ok (.getfield 59, 3) := by decide +kernel
theorem dX11_sheet_70 : decode cX11_sheet 70 = .ok (.bipush 60, 2) := by decide +kernel
theorem dX11_sheet_72 : decode cX11_sheet 72 = .ok (.iload_n 1, 1) := by decide +kernel
theorem dX11_sheet_73 : decode cX11_sheet 73 = .ok (.imul, 1) := by decide +kernel
theorem dX11_sheet_74 : decode cX11_sheet 74 = .ok (.iload 4, 2) := by decide +kernel
theorem dX11_sheet_76 : decode cX11_sheet 76 = .ok (.iadd, 1) := by decide +kernel
theorem dX11_sheet_77 : decode cX11_sheet 77 = .ok (.iconst 0, 1) := by decide +kernel
theorem dX11_sheet_78 : decode cX11_sheet 78 = .ok (.iastore, 1) := by decide +kernel
theorem dX11_sheet_79 : decode cX11_sheet 79 = .ok (.iinc 4 1, 3) := by decide +kernel
theorem dX11_sheet_82 : decode cX11_sheet 82 = .ok (.goto (-23), 3) := by decide +kernel
theorem dX11_sheet_85 : decode cX11_sheet 85 = .ok (.iload_n 3, 1) := by decide +kernel
theorem dX11_sheet_86 : decode cX11_sheet 86 = .ok (.ireturn, 1) := by decide +kernel
theorem dX11_lose_0 : decode cX11_lose 0 = .ok (.iload_n 1, 1) := by decide +kernel
theorem dX11_lose_1 : decode cX11_lose 1 = .ok (.invokestatic 135, 3) := by decide +kernel
theorem dX11_lose_4 : decode cX11_lose 4 = .ok (.ifCond .ne 6, 3) := by decide +kernel
theorem dX11_lose_7 : decode cX11_lose 7 = .ok (.bipush (-2), 2) := by decide +kernel
theorem dX11_lose_9 : decode cX11_lose 9 = .ok (.ireturn, 1) := by decide +kernel
theorem dX11_lose_10 : decode cX11_lose 10 = .ok (.aload_n 0, 1) := by decide +kernel
theorem dX11_lose_11 : decode cX11_lose 11 = .ok (.getfield 49, 3) := by decide +kernel
theorem dX11_lose_14 : decode cX11_lose 14 = .ok (.iload_n 1, 1) := by decide +kernel
theorem dX11_lose_15 : decode cX11_lose 15 = .ok (.baload, 1) := by decide +kernel
theorem dX11_lose_16 : decode cX11_lose 16 = .ok (.ifCond .ne 9, 3) := by decide +kernel
theorem dX11_lose_19 : decode cX11_lose 19 = .ok (.aload_n 0, 1) := by decide +kernel
theorem dX11_lose_20 : decode cX11_lose 20 = .ok (.iconst 1, 1) := by decide +kernel
theorem dX11_lose_21 : decode cX11_lose 21 = .ok (.invokevirtual 138, 3) := by decide +kernel
theorem dX11_lose_24 : decode cX11_lose 24 = .ok (.ireturn, 1) := by decide +kernel
theorem dX11_lose_25 : decode cX11_lose 25 = .ok (.aload_n 0, 1) := by decide +kernel
theorem dX11_lose_26 : decode cX11_lose 26 = .ok (.getfield 49, 3) := by decide +kernel
theorem dX11_lose_29 : decode cX11_lose 29 = .ok (.iload_n 1, 1) := by decide +kernel
theorem dX11_lose_30 : decode cX11_lose 30 = .ok (.iconst 0, 1) := by decide +kernel
theorem dX11_lose_31 : decode cX11_lose 31 = .ok (.bastore, 1) := by decide +kernel
theorem dX11_lose_32 : decode cX11_lose 32 = .ok (.aload_n 0, 1) := by decide +kernel
theorem dX11_lose_33 : decode cX11_lose 33 = .ok (.getfield 56, 3) := by decide +kernel
theorem dX11_lose_36 : decode cX11_lose 36 = .ok (.iload_n 1, 1) := by decide +kernel
theorem dX11_lose_37 : decode cX11_lose 37 = .ok (.iaload, 1) := by decide +kernel
theorem dX11_lose_38 : decode cX11_lose 38 = .ok (.ireturn, 1) := by decide +kernel
theorem dX11_lacks_0 : decode cX11_lacks 0 = .ok (.aload_n 0, 1) := by decide +kernel
theorem dX11_lacks_1 : decode cX11_lacks 1 = .ok (.getfield 49, 3) := by decide +kernel
theorem dX11_lacks_4 : decode cX11_lacks 4 = .ok (.iload_n 1, 1) := by decide +kernel
theorem dX11_lacks_5 : decode cX11_lacks 5 = .ok (.baload, 1) := by decide +kernel
theorem dX11_lacks_6 : decode cX11_lacks 6 = .ok (.ifCond .ne 7, 3) := by decide +kernel
theorem dX11_lacks_9 : decode cX11_lacks 9 = .ok (.iconst 1, 1) := by decide +kernel
theorem dX11_lacks_10 : decode cX11_lacks 10 = .ok (.goto 38, 3) := by decide +kernel
theorem dX11_lacks_13 : decode cX11_lacks 13 = .ok (.aload_n 0, 1) := by decide +kernel
theorem dX11_lacks_14 : decode cX11_lacks 14 = .ok (.getfield 53, 3) := by decide +kernel
theorem dX11_lacks_17 : decode cX11_lacks 17 = .ok (.iload_n 1, 1) := by decide +kernel
theorem dX11_lacks_18 : decode cX11_lacks 18 = .ok (.iaload, 1) := by decide +kernel
theorem dX11_lacks_19 : decode cX11_lacks 19 = .ok (.iload_n 2, 1) := by decide +kernel
theorem dX11_lacks_20 : decode cX11_lacks 20 = .ok (.if_icmp .eq 7, 3) := by decide +kernel
theorem dX11_lacks_23 : decode cX11_lacks 23 = .ok (.iconst 3, 1) := by decide +kernel
theorem dX11_lacks_24 : decode cX11_lacks 24 = .ok (.goto 24, 3) := by decide +kernel
theorem dX11_lacks_27 : decode cX11_lacks 27 = .ok (.iload_n 3, 1) := by decide +kernel
theorem dX11_lacks_28 : decode cX11_lacks 28 = .ok (.iconst 0, 1) := by decide +kernel
theorem dX11_lacks_29 : decode cX11_lacks 29 = .ok (.aload_n 0, 1) := by decide +kernel
theorem dX11_lacks_30 : decode cX11_lacks 30 = .ok (.getfield 56, 3) := by decide +kernel
theorem dX11_lacks_33 : decode cX11_lacks 33 = .ok (.iload_n 1, 1) := by decide +kernel
theorem dX11_lacks_34 : decode cX11_lacks 34 = .ok (.iaload, 1) := by decide +kernel
theorem dX11_lacks_35 : decode cX11_lacks 35 = .ok (.iconst 1, 1) := by decide +kernel
theorem dX11_lacks_36 : decode cX11_lacks 36 = .ok (.isub, 1) := by decide +kernel
theorem dX11_lacks_37 : decode cX11_lacks 37 = .ok (.invokestatic 75, 3) := by decide +kernel
theorem dX11_lacks_40 : decode cX11_lacks 40 = .ok (.ifCond .eq 7, 3) := by decide +kernel
theorem dX11_lacks_43 : decode cX11_lacks 43 = .ok (.iconst 0, 1) := by decide +kernel
theorem dX11_lacks_44 : decode cX11_lacks 44 = .ok (.goto 4, 3) := by decide +kernel
theorem dX11_lacks_47 : decode cX11_lacks 47 = .ok (.iconst 2, 1) := by decide +kernel
theorem dX11_lacks_48 : decode cX11_lacks 48 = .ok (.ireturn, 1) := by decide +kernel
theorem dX11_keep_0 : decode cX11_keep 0 = .ok (.aload_n 0, 1) := by decide +kernel
theorem dX11_keep_1 : decode cX11_keep 1 = .ok (.getfield 59, 3) := by decide +kernel
theorem dX11_keep_4 : decode cX11_keep 4 = .ok (.bipush 60, 2) := by decide +kernel
theorem dX11_keep_6 : decode cX11_keep 6 = .ok (.iload_n 1, 1) := by decide +kernel
theorem dX11_keep_7 : decode cX11_keep 7 = .ok (.imul, 1) := by decide +kernel
theorem dX11_keep_8 : decode cX11_keep 8 = .ok (.iload_n 2, 1) := by decide +kernel
theorem dX11_keep_9 : decode cX11_keep 9 = .ok (.iadd, 1) := by decide +kernel
theorem dX11_keep_10 : decode cX11_keep 10 = .ok (.aload_n 0, 1) := by decide +kernel
theorem dX11_keep_11 : decode cX11_keep 11 = .ok (.getfield 53, 3) := by decide +kernel
theorem dX11_keep_14 : decode cX11_keep 14 = .ok (.iload_n 1, 1) := by decide +kernel
theorem dX11_keep_15 : decode cX11_keep 15 = .ok (.iaload, 1) := by decide +kernel
theorem dX11_keep_16 : decode cX11_keep 16 = .ok (.ifCond .ne 8, 3) := by decide +kernel
theorem dX11_keep_19 : decode cX11_keep 19 = .ok (.iload_n 3, 1) := by decide +kernel
theorem dX11_keep_20 : decode cX11_keep 20 = .ok (.i2b, 1) := by decide +kernel
theorem dX11_keep_21 : decode cX11_keep 21 = .ok (.goto 19, 3) := by decide +kernel
theorem dX11_keep_24 : decode cX11_keep 24 = .ok (.aload_n 0, 1) := by decide +kernel
theorem dX11_keep_25 : decode cX11_keep 25 = .ok (.getfield 53, 3) := by decide +kernel
theorem dX11_keep_28 : decode cX11_keep 28 = .ok (.iload_n 1, 1) := by decide +kernel
theorem dX11_keep_29 : decode cX11_keep 29 = .ok (.iaload, 1) := by decide +kernel
theorem dX11_keep_30 : decode cX11_keep 30 = .ok (.iconst 1, 1) := by decide +kernel
theorem dX11_keep_31 : decode cX11_keep 31 = .ok (.if_icmp .ne 8, 3) := by decide +kernel
theorem dX11_keep_34 : decode cX11_keep 34 = .ok (.iload_n 3, 1) := by decide +kernel
theorem dX11_keep_35 : decode cX11_keep 35 = .ok (.i2s, 1) := by decide +kernel
theorem dX11_keep_36 : decode cX11_keep 36 = .ok (.goto 4, 3) := by decide +kernel
theorem dX11_keep_39 : decode cX11_keep 39 = .ok (.iload_n 3, 1) := by decide +kernel
theorem dX11_keep_40 : decode cX11_keep 40 = .ok (.iastore, 1) := by decide +kernel
theorem dX11_keep_41 : decode cX11_keep 41 = .ok (.return_, 1) := by decide +kernel
theorem dX11_put_0 : decode cX11_put 0 = .ok (.iload_n 1, 1) := by decide +kernel
theorem dX11_put_1 : decode cX11_put 1 = .ok (.invokestatic 135, 3) := by decide +kernel
theorem dX11_put_4 : decode cX11_put 4 = .ok (.ifCond .eq 12, 3) := by decide +kernel
theorem dX11_put_7 : decode cX11_put 7 = .ok (.iload_n 2, 1) := by decide +kernel
theorem dX11_put_8 : decode cX11_put 8 = .ok (.iconst 0, 1) := by decide +kernel
theorem dX11_put_9 : decode cX11_put 9 = .ok (.iconst 2, 1) := by decide +kernel
theorem dX11_put_10 : decode cX11_put 10 = .ok (.invokestatic 75, 3) := by decide +kernel
theorem dX11_put_13 : decode cX11_put 13 = .ok (.ifCond .ne 6, 3) := by decide +kernel
theorem dX11_put_16 : decode cX11_put 16 = .ok (.bipush (-2), 2) := by decide +kernel
theorem dX11_put_18 : decode cX11_put 18 = .ok (.ireturn, 1) := by decide +kernel
theorem dX11_put_19 : decode cX11_put 19 = .ok (.aload_n 0, 1) := by decide +kernel
theorem dX11_put_20 : decode cX11_put 20 = .ok (.iload_n 1, 1) := by decide +kernel
theorem dX11_put_21 : decode cX11_put 21 = .ok (.iload_n 2, 1) := by decide +kernel
theorem dX11_put_22 : decode cX11_put 22 = .ok (.iload_n 3, 1) := by decide +kernel
theorem dX11_put_23 : decode cX11_put 23 = .ok (.invokevirtual 212, 3) := by decide +kernel
theorem dX11_put_26 : decode cX11_put 26 = .ok (.istore 5, 2) := by decide +kernel
theorem dX11_put_28 : decode cX11_put 28 = .ok (.iload 5, 2) := by decide +kernel
theorem dX11_put_30 : decode cX11_put 30 = .ok (.ifCond .le 10, 3) := by decide +kernel
theorem dX11_put_33 : decode cX11_put 33 = .ok (.aload_n 0, 1) := by decide +kernel
theorem dX11_put_34 : decode cX11_put 34 = .ok (.iload 5, 2) := by decide +kernel
theorem dX11_put_36 : decode cX11_put 36 = .ok (.invokevirtual 138, 3) := by decide +kernel
theorem dX11_put_39 : decode cX11_put 39 = .ok (.ireturn, 1) := by decide +kernel
theorem dX11_put_40 : decode cX11_put 40 = .ok (.aload_n 0, 1) := by decide +kernel
theorem dX11_put_41 : decode cX11_put 41 = .ok (.iload_n 1, 1) := by decide +kernel
theorem dX11_put_42 : decode cX11_put 42 = .ok (.iload_n 3, 1) := by decide +kernel
theorem dX11_put_43 : decode cX11_put 43 = .ok (.iload 4, 2) := by decide +kernel
theorem dX11_put_45 : decode cX11_put 45 = .ok (.invokevirtual 215, 3) := by decide +kernel
theorem dX11_put_48 : decode cX11_put 48 = .ok (.iconst 1, 1) := by decide +kernel
theorem dX11_put_49 : decode cX11_put 49 = .ok (.ireturn, 1) := by decide +kernel
theorem dX11_get_0 : decode cX11_get 0 = .ok (.iload_n 1, 1) := by decide +kernel
theorem dX11_get_1 : decode cX11_get 1 = .ok (.invokestatic 135, 3) := by decide +kernel
theorem dX11_get_4 : decode cX11_get 4 = .ok (.ifCond .eq 12, 3) := by decide +kernel
theorem dX11_get_7 : decode cX11_get 7 = .ok (.iload_n 2, 1) := by decide +kernel
theorem dX11_get_8 : decode cX11_get 8 = .ok (.iconst 0, 1) := by decide +kernel
theorem dX11_get_9 : decode cX11_get 9 = .ok (.iconst 2, 1) := by decide +kernel
theorem dX11_get_10 : decode cX11_get 10 = .ok (.invokestatic 75, 3) := by decide +kernel
theorem dX11_get_13 : decode cX11_get 13 = .ok (.ifCond .ne 6, 3) := by decide +kernel
theorem dX11_get_16 : decode cX11_get 16 = .ok (.ldc 219, 2) := by decide +kernel
theorem dX11_get_18 : decode cX11_get 18 = .ok (.ireturn, 1) := by decide +kernel
theorem dX11_get_19 : decode cX11_get 19 = .ok (.aload_n 0, 1) := by decide +kernel
theorem dX11_get_20 : decode cX11_get 20 = .ok (.iload_n 1, 1) := by decide +kernel
theorem dX11_get_21 : decode cX11_get 21 = .ok (.iload_n 2, 1) := by decide +kernel
theorem dX11_get_22 : decode cX11_get 22 = .ok (.iload_n 3, 1) := by decide +kernel
theorem dX11_get_23 : decode cX11_get 23 = .ok (.invokevirtual 212, 3) := by decide +kernel
theorem dX11_get_26 : decode cX11_get 26 = .ok (.istore 4, 2) := by decide +kernel
theorem dX11_get_28 : decode cX11_get 28 = .ok (.iload 4, 2) := by decide +kernel
theorem dX11_get_30 : decode cX11_get 30 = .ok (.ifCond .le 12, 3) := by decide +kernel
theorem dX11_get_33 : decode cX11_get 33 = .ok (.aload_n 0, 1) := by decide +kernel
theorem dX11_get_34 : decode cX11_get 34 = .ok (.iload 4, 2) := by decide +kernel
theorem dX11_get_36 : decode cX11_get 36 = .ok (.putfield 209, 3) := by decide +kernel
theorem dX11_get_39 : decode cX11_get 39 = .ok (.ldc 219, 2) := by decide +kernel
theorem dX11_get_41 : decode cX11_get 41 = .ok (.ireturn, 1) := by decide +kernel
theorem dX11_get_42 : decode cX11_get 42 = .ok (.aload_n 0, 1) := by decide +kernel
theorem dX11_get_43 : decode cX11_get 43 = .ok (.getfield 59, 3) := by decide +kernel
theorem dX11_get_46 : decode cX11_get 46 = .ok (.bipush 60, 2) := by decide +kernel
theorem dX11_get_48 : decode cX11_get 48 = .ok (.iload_n 1, 1) := by decide +kernel
theorem dX11_get_49 : decode cX11_get 49 = .ok (.imul, 1) := by decide +kernel
theorem dX11_get_50 : decode cX11_get 50 = .ok (.iload_n 3, 1) := by decide +kernel
theorem dX11_get_51 : decode cX11_get 51 = .ok (.iadd, 1) := by decide +kernel
theorem dX11_get_52 : decode cX11_get 52 = .ok (.iaload, 1) := by decide +kernel
theorem dX11_get_53 : decode cX11_get 53 = .ok (.ireturn, 1) := by decide +kernel
theorem dX11_copy_0 : decode cX11_copy 0 = .ok (.iload_n 1, 1) := by decide +kernel
theorem dX11_copy_1 : decode cX11_copy 1 = .ok (.invokestatic 135, 3) := by decide +kernel
theorem dX11_copy_4 : decode cX11_copy 4 = .ok (.ifCond .eq 10, 3) := by decide +kernel
theorem dX11_copy_7 : decode cX11_copy 7 = .ok (.iload_n 3, 1) := by decide +kernel
theorem dX11_copy_8 : decode cX11_copy 8 = .ok (.invokestatic 135, 3) := by decide +kernel
theorem dX11_copy_11 : decode cX11_copy 11 = .ok (.ifCond .ne 6, 3) := by decide +kernel
theorem dX11_copy_14 : decode cX11_copy 14 = .ok (.bipush (-2), 2) := by decide +kernel
theorem dX11_copy_16 : decode cX11_copy 16 = .ok (.ireturn, 1) := by decide +kernel
theorem dX11_copy_17 : decode cX11_copy 17 = .ok (.aload_n 0, 1) := by decide +kernel
theorem dX11_copy_18 : decode cX11_copy 18 = .ok (.getfield 49, 3) := by decide +kernel
theorem dX11_copy_21 : decode cX11_copy 21 = .ok (.iload_n 1, 1) := by decide +kernel
theorem dX11_copy_22 : decode cX11_copy 22 = .ok (.baload, 1) := by decide +kernel
theorem dX11_copy_23 : decode cX11_copy 23 = .ok (.ifCond .eq 12, 3) := by decide +kernel
theorem dX11_copy_26 : decode cX11_copy 26 = .ok (.aload_n 0, 1) := by decide +kernel
theorem dX11_copy_27 : decode cX11_copy 27 = .ok (.getfield 49, 3) := by decide +kernel
theorem dX11_copy_30 : decode cX11_copy 30 = .ok (.iload_n 3, 1) := by decide +kernel
theorem dX11_copy_31 : decode cX11_copy 31 = .ok (.baload, 1) := by decide +kernel
theorem dX11_copy_32 : decode cX11_copy 32 = .ok (.ifCond .ne 9, 3) := by decide +kernel
theorem dX11_copy_35 : decode cX11_copy 35 = .ok (.aload_n 0, 1) := by decide +kernel
theorem dX11_copy_36 : decode cX11_copy 36 = .ok (.iconst 1, 1) := by decide +kernel
theorem dX11_copy_37 : decode cX11_copy 37 = .ok (.invokevirtual 138, 3) := by decide +kernel
theorem dX11_copy_40 : decode cX11_copy 40 = .ok (.ireturn, 1) := by decide +kernel
theorem dX11_copy_41 : decode cX11_copy 41 = .ok (.aload_n 0, 1) := by decide +kernel
theorem dX11_copy_42 : decode cX11_copy 42 = .ok (.getfield 53, 3) := by decide +kernel
theorem dX11_copy_45 : decode cX11_copy 45 = .ok (.iload_n 1, 1) := by decide +kernel
theorem dX11_copy_46 : decode cX11_copy 46 = .ok (.iaload, 1) := by decide +kernel
theorem dX11_copy_47 : decode cX11_copy 47 = .ok (.aload_n 0, 1) := by decide +kernel
theorem dX11_copy_48 : decode cX11_copy 48 = .ok (.getfield 53, 3) := by decide +kernel
theorem dX11_copy_51 : decode cX11_copy 51 = .ok (.iload_n 3, 1) := by decide +kernel
theorem dX11_copy_52 : decode cX11_copy 52 = .ok (.iaload, 1) := by decide +kernel
theorem dX11_copy_53 : decode cX11_copy 53 = .ok (.if_icmp .eq 9, 3) := by decide +kernel
theorem dX11_copy_56 : decode cX11_copy 56 = .ok (.aload_n 0, 1) := by decide +kernel
theorem dX11_copy_57 : decode cX11_copy 57 = .ok (.iconst 4, 1) := by decide +kernel
theorem dX11_copy_58 : decode cX11_copy 58 = .ok (.invokevirtual 138, 3) := by decide +kernel
theorem dX11_copy_61 : decode cX11_copy 61 = .ok (.ireturn, 1) := by decide +kernel
theorem dX11_copy_62 : decode cX11_copy 62 = .ok (.iload_n 2, 1) := by decide +kernel
theorem dX11_copy_63 : decode cX11_copy 63 = .ok (.ifCond .lt 48, 3) := by decide +kernel
theorem dX11_copy_66 : decode cX11_copy 66 = .ok (.iload 4, 2) := by decide +kernel
theorem dX11_copy_68 : decode cX11_copy 68 = .ok (.ifCond .lt 43, 3) := by decide +kernel
theorem dX11_copy_71 : decode cX11_copy 71 = .ok (.iload 5, 2) := by decide +kernel
theorem dX11_copy_73 : decode cX11_copy 73 = .ok (.ifCond .lt 38, 3) := by decide +kernel
theorem dX11_copy_76 : decode cX11_copy 76 = .ok (.iload_n 2, 1) := by decide +kernel
theorem dX11_copy_77 : decode cX11_copy 77 = .ok (.i2l, 1) := by decide +kernel
theorem dX11_copy_78 : decode cX11_copy 78 = .ok (.iload 5, 2) := by decide +kernel
theorem dX11_copy_80 : decode cX11_copy 80 = .ok (.i2l, 1) := by decide +kernel
theorem dX11_copy_81 : decode cX11_copy 81 = .ok (.ladd, 1) := by decide +kernel
theorem dX11_copy_82 : decode cX11_copy 82 = .ok (.aload_n 0, 1) := by decide +kernel
theorem dX11_copy_83 : decode cX11_copy 83 = .ok (.getfield 56, 3) := by decide +kernel
theorem dX11_copy_86 : decode cX11_copy 86 = .ok (.iload_n 1, 1) := by decide +kernel
theorem dX11_copy_87 : decode cX11_copy 87 = .ok (.iaload, 1) := by decide +kernel
theorem dX11_copy_88 : decode cX11_copy 88 = .ok (.i2l, 1) := by decide +kernel
theorem dX11_copy_89 : decode cX11_copy 89 = .ok (.lcmp, 1) := by decide +kernel
theorem dX11_copy_90 : decode cX11_copy 90 = .ok (.ifCond .gt 21, 3) := by decide +kernel
theorem dX11_copy_93 : decode cX11_copy 93 = .ok (.iload 4, 2) := by decide +kernel
theorem dX11_copy_95 : decode cX11_copy 95 = .ok (.i2l, 1) := by decide +kernel
theorem dX11_copy_96 : decode cX11_copy 96 = .ok (.iload 5, 2) := by decide +kernel
theorem dX11_copy_98 : decode cX11_copy 98 = .ok (.i2l, 1) := by decide +kernel
theorem dX11_copy_99 : decode cX11_copy 99 = .ok (.ladd, 1) := by decide +kernel
theorem dX11_copy_100 : decode cX11_copy 100 = .ok (.aload_n 0, 1) := by decide +kernel
theorem dX11_copy_101 : decode cX11_copy 101 = .ok (.getfield 56, 3) := by decide +kernel
theorem dX11_copy_104 : decode cX11_copy 104 = .ok (.iload_n 3, 1) := by decide +kernel
theorem dX11_copy_105 : decode cX11_copy 105 = .ok (.iaload, 1) := by decide +kernel
theorem dX11_copy_106 : decode cX11_copy 106 = .ok (.i2l, 1) := by decide +kernel
theorem dX11_copy_107 : decode cX11_copy 107 = .ok (.lcmp, 1) := by decide +kernel
theorem dX11_copy_108 : decode cX11_copy 108 = .ok (.ifCond .le 9, 3) := by decide +kernel
theorem dX11_copy_111 : decode cX11_copy 111 = .ok (.aload_n 0, 1) := by decide +kernel
theorem dX11_copy_112 : decode cX11_copy 112 = .ok (.iconst 2, 1) := by decide +kernel
theorem dX11_copy_113 : decode cX11_copy 113 = .ok (.invokevirtual 138, 3) := by decide +kernel
theorem dX11_copy_116 : decode cX11_copy 116 = .ok (.ireturn, 1) := by decide +kernel
theorem dX11_copy_117 : decode cX11_copy 117 = .ok (.iconst 0, 1) := by decide +kernel
theorem dX11_copy_118 : decode cX11_copy 118 = .ok (.istore 6, 2) := by decide +kernel
theorem dX11_copy_120 : decode cX11_copy 120 = .ok (.iload 6, 2) := by decide +kernel
theorem dX11_copy_122 : decode cX11_copy 122 = .ok (.iload 5, 2) := by decide +kernel
theorem dX11_copy_124 : decode cX11_copy 124 = .ok (.if_icmp .ge 30, 3) := by decide +kernel
theorem dX11_copy_127 : decode cX11_copy 127 = .ok (.aload_n 0, 1) := by decide +kernel
theorem dX11_copy_128 : decode cX11_copy 128 = .ok (.getfield 62, 3) := by decide +kernel
theorem dX11_copy_131 : decode cX11_copy 131 = .ok (.iload 6, 2) := by decide +kernel
theorem dX11_copy_133 : decode cX11_copy 133 = .ok (.aload_n 0, 1) := by decide +kernel
theorem dX11_copy_134 : decode cX11_copy 134 = .ok (.getfield 59, 3) := by decide +kernel
theorem dX11_copy_137 : decode cX11_copy 137 = .ok (.bipush 60, 2) := by decide +kernel
theorem dX11_copy_139 : decode cX11_copy 139 = .ok (.iload_n 1, 1) := by decide +kernel
theorem dX11_copy_140 : decode cX11_copy 140 = .ok (.imul, 1) := by decide +kernel
theorem dX11_copy_141 : decode cX11_copy 141 = .ok (.iload_n 2, 1) := by decide +kernel
theorem dX11_copy_142 : decode cX11_copy 142 = .ok (.iadd, 1) := by decide +kernel
theorem dX11_copy_143 : decode cX11_copy 143 = .ok (.iload 6, 2) := by decide +kernel
theorem dX11_copy_145 : decode cX11_copy 145 = .ok (.iadd, 1) := by decide +kernel
theorem dX11_copy_146 : decode cX11_copy 146 = .ok (.iaload, 1) := by decide +kernel
theorem dX11_copy_147 : decode cX11_copy 147 = .ok (.iastore, 1) := by decide +kernel
theorem dX11_copy_148 : decode cX11_copy 148 = .ok (.iinc 6 1, 3) := by decide +kernel
theorem dX11_copy_151 : decode cX11_copy 151 = .ok (.goto (-31), 3) := by decide +kernel
theorem dX11_copy_154 : decode cX11_copy 154 = .ok (.iconst 0, 1) := by decide +kernel
theorem dX11_copy_155 : decode cX11_copy 155 = .ok (.istore 6, 2) := by decide +kernel
theorem dX11_copy_157 : decode cX11_copy 157 = .ok (.iload 6, 2) := by decide +kernel
theorem dX11_copy_159 : decode cX11_copy 159 = .ok (.iload 5, 2) := by decide +kernel
theorem dX11_copy_161 : decode cX11_copy 161 = .ok (.if_icmp .ge 31, 3) := by decide +kernel
theorem dX11_copy_164 : decode cX11_copy 164 = .ok (.aload_n 0, 1) := by decide +kernel
theorem dX11_copy_165 : decode cX11_copy 165 = .ok (.getfield 59, 3) := by decide +kernel
theorem dX11_copy_168 : decode cX11_copy 168 = .ok (.bipush 60, 2) := by decide +kernel
theorem dX11_copy_170 : decode cX11_copy 170 = .ok (.iload_n 3, 1) := by decide +kernel
theorem dX11_copy_171 : decode cX11_copy 171 = .ok (.imul, 1) := by decide +kernel
theorem dX11_copy_172 : decode cX11_copy 172 = .ok (.iload 4, 2) := by decide +kernel
theorem dX11_copy_174 : decode cX11_copy 174 = .ok (.iadd, 1) := by decide +kernel
theorem dX11_copy_175 : decode cX11_copy 175 = .ok (.iload 6, 2) := by decide +kernel
theorem dX11_copy_177 : decode cX11_copy 177 = .ok (.iadd, 1) := by decide +kernel
theorem dX11_copy_178 : decode cX11_copy 178 = .ok (.aload_n 0, 1) := by decide +kernel
theorem dX11_copy_179 : decode cX11_copy 179 = .ok (.getfield 62, 3) := by decide +kernel
theorem dX11_copy_182 : decode cX11_copy 182 = .ok (.iload 6, 2) := by decide +kernel
theorem dX11_copy_184 : decode cX11_copy 184 = .ok (.iaload, 1) := by decide +kernel
theorem dX11_copy_185 : decode cX11_copy 185 = .ok (.iastore, 1) := by decide +kernel
theorem dX11_copy_186 : decode cX11_copy 186 = .ok (.iinc 6 1, 3) := by decide +kernel
theorem dX11_copy_189 : decode cX11_copy 189 = .ok (.goto (-32), 3) := by decide +kernel
theorem dX11_copy_192 : decode cX11_copy 192 = .ok (.iconst 1, 1) := by decide +kernel
theorem dX11_copy_193 : decode cX11_copy 193 = .ok (.ireturn, 1) := by decide +kernel
theorem dX11_write_0 : decode cX11_write 0 = .ok (.iload_n 1, 1) := by decide +kernel
theorem dX11_write_1 : decode cX11_write 1 = .ok (.invokestatic 79, 3) := by decide +kernel
theorem dX11_write_4 : decode cX11_write 4 = .ok (.ifCond .eq 17, 3) := by decide +kernel
theorem dX11_write_7 : decode cX11_write 7 = .ok (.iload_n 2, 1) := by decide +kernel
theorem dX11_write_8 : decode cX11_write 8 = .ok (.invokestatic 105, 3) := by decide +kernel
theorem dX11_write_11 : decode cX11_write 11 = .ok (.ifCond .eq 10, 3) := by decide +kernel
theorem dX11_write_14 : decode cX11_write 14 = .ok (.iload_n 3, 1) := by decide +kernel
theorem dX11_write_15 : decode cX11_write 15 = .ok (.invokestatic 135, 3) := by decide +kernel
theorem dX11_write_18 : decode cX11_write 18 = .ok (.ifCond .ne 6, 3) := by decide +kernel
theorem dX11_write_21 : decode cX11_write 21 = .ok (.bipush (-2), 2) := by decide +kernel
theorem dX11_write_23 : decode cX11_write 23 = .ok (.ireturn, 1) := by decide +kernel
theorem dX11_write_24 : decode cX11_write 24 = .ok (.aload_n 0, 1) := by decide +kernel
theorem dX11_write_25 : decode cX11_write 25 = .ok (.getfield 49, 3) := by decide +kernel
theorem dX11_write_28 : decode cX11_write 28 = .ok (.iload_n 3, 1) := by decide +kernel
theorem dX11_write_29 : decode cX11_write 29 = .ok (.baload, 1) := by decide +kernel
theorem dX11_write_30 : decode cX11_write 30 = .ok (.ifCond .ne 9, 3) := by decide +kernel
theorem dX11_write_33 : decode cX11_write 33 = .ok (.aload_n 0, 1) := by decide +kernel
theorem dX11_write_34 : decode cX11_write 34 = .ok (.iconst 1, 1) := by decide +kernel
theorem dX11_write_35 : decode cX11_write 35 = .ok (.invokevirtual 138, 3) := by decide +kernel
theorem dX11_write_38 : decode cX11_write 38 = .ok (.ireturn, 1) := by decide +kernel
theorem dX11_write_39 : decode cX11_write 39 = .ok (.aload_n 0, 1) := by decide +kernel
theorem dX11_write_40 : decode cX11_write 40 = .ok (.iload_n 1, 1) := by decide +kernel
theorem dX11_write_41 : decode cX11_write 41 = .ok (.invokevirtual 89, 3) := by decide +kernel
theorem dX11_write_44 : decode cX11_write 44 = .ok (.ifCond .ne 6, 3) := by decide +kernel
theorem dX11_write_47 : decode cX11_write 47 = .ok (.bipush (-3), 2) := by decide +kernel
theorem dX11_write_49 : decode cX11_write 49 = .ok (.ireturn, 1) := by decide +kernel
theorem dX11_write_50 : decode cX11_write 50 = .ok (.iconst 0, 1) := by decide +kernel
theorem dX11_write_51 : decode cX11_write 51 = .ok (.istore 4, 2) := by decide +kernel
theorem dX11_write_53 : decode cX11_write 53 = .ok (.iload 4, 2) := by decide +kernel
theorem dX11_write_55 : decode cX11_write 55 = .ok (.aload_n 0, 1) := by decide +kernel
theorem dX11_write_56 : decode cX11_write 56 = .ok (.getfield 56, 3) := by decide +kernel
theorem dX11_write_59 : decode cX11_write 59 = .ok (.iload_n 3, 1) := by decide +kernel
theorem dX11_write_60 : decode cX11_write 60 = .ok (.iaload, 1) := by decide +kernel
theorem dX11_write_61 : decode cX11_write 61 = .ok (.if_icmp .ge 24, 3) := by decide +kernel
theorem dX11_write_64 : decode cX11_write 64 = .ok (.aload_n 0, 1) := by decide +kernel
theorem dX11_write_65 : decode cX11_write 65 = .ok (.iload_n 3, 1) := by decide +kernel
theorem dX11_write_66 : decode cX11_write 66 = .ok (.iload 4, 2) := by decide +kernel
theorem dX11_write_68 : decode cX11_write 68 = .ok (.aload_n 0, 1) := by decide +kernel
theorem dX11_write_69 : decode cX11_write 69 = .ok (.iload_n 1, 1) := by decide +kernel
theorem dX11_write_70 : decode cX11_write 70 = .ok (.iload_n 2, 1) := by decide +kernel
theorem dX11_write_71 : decode cX11_write 71 = .ok (.iload 4, 2) := by decide +kernel
theorem dX11_write_73 : decode cX11_write 73 = .ok (.invokevirtual 119, 3) := by decide +kernel
theorem dX11_write_76 : decode cX11_write 76 = .ok (.invokevirtual 215, 3) := by decide +kernel
theorem dX11_write_79 : decode cX11_write 79 = .ok (.iinc 4 1, 3) := by decide +kernel
theorem dX11_write_82 : decode cX11_write 82 = .ok (.goto (-29), 3) := by decide +kernel
theorem dX11_write_85 : decode cX11_write 85 = .ok (.aload_n 0, 1) := by decide +kernel
theorem dX11_write_86 : decode cX11_write 86 = .ok (.getfield 56, 3) := by decide +kernel
theorem dX11_write_89 : decode cX11_write 89 = .ok (.iload_n 3, 1) := by decide +kernel
theorem dX11_write_90 : decode cX11_write 90 = .ok (.iaload, 1) := by decide +kernel
theorem dX11_write_91 : decode cX11_write 91 = .ok (.ireturn, 1) := by decide +kernel
theorem dX11_count_0 : decode cX11_count 0 = .ok (.iload_n 1, 1) := by decide +kernel
theorem dX11_count_1 : decode cX11_count 1 = .ok (.tableswitch 92 0 8 #[51, 51, 57, 57, 66, 66, 75, 80, 87], 51) := by decide +kernel
theorem dX11_count_52 : decode cX11_count 52 = .ok (.aload_n 0, 1) := by decide +kernel
theorem dX11_count_53 : decode cX11_count 53 = .ok (.iload_n 1, 1) := by decide +kernel
theorem dX11_count_54 : decode cX11_count 54 = .ok (.invokevirtual 89, 3) := by decide +kernel
theorem dX11_count_57 : decode cX11_count 57 = .ok (.ireturn, 1) := by decide +kernel
theorem dX11_count_58 : decode cX11_count 58 = .ok (.aload_n 0, 1) := by decide +kernel
theorem dX11_count_59 : decode cX11_count 59 = .ok (.getfield 13, 3) := by decide +kernel
theorem dX11_count_62 : decode cX11_count 62 = .ok (.iload_n 1, 1) := by decide +kernel
theorem dX11_count_63 : decode cX11_count 63 = .ok (.iconst 2, 1) := by decide +kernel
theorem dX11_count_64 : decode cX11_count 64 = .ok (.isub, 1) := by decide +kernel
theorem dX11_count_65 : decode cX11_count 65 = .ok (.iaload, 1) := by decide +kernel
theorem dX11_count_66 : decode cX11_count 66 = .ok (.ireturn, 1) := by decide +kernel
theorem dX11_count_67 : decode cX11_count 67 = .ok (.aload_n 0, 1) := by decide +kernel
theorem dX11_count_68 : decode cX11_count 68 = .ok (.getfield 25, 3) := by decide +kernel
theorem dX11_count_71 : decode cX11_count 71 = .ok (.iload_n 1, 1) := by decide +kernel
theorem dX11_count_72 : decode cX11_count 72 = .ok (.iconst 4, 1) := by decide +kernel
theorem dX11_count_73 : decode cX11_count 73 = .ok (.isub, 1) := by decide +kernel
theorem dX11_count_74 : decode cX11_count 74 = .ok (.iaload, 1) := by decide +kernel
theorem dX11_count_75 : decode cX11_count 75 = .ok (.ireturn, 1) := by decide +kernel
theorem dX11_count_76 : decode cX11_count 76 = .ok (.aload_n 0, 1) := by decide +kernel
theorem dX11_count_77 : decode cX11_count 77 = .ok (.getfield 200, 3) := by decide +kernel
theorem dX11_count_80 : decode cX11_count 80 = .ok (.ireturn, 1) := by decide +kernel
theorem dX11_count_81 : decode cX11_count 81 = .ok (.aload_n 0, 1) := by decide +kernel
theorem dX11_count_82 : decode cX11_count 82 = .ok (.getfield 22, 3) := by decide +kernel
theorem dX11_count_85 : decode cX11_count 85 = .ok (.iconst 0, 1) := by decide +kernel
theorem dX11_count_86 : decode cX11_count 86 = .ok (.iaload, 1) := by decide +kernel
theorem dX11_count_87 : decode cX11_count 87 = .ok (.ireturn, 1) := by decide +kernel
theorem dX11_count_88 : decode cX11_count 88 = .ok (.aload_n 0, 1) := by decide +kernel
theorem dX11_count_89 : decode cX11_count 89 = .ok (.getfield 209, 3) := by decide +kernel
theorem dX11_count_92 : decode cX11_count 92 = .ok (.ireturn, 1) := by decide +kernel
theorem dX11_count_93 : decode cX11_count 93 = .ok (.bipush (-2), 2) := by decide +kernel
theorem dX11_count_95 : decode cX11_count 95 = .ok (.ireturn, 1) := by decide +kernel
theorem dX11_digest_0 : decode cX11_digest 0 = .ok (.ldc2_w 220, 3) := by decide +kernel
theorem dX11_digest_3 : decode cX11_digest 3 = .ok (.lstore_n 1, 1) := by decide +kernel
theorem dX11_digest_4 : decode cX11_digest 4 = .ok (.iconst 0, 1) := by decide +kernel
theorem dX11_digest_5 : decode cX11_digest 5 = .ok (.istore_n 3, 1) := by decide +kernel
theorem dX11_digest_6 : decode cX11_digest 6 = .ok (.iload_n 3, 1) := by decide +kernel
theorem dX11_digest_7 : decode cX11_digest 7 = .ok (.bipush 8, 2) := by decide +kernel
theorem dX11_digest_9 : decode cX11_digest 9 = .ok (.if_icmp .ge 22, 3) := by decide +kernel
theorem dX11_digest_12 : decode cX11_digest 12 = .ok (.ldc2_w 222, 3) := by decide +kernel
theorem dX11_digest_15 : decode cX11_digest 15 = .ok (.lload_n 1, 1) := by decide +kernel
theorem dX11_digest_16 : decode cX11_digest 16 = .ok (.lmul, 1) := by decide +kernel
theorem dX11_digest_17 : decode cX11_digest 17 = .ok (.aload_n 0, 1) := by decide +kernel
theorem dX11_digest_18 : decode cX11_digest 18 = .ok (.iload_n 3, 1) := by decide +kernel
theorem dX11_digest_19 : decode cX11_digest 19 = .ok (.invokevirtual 224, 3) := by decide +kernel
theorem dX11_digest_22 : decode cX11_digest 22 = .ok (.i2l, 1) := by decide +kernel
theorem dX11_digest_23 : decode cX11_digest 23 = .ok (.ladd, 1) := by decide +kernel
theorem dX11_digest_24 : decode cX11_digest 24 = .ok (.lstore_n 1, 1) := by decide +kernel
theorem dX11_digest_25 : decode cX11_digest 25 = .ok (.iinc 3 1, 3) := by decide +kernel
theorem dX11_digest_28 : decode cX11_digest 28 = .ok (.goto (-22), 3) := by decide +kernel
theorem dX11_digest_31 : decode cX11_digest 31 = .ok (.iconst 0, 1) := by decide +kernel
theorem dX11_digest_32 : decode cX11_digest 32 = .ok (.istore_n 3, 1) := by decide +kernel
theorem dX11_digest_33 : decode cX11_digest 33 = .ok (.iload_n 3, 1) := by decide +kernel
theorem dX11_digest_34 : decode cX11_digest 34 = .ok (.iconst 2, 1) := by decide +kernel
theorem dX11_digest_35 : decode cX11_digest 35 = .ok (.if_icmp .ge 148, 3) := by decide +kernel
theorem dX11_digest_38 : decode cX11_digest 38 = .ok (.ldc2_w 222, 3) := by decide +kernel
theorem dX11_digest_41 : decode cX11_digest 41 = .ok (.lload_n 1, 1) := by decide +kernel
theorem dX11_digest_42 : decode cX11_digest 42 = .ok (.lmul, 1) := by decide +kernel
theorem dX11_digest_43 : decode cX11_digest 43 = .ok (.aload_n 0, 1) := by decide +kernel
theorem dX11_digest_44 : decode cX11_digest 44 = .ok (.iload_n 3, 1) := by decide +kernel
theorem dX11_digest_45 : decode cX11_digest 45 = .ok (.invokevirtual 86, 3) := by decide +kernel
theorem dX11_digest_48 : decode cX11_digest 48 = .ok (.i2l, 1) := by decide +kernel
theorem dX11_digest_49 : decode cX11_digest 49 = .ok (.ladd, 1) := by decide +kernel
theorem dX11_digest_50 : decode cX11_digest 50 = .ok (.lstore_n 1, 1) := by decide +kernel
theorem dX11_digest_51 : decode cX11_digest 51 = .ok (.ldc2_w 222, 3) := by decide +kernel
theorem dX11_digest_54 : decode cX11_digest 54 = .ok (.lload_n 1, 1) := by decide +kernel
theorem dX11_digest_55 : decode cX11_digest 55 = .ok (.lmul, 1) := by decide +kernel
theorem dX11_digest_56 : decode cX11_digest 56 = .ok (.aload_n 0, 1) := by decide +kernel
theorem dX11_digest_57 : decode cX11_digest 57 = .ok (.iload_n 3, 1) := by decide +kernel
theorem dX11_digest_58 : decode cX11_digest 58 = .ok (.invokevirtual 99, 3) := by decide +kernel
theorem dX11_digest_61 : decode cX11_digest 61 = .ok (.i2l, 1) := by decide +kernel
theorem dX11_digest_62 : decode cX11_digest 62 = .ok (.ladd, 1) := by decide +kernel
theorem dX11_digest_63 : decode cX11_digest 63 = .ok (.lstore_n 1, 1) := by decide +kernel
theorem dX11_digest_64 : decode cX11_digest 64 = .ok (.ldc2_w 222, 3) := by decide +kernel
theorem dX11_digest_67 : decode cX11_digest 67 = .ok (.lload_n 1, 1) := by decide +kernel
theorem dX11_digest_68 : decode cX11_digest 68 = .ok (.lmul, 1) := by decide +kernel
theorem dX11_digest_69 : decode cX11_digest 69 = .ok (.aload_n 0, 1) := by decide +kernel
theorem dX11_digest_70 : decode cX11_digest 70 = .ok (.iload_n 3, 1) := by decide +kernel
theorem dX11_digest_71 : decode cX11_digest 71 = .ok (.bipush 12, 2) := by decide +kernel
theorem dX11_digest_73 : decode cX11_digest 73 = .ok (.iconst (-1), 1) := by decide +kernel
theorem dX11_digest_74 : decode cX11_digest 74 = .ok (.invokevirtual 119, 3) := by decide +kernel
theorem dX11_digest_77 : decode cX11_digest 77 = .ok (.i2l, 1) := by decide +kernel
theorem dX11_digest_78 : decode cX11_digest 78 = .ok (.ladd, 1) := by decide +kernel
theorem dX11_digest_79 : decode cX11_digest 79 = .ok (.lstore_n 1, 1) := by decide +kernel
theorem dX11_digest_80 : decode cX11_digest 80 = .ok (.ldc2_w 222, 3) := by decide +kernel
theorem dX11_digest_83 : decode cX11_digest 83 = .ok (.lload_n 1, 1) := by decide +kernel
theorem dX11_digest_84 : decode cX11_digest 84 = .ok (.lmul, 1) := by decide +kernel
theorem dX11_digest_85 : decode cX11_digest 85 = .ok (.aload_n 0, 1) := by decide +kernel
theorem dX11_digest_86 : decode cX11_digest 86 = .ok (.iload_n 3, 1) := by decide +kernel
theorem dX11_digest_87 : decode cX11_digest 87 = .ok (.iconst 0, 1) := by decide +kernel
theorem dX11_digest_88 : decode cX11_digest 88 = .ok (.invokevirtual 191, 3) := by decide +kernel
theorem dX11_digest_91 : decode cX11_digest 91 = .ok (.i2l, 1) := by decide +kernel
theorem dX11_digest_92 : decode cX11_digest 92 = .ok (.ladd, 1) := by decide +kernel
theorem dX11_digest_93 : decode cX11_digest 93 = .ok (.lstore_n 1, 1) := by decide +kernel
theorem dX11_digest_94 : decode cX11_digest 94 = .ok (.ldc2_w 222, 3) := by decide +kernel
theorem dX11_digest_97 : decode cX11_digest 97 = .ok (.lload_n 1, 1) := by decide +kernel
theorem dX11_digest_98 : decode cX11_digest 98 = .ok (.lmul, 1) := by decide +kernel
theorem dX11_digest_99 : decode cX11_digest 99 = .ok (.aload_n 0, 1) := by decide +kernel
theorem dX11_digest_100 : decode cX11_digest 100 = .ok (.iload_n 3, 1) := by decide +kernel
theorem dX11_digest_101 : decode cX11_digest 101 = .ok (.iconst 1, 1) := by decide +kernel
theorem dX11_digest_102 : decode cX11_digest 102 = .ok (.invokevirtual 191, 3) := by decide +kernel
theorem dX11_digest_105 : decode cX11_digest 105 = .ok (.i2l, 1) := by decide +kernel
theorem dX11_digest_106 : decode cX11_digest 106 = .ok (.ladd, 1) := by decide +kernel
theorem dX11_digest_107 : decode cX11_digest 107 = .ok (.lstore_n 1, 1) := by decide +kernel
theorem dX11_digest_108 : decode cX11_digest 108 = .ok (.ldc2_w 222, 3) := by decide +kernel
theorem dX11_digest_111 : decode cX11_digest 111 = .ok (.lload_n 1, 1) := by decide +kernel
theorem dX11_digest_112 : decode cX11_digest 112 = .ok (.lmul, 1) := by decide +kernel
theorem dX11_digest_113 : decode cX11_digest 113 = .ok (.aload_n 0, 1) := by decide +kernel
theorem dX11_digest_114 : decode cX11_digest 114 = .ok (.iload_n 3, 1) := by decide +kernel
theorem dX11_digest_115 : decode cX11_digest 115 = .ok (.iconst 5, 1) := by decide +kernel
theorem dX11_digest_116 : decode cX11_digest 116 = .ok (.invokevirtual 197, 3) := by decide +kernel
theorem dX11_digest_119 : decode cX11_digest 119 = .ok (.i2l, 1) := by decide +kernel
theorem dX11_digest_120 : decode cX11_digest 120 = .ok (.ladd, 1) := by decide +kernel
theorem dX11_digest_121 : decode cX11_digest 121 = .ok (.lstore_n 1, 1) := by decide +kernel
theorem dX11_digest_122 : decode cX11_digest 122 = .ok (.ldc2_w 222, 3) := by decide +kernel
theorem dX11_digest_125 : decode cX11_digest 125 = .ok (.lload_n 1, 1) := by decide +kernel
theorem dX11_digest_126 : decode cX11_digest 126 = .ok (.lmul, 1) := by decide +kernel
theorem dX11_digest_127 : decode cX11_digest 127 = .ok (.aload_n 0, 1) := by decide +kernel
theorem dX11_digest_128 : decode cX11_digest 128 = .ok (.iload_n 3, 1) := by decide +kernel
theorem dX11_digest_129 : decode cX11_digest 129 = .ok (.invokevirtual 184, 3) := by decide +kernel
theorem dX11_digest_132 : decode cX11_digest 132 = .ok (.i2l, 1) := by decide +kernel
theorem dX11_digest_133 : decode cX11_digest 133 = .ok (.ladd, 1) := by decide +kernel
theorem dX11_digest_134 : decode cX11_digest 134 = .ok (.lstore_n 1, 1) := by decide +kernel
theorem dX11_digest_135 : decode cX11_digest 135 = .ok (.iconst 0, 1) := by decide +kernel
theorem dX11_digest_136 : decode cX11_digest 136 = .ok (.istore 4, 2) := by decide +kernel
theorem dX11_digest_138 : decode cX11_digest 138 = .ok (.iload 4, 2) := by decide +kernel
theorem dX11_digest_140 : decode cX11_digest 140 = .ok (.iconst 4, 1) := by decide +kernel
theorem dX11_digest_141 : decode cX11_digest 141 = .ok (.aload_n 0, 1) := by decide +kernel
theorem dX11_digest_142 : decode cX11_digest 142 = .ok (.getfield 16, 3) := by decide +kernel
theorem dX11_digest_145 : decode cX11_digest 145 = .ok (.iload_n 3, 1) := by decide +kernel
theorem dX11_digest_146 : decode cX11_digest 146 = .ok (.iaload, 1) := by decide +kernel
theorem dX11_digest_147 : decode cX11_digest 147 = .ok (.imul, 1) := by decide +kernel
theorem dX11_digest_148 : decode cX11_digest 148 = .ok (.if_icmp .ge 29, 3) := by decide +kernel
theorem dX11_digest_151 : decode cX11_digest 151 = .ok (.ldc2_w 222, 3) := by decide +kernel
theorem dX11_digest_154 : decode cX11_digest 154 = .ok (.lload_n 1, 1) := by decide +kernel
theorem dX11_digest_155 : decode cX11_digest 155 = .ok (.lmul, 1) := by decide +kernel
theorem dX11_digest_156 : decode cX11_digest 156 = .ok (.aload_n 0, 1) := by decide +kernel
theorem dX11_digest_157 : decode cX11_digest 157 = .ok (.getfield 19, 3) := by decide +kernel
theorem dX11_digest_160 : decode cX11_digest 160 = .ok (.bipush 48, 2) := by decide +kernel
theorem dX11_digest_162 : decode cX11_digest 162 = .ok (.iload_n 3, 1) := by decide +kernel
theorem dX11_digest_163 : decode cX11_digest 163 = .ok (.imul, 1) := by decide +kernel
theorem dX11_digest_164 : decode cX11_digest 164 = .ok (.iload 4, 2) := by decide +kernel
theorem dX11_digest_166 : decode cX11_digest 166 = .ok (.iadd, 1) := by decide +kernel
theorem dX11_digest_167 : decode cX11_digest 167 = .ok (.iaload, 1) := by decide +kernel
theorem dX11_digest_168 : decode cX11_digest 168 = .ok (.i2l, 1) := by decide +kernel
theorem dX11_digest_169 : decode cX11_digest 169 = .ok (.ladd, 1) := by decide +kernel
theorem dX11_digest_170 : decode cX11_digest 170 = .ok (.lstore_n 1, 1) := by decide +kernel
theorem dX11_digest_171 : decode cX11_digest 171 = .ok (.iinc 4 1, 3) := by decide +kernel
theorem dX11_digest_174 : decode cX11_digest 174 = .ok (.goto (-36), 3) := by decide +kernel
theorem dX11_digest_177 : decode cX11_digest 177 = .ok (.iinc 3 1, 3) := by decide +kernel
theorem dX11_digest_180 : decode cX11_digest 180 = .ok (.goto (-147), 3) := by decide +kernel
theorem dX11_digest_183 : decode cX11_digest 183 = .ok (.iconst 0, 1) := by decide +kernel
theorem dX11_digest_184 : decode cX11_digest 184 = .ok (.istore_n 3, 1) := by decide +kernel
theorem dX11_digest_185 : decode cX11_digest 185 = .ok (.iload_n 3, 1) := by decide +kernel
theorem dX11_digest_186 : decode cX11_digest 186 = .ok (.iconst 3, 1) := by decide +kernel
theorem dX11_digest_187 : decode cX11_digest 187 = .ok (.if_icmp .ge 22, 3) := by decide +kernel
theorem dX11_digest_190 : decode cX11_digest 190 = .ok (.ldc2_w 222, 3) := by decide +kernel
theorem dX11_digest_193 : decode cX11_digest 193 = .ok (.lload_n 1, 1) := by decide +kernel
theorem dX11_digest_194 : decode cX11_digest 194 = .ok (.lmul, 1) := by decide +kernel
theorem dX11_digest_195 : decode cX11_digest 195 = .ok (.aload_n 0, 1) := by decide +kernel
theorem dX11_digest_196 : decode cX11_digest 196 = .ok (.iload_n 3, 1) := by decide +kernel
theorem dX11_digest_197 : decode cX11_digest 197 = .ok (.invokevirtual 165, 3) := by decide +kernel
theorem dX11_digest_200 : decode cX11_digest 200 = .ok (.i2l, 1) := by decide +kernel
theorem dX11_digest_201 : decode cX11_digest 201 = .ok (.ladd, 1) := by decide +kernel
theorem dX11_digest_202 : decode cX11_digest 202 = .ok (.lstore_n 1, 1) := by decide +kernel
theorem dX11_digest_203 : decode cX11_digest 203 = .ok (.iinc 3 1, 3) := by decide +kernel
theorem dX11_digest_206 : decode cX11_digest 206 = .ok (.goto (-21), 3) := by decide +kernel
theorem dX11_digest_209 : decode cX11_digest 209 = .ok (.ldc2_w 222, 3) := by decide +kernel
theorem dX11_digest_212 : decode cX11_digest 212 = .ok (.lload_n 1, 1) := by decide +kernel
theorem dX11_digest_213 : decode cX11_digest 213 = .ok (.lmul, 1) := by decide +kernel
theorem dX11_digest_214 : decode cX11_digest 214 = .ok (.aload_n 0, 1) := by decide +kernel
theorem dX11_digest_215 : decode cX11_digest 215 = .ok (.invokevirtual 168, 3) := by decide +kernel
theorem dX11_digest_218 : decode cX11_digest 218 = .ok (.i2l, 1) := by decide +kernel
theorem dX11_digest_219 : decode cX11_digest 219 = .ok (.ladd, 1) := by decide +kernel
theorem dX11_digest_220 : decode cX11_digest 220 = .ok (.lstore_n 1, 1) := by decide +kernel
theorem dX11_digest_221 : decode cX11_digest 221 = .ok (.iconst 0, 1) := by decide +kernel
theorem dX11_digest_222 : decode cX11_digest 222 = .ok (.istore_n 3, 1) := by decide +kernel
theorem dX11_digest_223 : decode cX11_digest 223 = .ok (.iload_n 3, 1) := by decide +kernel
theorem dX11_digest_224 : decode cX11_digest 224 = .ok (.iconst 2, 1) := by decide +kernel
theorem dX11_digest_225 : decode cX11_digest 225 = .ok (.if_icmp .ge 44, 3) := by decide +kernel
theorem dX11_digest_228 : decode cX11_digest 228 = .ok (.iconst 0, 1) := by decide +kernel
theorem dX11_digest_229 : decode cX11_digest 229 = .ok (.istore 4, 2) := by decide +kernel
theorem dX11_digest_231 : decode cX11_digest 231 = .ok (.iload 4, 2) := by decide +kernel
theorem dX11_digest_233 : decode cX11_digest 233 = .ok (.aload_n 0, 1) := by decide +kernel
theorem dX11_digest_234 : decode cX11_digest 234 = .ok (.getfield 25, 3) := by decide +kernel
theorem dX11_digest_237 : decode cX11_digest 237 = .ok (.iload_n 3, 1) := by decide +kernel
theorem dX11_digest_238 : decode cX11_digest 238 = .ok (.iaload, 1) := by decide +kernel
theorem dX11_digest_239 : decode cX11_digest 239 = .ok (.if_icmp .ge 24, 3) := by decide +kernel
theorem dX11_digest_242 : decode cX11_digest 242 = .ok (.ldc2_w 222, 3) := by decide +kernel
theorem dX11_digest_245 : decode cX11_digest 245 = .ok (.lload_n 1, 1) := by decide +kernel
theorem dX11_digest_246 : decode cX11_digest 246 = .ok (.lmul, 1) := by decide +kernel
theorem dX11_digest_247 : decode cX11_digest 247 = .ok (.aload_n 0, 1) := by decide +kernel
theorem dX11_digest_248 : decode cX11_digest 248 = .ok (.iload_n 3, 1) := by decide +kernel
theorem dX11_digest_249 : decode cX11_digest 249 = .ok (.iload 4, 2) := by decide +kernel
theorem dX11_digest_251 : decode cX11_digest 251 = .ok (.invokevirtual 172, 3) := by decide +kernel
theorem dX11_digest_254 : decode cX11_digest 254 = .ok (.i2l, 1) := by decide +kernel
theorem dX11_digest_255 : decode cX11_digest 255 = .ok (.ladd, 1) := by decide +kernel
theorem dX11_digest_256 : decode cX11_digest 256 = .ok (.lstore_n 1, 1) := by decide +kernel
theorem dX11_digest_257 : decode cX11_digest 257 = .ok (.iinc 4 1, 3) := by decide +kernel
theorem dX11_digest_260 : decode cX11_digest 260 = .ok (.goto (-29), 3) := by decide +kernel
theorem dX11_digest_263 : decode cX11_digest 263 = .ok (.iinc 3 1, 3) := by decide +kernel
theorem dX11_digest_266 : decode cX11_digest 266 = .ok (.goto (-43), 3) := by decide +kernel
theorem dX11_digest_269 : decode cX11_digest 269 = .ok (.ldc2_w 222, 3) := by decide +kernel
theorem dX11_digest_272 : decode cX11_digest 272 = .ok (.lload_n 1, 1) := by decide +kernel
theorem dX11_digest_273 : decode cX11_digest 273 = .ok (.lmul, 1) := by decide +kernel
theorem dX11_digest_274 : decode cX11_digest 274 = .ok (.iconst 1, 1) := by decide +kernel
theorem dX11_digest_275 : decode cX11_digest 275 = .ok (.iconst 2, 1) := by decide +kernel
theorem dX11_digest_276 : decode cX11_digest 276 = .ok (.iconst (-1), 1) := by decide +kernel
theorem dX11_digest_277 : decode cX11_digest 277 = .ok (.invokestatic 122, 3) := by decide +kernel
theorem dX11_digest_280 : decode cX11_digest 280 = .ok (.i2l, 1) := by decide +kernel
theorem dX11_digest_281 : decode cX11_digest 281 = .ok (.ladd, 1) := by decide +kernel
theorem dX11_digest_282 : decode cX11_digest 282 = .ok (.lstore_n 1, 1) := by decide +kernel
theorem dX11_digest_283 : decode cX11_digest 283 = .ok (.iconst 0, 1) := by decide +kernel
theorem dX11_digest_284 : decode cX11_digest 284 = .ok (.istore_n 3, 1) := by decide +kernel
theorem dX11_digest_285 : decode cX11_digest 285 = .ok (.iload_n 3, 1) := by decide +kernel
theorem dX11_digest_286 : decode cX11_digest 286 = .ok (.iconst 3, 1) := by decide +kernel
theorem dX11_digest_287 : decode cX11_digest 287 = .ok (.if_icmp .ge 22, 3) := by decide +kernel
theorem dX11_digest_290 : decode cX11_digest 290 = .ok (.ldc2_w 222, 3) := by decide +kernel
theorem dX11_digest_293 : decode cX11_digest 293 = .ok (.lload_n 1, 1) := by decide +kernel
theorem dX11_digest_294 : decode cX11_digest 294 = .ok (.lmul, 1) := by decide +kernel
theorem dX11_digest_295 : decode cX11_digest 295 = .ok (.aload_n 0, 1) := by decide +kernel
theorem dX11_digest_296 : decode cX11_digest 296 = .ok (.iload_n 3, 1) := by decide +kernel
theorem dX11_digest_297 : decode cX11_digest 297 = .ok (.invokevirtual 206, 3) := by decide +kernel
theorem dX11_digest_300 : decode cX11_digest 300 = .ok (.i2l, 1) := by decide +kernel
theorem dX11_digest_301 : decode cX11_digest 301 = .ok (.ladd, 1) := by decide +kernel
theorem dX11_digest_302 : decode cX11_digest 302 = .ok (.lstore_n 1, 1) := by decide +kernel
theorem dX11_digest_303 : decode cX11_digest 303 = .ok (.iinc 3 1, 3) := by decide +kernel
theorem dX11_digest_306 : decode cX11_digest 306 = .ok (.goto (-21), 3) := by decide +kernel
theorem dX11_digest_309 : decode cX11_digest 309 = .ok (.lload_n 1, 1) := by decide +kernel
theorem dX11_digest_310 : decode cX11_digest 310 = .ok (.lreturn, 1) := by decide +kernel
theorem dJ6_bitCount_0f7a4_0 : decode cJ6_bitCount_0f7a4 0 = .ok (.iload_n 0, 1) := by decide +kernel
theorem dJ6_bitCount_0f7a4_1 : decode cJ6_bitCount_0f7a4 1 = .ok (.iload_n 0, 1) := by decide +kernel
theorem dJ6_bitCount_0f7a4_2 : decode cJ6_bitCount_0f7a4 2 = .ok (.iconst 1, 1) := by decide +kernel
theorem dJ6_bitCount_0f7a4_3 : decode cJ6_bitCount_0f7a4 3 = .ok (.iushr, 1) := by decide +kernel
theorem dJ6_bitCount_0f7a4_4 : decode cJ6_bitCount_0f7a4 4 = .ok (.ldc_w 265, 3) := by decide +kernel
theorem dJ6_bitCount_0f7a4_7 : decode cJ6_bitCount_0f7a4 7 = .ok (.iand, 1) := by decide +kernel
theorem dJ6_bitCount_0f7a4_8 : decode cJ6_bitCount_0f7a4 8 = .ok (.isub, 1) := by decide +kernel
theorem dJ6_bitCount_0f7a4_9 : decode cJ6_bitCount_0f7a4 9 = .ok (.istore_n 0, 1) := by decide +kernel
theorem dJ6_bitCount_0f7a4_10 : decode cJ6_bitCount_0f7a4 10 = .ok (.iload_n 0, 1) := by decide +kernel
theorem dJ6_bitCount_0f7a4_11 : decode cJ6_bitCount_0f7a4 11 = .ok (.ldc_w 266, 3) := by decide +kernel
theorem dJ6_bitCount_0f7a4_14 : decode cJ6_bitCount_0f7a4 14 = .ok (.iand, 1) := by decide +kernel
theorem dJ6_bitCount_0f7a4_15 : decode cJ6_bitCount_0f7a4 15 = .ok (.iload_n 0, 1) := by decide +kernel
theorem dJ6_bitCount_0f7a4_16 : decode cJ6_bitCount_0f7a4 16 = .ok (.iconst 2, 1) := by decide +kernel
theorem dJ6_bitCount_0f7a4_17 : decode cJ6_bitCount_0f7a4 17 = .ok (.iushr, 1) := by decide +kernel
theorem dJ6_bitCount_0f7a4_18 : decode cJ6_bitCount_0f7a4 18 = .ok (.ldc_w 266, 3) := by decide +kernel
theorem dJ6_bitCount_0f7a4_21 : decode cJ6_bitCount_0f7a4 21 = .ok (.iand, 1) := by decide +kernel
theorem dJ6_bitCount_0f7a4_22 : decode cJ6_bitCount_0f7a4 22 = .ok (.iadd, 1) := by decide +kernel
theorem dJ6_bitCount_0f7a4_23 : decode cJ6_bitCount_0f7a4 23 = .ok (.istore_n 0, 1) := by decide +kernel
theorem dJ6_bitCount_0f7a4_24 : decode cJ6_bitCount_0f7a4 24 = .ok (.iload_n 0, 1) := by decide +kernel
theorem dJ6_bitCount_0f7a4_25 : decode cJ6_bitCount_0f7a4 25 = .ok (.iload_n 0, 1) := by decide +kernel
theorem dJ6_bitCount_0f7a4_26 : decode cJ6_bitCount_0f7a4 26 = .ok (.iconst 4, 1) := by decide +kernel
theorem dJ6_bitCount_0f7a4_27 : decode cJ6_bitCount_0f7a4 27 = .ok (.iushr, 1) := by decide +kernel
theorem dJ6_bitCount_0f7a4_28 : decode cJ6_bitCount_0f7a4 28 = .ok (.iadd, 1) := by decide +kernel
theorem dJ6_bitCount_0f7a4_29 : decode cJ6_bitCount_0f7a4 29 = .ok (.ldc_w 267, 3) := by decide +kernel
theorem dJ6_bitCount_0f7a4_32 : decode cJ6_bitCount_0f7a4 32 = .ok (.iand, 1) := by decide +kernel
theorem dJ6_bitCount_0f7a4_33 : decode cJ6_bitCount_0f7a4 33 = .ok (.istore_n 0, 1) := by decide +kernel
theorem dJ6_bitCount_0f7a4_34 : decode cJ6_bitCount_0f7a4 34 = .ok (.iload_n 0, 1) := by decide +kernel
theorem dJ6_bitCount_0f7a4_35 : decode cJ6_bitCount_0f7a4 35 = .ok (.iload_n 0, 1) := by decide +kernel
theorem dJ6_bitCount_0f7a4_36 : decode cJ6_bitCount_0f7a4 36 = .ok (.bipush 8, 2) := by decide +kernel
theorem dJ6_bitCount_0f7a4_38 : decode cJ6_bitCount_0f7a4 38 = .ok (.iushr, 1) := by decide +kernel
theorem dJ6_bitCount_0f7a4_39 : decode cJ6_bitCount_0f7a4 39 = .ok (.iadd, 1) := by decide +kernel
theorem dJ6_bitCount_0f7a4_40 : decode cJ6_bitCount_0f7a4 40 = .ok (.istore_n 0, 1) := by decide +kernel
theorem dJ6_bitCount_0f7a4_41 : decode cJ6_bitCount_0f7a4 41 = .ok (.iload_n 0, 1) := by decide +kernel
theorem dJ6_bitCount_0f7a4_42 : decode cJ6_bitCount_0f7a4 42 = .ok (.iload_n 0, 1) := by decide +kernel
theorem dJ6_bitCount_0f7a4_43 : decode cJ6_bitCount_0f7a4 43 = .ok (.bipush 16, 2) := by decide +kernel
theorem dJ6_bitCount_0f7a4_45 : decode cJ6_bitCount_0f7a4 45 = .ok (.iushr, 1) := by decide +kernel
theorem dJ6_bitCount_0f7a4_46 : decode cJ6_bitCount_0f7a4 46 = .ok (.iadd, 1) := by decide +kernel
theorem dJ6_bitCount_0f7a4_47 : decode cJ6_bitCount_0f7a4 47 = .ok (.istore_n 0, 1) := by decide +kernel
theorem dJ6_bitCount_0f7a4_48 : decode cJ6_bitCount_0f7a4 48 = .ok (.iload_n 0, 1) := by decide +kernel
theorem dJ6_bitCount_0f7a4_49 : decode cJ6_bitCount_0f7a4 49 = .ok (.bipush 63, 2) := by decide +kernel
theorem dJ6_bitCount_0f7a4_51 : decode cJ6_bitCount_0f7a4 51 = .ok (.iand, 1) := by decide +kernel
theorem dJ6_bitCount_0f7a4_52 : decode cJ6_bitCount_0f7a4 52 = .ok (.ireturn, 1) := by decide +kernel
theorem dJ9_floorDiv_7cf53_0 : decode cJ9_floorDiv_7cf53 0 = .ok (.iload_n 0, 1) := by decide +kernel
theorem dJ9_floorDiv_7cf53_1 : decode cJ9_floorDiv_7cf53 1 = .ok (.iload_n 1, 1) := by decide +kernel
theorem dJ9_floorDiv_7cf53_2 : decode cJ9_floorDiv_7cf53 2 = .ok (.idiv, 1) := by decide +kernel
theorem dJ9_floorDiv_7cf53_3 : decode cJ9_floorDiv_7cf53 3 = .ok (.istore_n 2, 1) := by decide +kernel
theorem dJ9_floorDiv_7cf53_4 : decode cJ9_floorDiv_7cf53 4 = .ok (.iload_n 0, 1) := by decide +kernel
theorem dJ9_floorDiv_7cf53_5 : decode cJ9_floorDiv_7cf53 5 = .ok (.iload_n 1, 1) := by decide +kernel
theorem dJ9_floorDiv_7cf53_6 : decode cJ9_floorDiv_7cf53 6 = .ok (.ixor, 1) := by decide +kernel
theorem dJ9_floorDiv_7cf53_7 : decode cJ9_floorDiv_7cf53 7 = .ok (.ifCond .ge 14, 3) := by decide +kernel
theorem dJ9_floorDiv_7cf53_10 : decode cJ9_floorDiv_7cf53 10 = .ok (.iload_n 2, 1) := by decide +kernel
theorem dJ9_floorDiv_7cf53_11 : decode cJ9_floorDiv_7cf53 11 = .ok (.iload_n 1, 1) := by decide +kernel
theorem dJ9_floorDiv_7cf53_12 : decode cJ9_floorDiv_7cf53 12 = .ok (.imul, 1) := by decide +kernel
theorem dJ9_floorDiv_7cf53_13 : decode cJ9_floorDiv_7cf53 13 = .ok (.iload_n 0, 1) := by decide +kernel
theorem dJ9_floorDiv_7cf53_14 : decode cJ9_floorDiv_7cf53 14 = .ok (.if_icmp .eq 7, 3) := by decide +kernel
theorem dJ9_floorDiv_7cf53_17 : decode cJ9_floorDiv_7cf53 17 = .ok (.iload_n 2, 1) := by decide +kernel
theorem dJ9_floorDiv_7cf53_18 : decode cJ9_floorDiv_7cf53 18 = .ok (.iconst 1, 1) := by decide +kernel
theorem dJ9_floorDiv_7cf53_19 : decode cJ9_floorDiv_7cf53 19 = .ok (.isub, 1) := by decide +kernel
theorem dJ9_floorDiv_7cf53_20 : decode cJ9_floorDiv_7cf53 20 = .ok (.ireturn, 1) := by decide +kernel
theorem dJ9_floorDiv_7cf53_21 : decode cJ9_floorDiv_7cf53 21 = .ok (.iload_n 2, 1) := by decide +kernel
theorem dJ9_floorDiv_7cf53_22 : decode cJ9_floorDiv_7cf53 22 = .ok (.ireturn, 1) := by decide +kernel
theorem dJ9_floorMod_7cf53_0 : decode cJ9_floorMod_7cf53 0 = .ok (.iload_n 0, 1) := by decide +kernel
theorem dJ9_floorMod_7cf53_1 : decode cJ9_floorMod_7cf53 1 = .ok (.iload_n 1, 1) := by decide +kernel
theorem dJ9_floorMod_7cf53_2 : decode cJ9_floorMod_7cf53 2 = .ok (.irem, 1) := by decide +kernel
theorem dJ9_floorMod_7cf53_3 : decode cJ9_floorMod_7cf53 3 = .ok (.istore_n 2, 1) := by decide +kernel
theorem dJ9_floorMod_7cf53_4 : decode cJ9_floorMod_7cf53 4 = .ok (.iload_n 0, 1) := by decide +kernel
theorem dJ9_floorMod_7cf53_5 : decode cJ9_floorMod_7cf53 5 = .ok (.iload_n 1, 1) := by decide +kernel
theorem dJ9_floorMod_7cf53_6 : decode cJ9_floorMod_7cf53 6 = .ok (.ixor, 1) := by decide +kernel
theorem dJ9_floorMod_7cf53_7 : decode cJ9_floorMod_7cf53 7 = .ok (.ifCond .ge 11, 3) := by decide +kernel
theorem dJ9_floorMod_7cf53_10 : decode cJ9_floorMod_7cf53 10 = .ok (.iload_n 2, 1) := by decide +kernel
theorem dJ9_floorMod_7cf53_11 : decode cJ9_floorMod_7cf53 11 = .ok (.ifCond .eq 7, 3) := by decide +kernel
theorem dJ9_floorMod_7cf53_14 : decode cJ9_floorMod_7cf53 14 = .ok (.iload_n 2, 1) := by decide +kernel
theorem dJ9_floorMod_7cf53_15 : decode cJ9_floorMod_7cf53 15 = .ok (.iload_n 1, 1) := by decide +kernel
theorem dJ9_floorMod_7cf53_16 : decode cJ9_floorMod_7cf53 16 = .ok (.iadd, 1) := by decide +kernel
theorem dJ9_floorMod_7cf53_17 : decode cJ9_floorMod_7cf53 17 = .ok (.ireturn, 1) := by decide +kernel
theorem dJ9_floorMod_7cf53_18 : decode cJ9_floorMod_7cf53 18 = .ok (.iload_n 2, 1) := by decide +kernel
theorem dJ9_floorMod_7cf53_19 : decode cJ9_floorMod_7cf53 19 = .ok (.ireturn, 1) := by decide +kernel
theorem dJ9_abs_0f7a4_0 : decode cJ9_abs_0f7a4 0 = .ok (.iload_n 0, 1) := by decide +kernel
theorem dJ9_abs_0f7a4_1 : decode cJ9_abs_0f7a4 1 = .ok (.ifCond .ge 8, 3) := by decide +kernel
theorem dJ9_abs_0f7a4_4 : decode cJ9_abs_0f7a4 4 = .ok (.iload_n 0, 1) := by decide +kernel
theorem dJ9_abs_0f7a4_5 : decode cJ9_abs_0f7a4 5 = .ok (.ineg, 1) := by decide +kernel
theorem dJ9_abs_0f7a4_6 : decode cJ9_abs_0f7a4 6 = .ok (.goto 4, 3) := by decide +kernel
theorem dJ9_abs_0f7a4_9 : decode cJ9_abs_0f7a4 9 = .ok (.iload_n 0, 1) := by decide +kernel
theorem dJ9_abs_0f7a4_10 : decode cJ9_abs_0f7a4 10 = .ok (.ireturn, 1) := by decide +kernel
theorem dJ9_max_7cf53_0 : decode cJ9_max_7cf53 0 = .ok (.iload_n 0, 1) := by decide +kernel
theorem dJ9_max_7cf53_1 : decode cJ9_max_7cf53 1 = .ok (.iload_n 1, 1) := by decide +kernel
theorem dJ9_max_7cf53_2 : decode cJ9_max_7cf53 2 = .ok (.if_icmp .lt 7, 3) := by decide +kernel
theorem dJ9_max_7cf53_5 : decode cJ9_max_7cf53 5 = .ok (.iload_n 0, 1) := by decide +kernel
theorem dJ9_max_7cf53_6 : decode cJ9_max_7cf53 6 = .ok (.goto 4, 3) := by decide +kernel
theorem dJ9_max_7cf53_9 : decode cJ9_max_7cf53 9 = .ok (.iload_n 1, 1) := by decide +kernel
theorem dJ9_max_7cf53_10 : decode cJ9_max_7cf53 10 = .ok (.ireturn, 1) := by decide +kernel
theorem dJ9_min_7cf53_0 : decode cJ9_min_7cf53 0 = .ok (.iload_n 0, 1) := by decide +kernel
theorem dJ9_min_7cf53_1 : decode cJ9_min_7cf53 1 = .ok (.iload_n 1, 1) := by decide +kernel
theorem dJ9_min_7cf53_2 : decode cJ9_min_7cf53 2 = .ok (.if_icmp .gt 7, 3) := by decide +kernel
theorem dJ9_min_7cf53_5 : decode cJ9_min_7cf53 5 = .ok (.iload_n 0, 1) := by decide +kernel
theorem dJ9_min_7cf53_6 : decode cJ9_min_7cf53 6 = .ok (.goto 4, 3) := by decide +kernel
theorem dJ9_min_7cf53_9 : decode cJ9_min_7cf53 9 = .ok (.iload_n 1, 1) := by decide +kernel
theorem dJ9_min_7cf53_10 : decode cJ9_min_7cf53 10 = .ok (.ireturn, 1) := by decide +kernel
theorem dJ7_fill_53178_0 : decode cJ7_fill_53178 0 = .ok (.iconst 0, 1) := by decide +kernel
theorem dJ7_fill_53178_1 : decode cJ7_fill_53178 1 = .ok (.istore_n 2, 1) := by decide +kernel
theorem dJ7_fill_53178_2 : decode cJ7_fill_53178 2 = .ok (.aload_n 0, 1) := by decide +kernel
theorem dJ7_fill_53178_3 : decode cJ7_fill_53178 3 = .ok (.arraylength, 1) := by decide +kernel
theorem dJ7_fill_53178_4 : decode cJ7_fill_53178 4 = .ok (.istore_n 3, 1) := by decide +kernel
theorem dJ7_fill_53178_5 : decode cJ7_fill_53178 5 = .ok (.iload_n 2, 1) := by decide +kernel
theorem dJ7_fill_53178_6 : decode cJ7_fill_53178 6 = .ok (.iload_n 3, 1) := by decide +kernel
theorem dJ7_fill_53178_7 : decode cJ7_fill_53178 7 = .ok (.if_icmp .ge 13, 3) := by decide +kernel
theorem dJ7_fill_53178_10 : decode cJ7_fill_53178 10 = .ok (.aload_n 0, 1) := by decide +kernel
theorem dJ7_fill_53178_11 : decode cJ7_fill_53178 11 = .ok (.iload_n 2, 1) := by decide +kernel
theorem dJ7_fill_53178_12 : decode cJ7_fill_53178 12 = .ok (.iload_n 1, 1) := by decide +kernel
theorem dJ7_fill_53178_13 : decode cJ7_fill_53178 13 = .ok (.iastore, 1) := by decide +kernel
theorem dJ7_fill_53178_14 : decode cJ7_fill_53178 14 = .ok (.iinc 2 1, 3) := by decide +kernel
theorem dJ7_fill_53178_17 : decode cJ7_fill_53178 17 = .ok (.goto (-12), 3) := by decide +kernel
theorem dJ7_fill_53178_20 : decode cJ7_fill_53178 20 = .ok (.return_, 1) := by decide +kernel
theorem dL_law_0 : decode cL_law 0 = .ok (.new 7, 3) := by decide +kernel
theorem dL_law_3 : decode cL_law 3 = .ok (.dup, 1) := by decide +kernel
theorem dL_law_4 : decode cL_law 4 = .ok (.invokespecial 9, 3) := by decide +kernel
theorem dL_law_7 : decode cL_law 7 = .ok (.astore_n 1, 1) := by decide +kernel
theorem dL_law_8 : decode cL_law 8 = .ok (.new 10, 3) := by decide +kernel
theorem dL_law_11 : decode cL_law 11 = .ok (.dup, 1) := by decide +kernel
theorem dL_law_12 : decode cL_law 12 = .ok (.invokespecial 12, 3) := by decide +kernel
theorem dL_law_15 : decode cL_law 15 = .ok (.astore_n 2, 1) := by decide +kernel
theorem dL_law_16 : decode cL_law 16 = .ok (.iconst 0, 1) := by decide +kernel
theorem dL_law_17 : decode cL_law 17 = .ok (.istore_n 3, 1) := by decide +kernel
theorem dL_law_18 : decode cL_law 18 = .ok (.iload_n 3, 1) := by decide +kernel
theorem dL_law_19 : decode cL_law 19 = .ok (.aload_n 0, 1) := by decide +kernel
theorem dL_law_20 : decode cL_law 20 = .ok (.arraylength, 1) := by decide +kernel
theorem dL_law_21 : decode cL_law 21 = .ok (.bipush 6, 2) := by decide +kernel
theorem dL_law_23 : decode cL_law 23 = .ok (.isub, 1) := by decide +kernel
theorem dL_law_24 : decode cL_law 24 = .ok (.if_icmp .gt 1664, 3) := by decide +kernel
theorem dL_law_27 : decode cL_law 27 = .ok (.aload_n 0, 1) := by decide +kernel
theorem dL_law_28 : decode cL_law 28 = .ok (.iload_n 3, 1) := by decide +kernel
theorem dL_law_29 : decode cL_law 29 = .ok (.iaload, 1) := by decide +kernel
theorem dL_law_30 : decode cL_law 30 = .ok (.bipush 63, 2) := by decide +kernel
theorem dL_law_32 : decode cL_law 32 = .ok (.iand, 1) := by decide +kernel
theorem dL_law_33 : decode cL_law 33 = .ok (.tableswitch 1649 0 39 #[175, 208, 231, 254, 297, 340, 363, 396, 439, 483, 526, 569, 623, 686, 749, 792, 825, 848, 871, 884, 917, 971, 1014, 1047, 1080, 1103, 1136, 1179, 1212, 1255, 1288, 1311, 1344, 1387, 1410, 1463, 1506, 1569, 1612, 1635], 175) := by decide +kernel
theorem dL_law_208 : decode cL_law 208 = .ok (.aload_n 1, 1) := by decide +kernel
theorem dL_law_209 : decode cL_law 209 = .ok (.aload_n 0, 1) := by decide +kernel
theorem dL_law_210 : decode cL_law 210 = .ok (.iload_n 3, 1) := by decide +kernel
theorem dL_law_211 : decode cL_law 211 = .ok (.iconst 1, 1) := by decide +kernel
theorem dL_law_212 : decode cL_law 212 = .ok (.iadd, 1) := by decide +kernel
theorem dL_law_213 : decode cL_law 213 = .ok (.iaload, 1) := by decide +kernel
theorem dL_law_214 : decode cL_law 214 = .ok (.aload_n 0, 1) := by decide +kernel
theorem dL_law_215 : decode cL_law 215 = .ok (.iload_n 3, 1) := by decide +kernel
theorem dL_law_216 : decode cL_law 216 = .ok (.iconst 2, 1) := by decide +kernel
theorem dL_law_217 : decode cL_law 217 = .ok (.iadd, 1) := by decide +kernel
theorem dL_law_218 : decode cL_law 218 = .ok (.iaload, 1) := by decide +kernel
theorem dL_law_219 : decode cL_law 219 = .ok (.invokevirtual 13, 3) := by decide +kernel
theorem dL_law_222 : decode cL_law 222 = .ok (.aload_n 2, 1) := by decide +kernel
theorem dL_law_223 : decode cL_law 223 = .ok (.aload_n 0, 1) := by decide +kernel
theorem dL_law_224 : decode cL_law 224 = .ok (.iload_n 3, 1) := by decide +kernel
theorem dL_law_225 : decode cL_law 225 = .ok (.iconst 1, 1) := by decide +kernel
theorem dL_law_226 : decode cL_law 226 = .ok (.iadd, 1) := by decide +kernel
theorem dL_law_227 : decode cL_law 227 = .ok (.iaload, 1) := by decide +kernel
theorem dL_law_228 : decode cL_law 228 = .ok (.aload_n 0, 1) := by decide +kernel
theorem dL_law_229 : decode cL_law 229 = .ok (.iload_n 3, 1) := by decide +kernel
theorem dL_law_230 : decode cL_law 230 = .ok (.iconst 2, 1) := by decide +kernel
theorem dL_law_231 : decode cL_law 231 = .ok (.iadd, 1) := by decide +kernel
theorem dL_law_232 : decode cL_law 232 = .ok (.iaload, 1) := by decide +kernel
theorem dL_law_233 : decode cL_law 233 = .ok (.invokevirtual 17, 3) := by decide +kernel
theorem dL_law_236 : decode cL_law 236 = .ok (.if_icmp .eq 1446, 3) := by decide +kernel
theorem dL_law_239 : decode cL_law 239 = .ok (.iconst 0, 1) := by decide +kernel
theorem dL_law_240 : decode cL_law 240 = .ok (.ireturn, 1) := by decide +kernel
theorem dL_law_241 : decode cL_law 241 = .ok (.aload_n 1, 1) := by decide +kernel
theorem dL_law_242 : decode cL_law 242 = .ok (.aload_n 0, 1) := by decide +kernel
theorem dL_law_243 : decode cL_law 243 = .ok (.iload_n 3, 1) := by decide +kernel
theorem dL_law_244 : decode cL_law 244 = .ok (.iconst 1, 1) := by decide +kernel
theorem dL_law_245 : decode cL_law 245 = .ok (.iadd, 1) := by decide +kernel
theorem dL_law_246 : decode cL_law 246 = .ok (.iaload, 1) := by decide +kernel
theorem dL_law_247 : decode cL_law 247 = .ok (.invokevirtual 18, 3) := by decide +kernel
theorem dL_law_250 : decode cL_law 250 = .ok (.aload_n 2, 1) := by decide +kernel
theorem dL_law_251 : decode cL_law 251 = .ok (.aload_n 0, 1) := by decide +kernel
theorem dL_law_252 : decode cL_law 252 = .ok (.iload_n 3, 1) := by decide +kernel
theorem dL_law_253 : decode cL_law 253 = .ok (.iconst 1, 1) := by decide +kernel
theorem dL_law_254 : decode cL_law 254 = .ok (.iadd, 1) := by decide +kernel
theorem dL_law_255 : decode cL_law 255 = .ok (.iaload, 1) := by decide +kernel
theorem dL_law_256 : decode cL_law 256 = .ok (.invokevirtual 22, 3) := by decide +kernel
theorem dL_law_259 : decode cL_law 259 = .ok (.if_icmp .eq 1423, 3) := by decide +kernel
theorem dL_law_262 : decode cL_law 262 = .ok (.iconst 0, 1) := by decide +kernel
theorem dL_law_263 : decode cL_law 263 = .ok (.ireturn, 1) := by decide +kernel
theorem dL_law_264 : decode cL_law 264 = .ok (.aload_n 1, 1) := by decide +kernel
theorem dL_law_265 : decode cL_law 265 = .ok (.aload_n 0, 1) := by decide +kernel
theorem dL_law_266 : decode cL_law 266 = .ok (.iload_n 3, 1) := by decide +kernel
theorem dL_law_267 : decode cL_law 267 = .ok (.iconst 1, 1) := by decide +kernel
theorem dL_law_268 : decode cL_law 268 = .ok (.iadd, 1) := by decide +kernel
theorem dL_law_269 : decode cL_law 269 = .ok (.iaload, 1) := by decide +kernel
theorem dL_law_270 : decode cL_law 270 = .ok (.invokevirtual 23, 3) := by decide +kernel
theorem dL_law_273 : decode cL_law 273 = .ok (.aload_n 2, 1) := by decide +kernel
theorem dL_law_274 : decode cL_law 274 = .ok (.aload_n 0, 1) := by decide +kernel
theorem dL_law_275 : decode cL_law 275 = .ok (.iload_n 3, 1) := by decide +kernel
theorem dL_law_276 : decode cL_law 276 = .ok (.iconst 1, 1) := by decide +kernel
theorem dL_law_277 : decode cL_law 277 = .ok (.iadd, 1) := by decide +kernel
theorem dL_law_278 : decode cL_law 278 = .ok (.iaload, 1) := by decide +kernel
theorem dL_law_279 : decode cL_law 279 = .ok (.invokevirtual 26, 3) := by decide +kernel
theorem dL_law_282 : decode cL_law 282 = .ok (.if_icmp .eq 1400, 3) := by decide +kernel
theorem dL_law_285 : decode cL_law 285 = .ok (.iconst 0, 1) := by decide +kernel
theorem dL_law_286 : decode cL_law 286 = .ok (.ireturn, 1) := by decide +kernel
theorem dL_law_287 : decode cL_law 287 = .ok (.aload_n 1, 1) := by decide +kernel
theorem dL_law_288 : decode cL_law 288 = .ok (.aload_n 0, 1) := by decide +kernel
theorem dL_law_289 : decode cL_law 289 = .ok (.iload_n 3, 1) := by decide +kernel
theorem dL_law_290 : decode cL_law 290 = .ok (.iconst 1, 1) := by decide +kernel
theorem dL_law_291 : decode cL_law 291 = .ok (.iadd, 1) := by decide +kernel
theorem dL_law_292 : decode cL_law 292 = .ok (.iaload, 1) := by decide +kernel
theorem dL_law_293 : decode cL_law 293 = .ok (.aload_n 0, 1) := by decide +kernel
theorem dL_law_294 : decode cL_law 294 = .ok (.iload_n 3, 1) := by decide +kernel
theorem dL_law_295 : decode cL_law 295 = .ok (.iconst 2, 1) := by decide +kernel
theorem dL_law_296 : decode cL_law 296 = .ok (.iadd, 1) := by decide +kernel
theorem dL_law_297 : decode cL_law 297 = .ok (.iaload, 1) := by decide +kernel
theorem dL_law_298 : decode cL_law 298 = .ok (.aload_n 0, 1) := by decide +kernel
theorem dL_law_299 : decode cL_law 299 = .ok (.iload_n 3, 1) := by decide +kernel
theorem dL_law_300 : decode cL_law 300 = .ok (.iconst 3, 1) := by decide +kernel
theorem dL_law_301 : decode cL_law 301 = .ok (.iadd, 1) := by decide +kernel
theorem dL_law_302 : decode cL_law 302 = .ok (.iaload, 1) := by decide +kernel
theorem dL_law_303 : decode cL_law 303 = .ok (.invokevirtual 27, 3) := by decide +kernel
theorem dL_law_306 : decode cL_law 306 = .ok (.aload_n 2, 1) := by decide +kernel
theorem dL_law_307 : decode cL_law 307 = .ok (.aload_n 0, 1) := by decide +kernel
theorem dL_law_308 : decode cL_law 308 = .ok (.iload_n 3, 1) := by decide +kernel
theorem dL_law_309 : decode cL_law 309 = .ok (.iconst 1, 1) := by decide +kernel
theorem dL_law_310 : decode cL_law 310 = .ok (.iadd, 1) := by decide +kernel
theorem dL_law_311 : decode cL_law 311 = .ok (.iaload, 1) := by decide +kernel
theorem dL_law_312 : decode cL_law 312 = .ok (.aload_n 0, 1) := by decide +kernel
theorem dL_law_313 : decode cL_law 313 = .ok (.iload_n 3, 1) := by decide +kernel
theorem dL_law_314 : decode cL_law 314 = .ok (.iconst 2, 1) := by decide +kernel
theorem dL_law_315 : decode cL_law 315 = .ok (.iadd, 1) := by decide +kernel
theorem dL_law_316 : decode cL_law 316 = .ok (.iaload, 1) := by decide +kernel
theorem dL_law_317 : decode cL_law 317 = .ok (.aload_n 0, 1) := by decide +kernel
theorem dL_law_318 : decode cL_law 318 = .ok (.iload_n 3, 1) := by decide +kernel
theorem dL_law_319 : decode cL_law 319 = .ok (.iconst 3, 1) := by decide +kernel
theorem dL_law_320 : decode cL_law 320 = .ok (.iadd, 1) := by decide +kernel
theorem dL_law_321 : decode cL_law 321 = .ok (.iaload, 1) := by decide +kernel
theorem dL_law_322 : decode cL_law 322 = .ok (.invokevirtual 31, 3) := by decide +kernel
theorem dL_law_325 : decode cL_law 325 = .ok (.if_icmp .eq 1357, 3) := by decide +kernel
theorem dL_law_328 : decode cL_law 328 = .ok (.iconst 0, 1) := by decide +kernel
theorem dL_law_329 : decode cL_law 329 = .ok (.ireturn, 1) := by decide +kernel
theorem dL_law_330 : decode cL_law 330 = .ok (.aload_n 1, 1) := by decide +kernel
theorem dL_law_331 : decode cL_law 331 = .ok (.aload_n 0, 1) := by decide +kernel
theorem dL_law_332 : decode cL_law 332 = .ok (.iload_n 3, 1) := by decide +kernel
theorem dL_law_333 : decode cL_law 333 = .ok (.iconst 1, 1) := by decide +kernel
theorem dL_law_334 : decode cL_law 334 = .ok (.iadd, 1) := by decide +kernel
theorem dL_law_335 : decode cL_law 335 = .ok (.iaload, 1) := by decide +kernel
theorem dL_law_336 : decode cL_law 336 = .ok (.aload_n 0, 1) := by decide +kernel
theorem dL_law_337 : decode cL_law 337 = .ok (.iload_n 3, 1) := by decide +kernel
theorem dL_law_338 : decode cL_law 338 = .ok (.iconst 2, 1) := by decide +kernel
theorem dL_law_339 : decode cL_law 339 = .ok (.iadd, 1) := by decide +kernel
theorem dL_law_340 : decode cL_law 340 = .ok (.iaload, 1) := by decide +kernel
theorem dL_law_341 : decode cL_law 341 = .ok (.aload_n 0, 1) := by decide +kernel
theorem dL_law_342 : decode cL_law 342 = .ok (.iload_n 3, 1) := by decide +kernel
theorem dL_law_343 : decode cL_law 343 = .ok (.iconst 3, 1) := by decide +kernel
theorem dL_law_344 : decode cL_law 344 = .ok (.iadd, 1) := by decide +kernel
theorem dL_law_345 : decode cL_law 345 = .ok (.iaload, 1) := by decide +kernel
theorem dL_law_346 : decode cL_law 346 = .ok (.invokevirtual 32, 3) := by decide +kernel
theorem dL_law_349 : decode cL_law 349 = .ok (.aload_n 2, 1) := by decide +kernel
theorem dL_law_350 : decode cL_law 350 = .ok (.aload_n 0, 1) := by decide +kernel
theorem dL_law_351 : decode cL_law 351 = .ok (.iload_n 3, 1) := by decide +kernel
theorem dL_law_352 : decode cL_law 352 = .ok (.iconst 1, 1) := by decide +kernel
theorem dL_law_353 : decode cL_law 353 = .ok (.iadd, 1) := by decide +kernel
theorem dL_law_354 : decode cL_law 354 = .ok (.iaload, 1) := by decide +kernel
theorem dL_law_355 : decode cL_law 355 = .ok (.aload_n 0, 1) := by decide +kernel
theorem dL_law_356 : decode cL_law 356 = .ok (.iload_n 3, 1) := by decide +kernel
theorem dL_law_357 : decode cL_law 357 = .ok (.iconst 2, 1) := by decide +kernel
theorem dL_law_358 : decode cL_law 358 = .ok (.iadd, 1) := by decide +kernel
theorem dL_law_359 : decode cL_law 359 = .ok (.iaload, 1) := by decide +kernel
theorem dL_law_360 : decode cL_law 360 = .ok (.aload_n 0, 1) := by decide +kernel
theorem dL_law_361 : decode cL_law 361 = .ok (.iload_n 3, 1) := by decide +kernel
theorem dL_law_362 : decode cL_law 362 = .ok (.iconst 3, 1) := by decide +kernel
theorem dL_law_363 : decode cL_law 363 = .ok (.iadd, 1) := by decide +kernel
theorem dL_law_364 : decode cL_law 364 = .ok (.iaload, 1) := by decide +kernel
theorem dL_law_365 : decode cL_law 365 = .ok (.invokevirtual 35, 3) := by decide +kernel
theorem dL_law_368 : decode cL_law 368 = .ok (.if_icmp .eq 1314, 3) := by decide +kernel
theorem dL_law_371 : decode cL_law 371 = .ok (.iconst 0, 1) := by decide +kernel
theorem dL_law_372 : decode cL_law 372 = .ok (.ireturn, 1) := by decide +kernel
theorem dL_law_373 : decode cL_law 373 = .ok (.aload_n 1, 1) := by decide +kernel
theorem dL_law_374 : decode cL_law 374 = .ok (.aload_n 0, 1) := by decide +kernel
theorem dL_law_375 : decode cL_law 375 = .ok (.iload_n 3, 1) := by decide +kernel
theorem dL_law_376 : decode cL_law 376 = .ok (.iconst 1, 1) := by decide +kernel
theorem dL_law_377 : decode cL_law 377 = .ok (.iadd, 1) := by decide +kernel
theorem dL_law_378 : decode cL_law 378 = .ok (.iaload, 1) := by decide +kernel
theorem dL_law_379 : decode cL_law 379 = .ok (.invokevirtual 36, 3) := by decide +kernel
theorem dL_law_382 : decode cL_law 382 = .ok (.aload_n 2, 1) := by decide +kernel
theorem dL_law_383 : decode cL_law 383 = .ok (.aload_n 0, 1) := by decide +kernel
theorem dL_law_384 : decode cL_law 384 = .ok (.iload_n 3, 1) := by decide +kernel
theorem dL_law_385 : decode cL_law 385 = .ok (.iconst 1, 1) := by decide +kernel
theorem dL_law_386 : decode cL_law 386 = .ok (.iadd, 1) := by decide +kernel
theorem dL_law_387 : decode cL_law 387 = .ok (.iaload, 1) := by decide +kernel
theorem dL_law_388 : decode cL_law 388 = .ok (.invokevirtual 39, 3) := by decide +kernel
theorem dL_law_391 : decode cL_law 391 = .ok (.if_icmp .eq 1291, 3) := by decide +kernel
theorem dL_law_394 : decode cL_law 394 = .ok (.iconst 0, 1) := by decide +kernel
theorem dL_law_395 : decode cL_law 395 = .ok (.ireturn, 1) := by decide +kernel
theorem dL_law_396 : decode cL_law 396 = .ok (.aload_n 1, 1) := by decide +kernel
theorem dL_law_397 : decode cL_law 397 = .ok (.aload_n 0, 1) := by decide +kernel
theorem dL_law_398 : decode cL_law 398 = .ok (.iload_n 3, 1) := by decide +kernel
theorem dL_law_399 : decode cL_law 399 = .ok (.iconst 1, 1) := by decide +kernel
theorem dL_law_400 : decode cL_law 400 = .ok (.iadd, 1) := by decide +kernel
theorem dL_law_401 : decode cL_law 401 = .ok (.iaload, 1) := by decide +kernel
theorem dL_law_402 : decode cL_law 402 = .ok (.aload_n 0, 1) := by decide +kernel
theorem dL_law_403 : decode cL_law 403 = .ok (.iload_n 3, 1) := by decide +kernel
theorem dL_law_404 : decode cL_law 404 = .ok (.iconst 2, 1) := by decide +kernel
theorem dL_law_405 : decode cL_law 405 = .ok (.iadd, 1) := by decide +kernel
theorem dL_law_406 : decode cL_law 406 = .ok (.iaload, 1) := by decide +kernel
theorem dL_law_407 : decode cL_law 407 = .ok (.invokevirtual 40, 3) := by decide +kernel
theorem dL_law_410 : decode cL_law 410 = .ok (.aload_n 2, 1) := by decide +kernel
theorem dL_law_411 : decode cL_law 411 = .ok (.aload_n 0, 1) := by decide +kernel
theorem dL_law_412 : decode cL_law 412 = .ok (.iload_n 3, 1) := by decide +kernel
theorem dL_law_413 : decode cL_law 413 = .ok (.iconst 1, 1) := by decide +kernel
theorem dL_law_414 : decode cL_law 414 = .ok (.iadd, 1) := by decide +kernel
theorem dL_law_415 : decode cL_law 415 = .ok (.iaload, 1) := by decide +kernel
theorem dL_law_416 : decode cL_law 416 = .ok (.aload_n 0, 1) := by decide +kernel
theorem dL_law_417 : decode cL_law 417 = .ok (.iload_n 3, 1) := by decide +kernel
theorem dL_law_418 : decode cL_law 418 = .ok (.iconst 2, 1) := by decide +kernel
theorem dL_law_419 : decode cL_law 419 = .ok (.iadd, 1) := by decide +kernel
theorem dL_law_420 : decode cL_law 420 = .ok (.iaload, 1) := by decide +kernel
theorem dL_law_421 : decode cL_law 421 = .ok (.invokevirtual 43, 3) := by decide +kernel
theorem dL_law_424 : decode cL_law 424 = .ok (.if_icmp .eq 1258, 3) := by decide +kernel
theorem dL_law_427 : decode cL_law 427 = .ok (.iconst 0, 1) := by decide +kernel
theorem dL_law_428 : decode cL_law 428 = .ok (.ireturn, 1) := by decide +kernel
theorem dL_law_429 : decode cL_law 429 = .ok (.aload_n 1, 1) := by decide +kernel
theorem dL_law_430 : decode cL_law 430 = .ok (.aload_n 0, 1) := by decide +kernel
theorem dL_law_431 : decode cL_law 431 = .ok (.iload_n 3, 1) := by decide +kernel
theorem dL_law_432 : decode cL_law 432 = .ok (.iconst 1, 1) := by decide +kernel
theorem dL_law_433 : decode cL_law 433 = .ok (.iadd, 1) := by decide +kernel
theorem dL_law_434 : decode cL_law 434 = .ok (.iaload, 1) := by decide +kernel
theorem dL_law_435 : decode cL_law 435 = .ok (.aload_n 0, 1) := by decide +kernel
theorem dL_law_436 : decode cL_law 436 = .ok (.iload_n 3, 1) := by decide +kernel
theorem dL_law_437 : decode cL_law 437 = .ok (.iconst 2, 1) := by decide +kernel
theorem dL_law_438 : decode cL_law 438 = .ok (.iadd, 1) := by decide +kernel
theorem dL_law_439 : decode cL_law 439 = .ok (.iaload, 1) := by decide +kernel
theorem dL_law_440 : decode cL_law 440 = .ok (.aload_n 0, 1) := by decide +kernel
theorem dL_law_441 : decode cL_law 441 = .ok (.iload_n 3, 1) := by decide +kernel
theorem dL_law_442 : decode cL_law 442 = .ok (.iconst 3, 1) := by decide +kernel
theorem dL_law_443 : decode cL_law 443 = .ok (.iadd, 1) := by decide +kernel
theorem dL_law_444 : decode cL_law 444 = .ok (.iaload, 1) := by decide +kernel
theorem dL_law_445 : decode cL_law 445 = .ok (.invokevirtual 44, 3) := by decide +kernel
theorem dL_law_448 : decode cL_law 448 = .ok (.aload_n 2, 1) := by decide +kernel
theorem dL_law_449 : decode cL_law 449 = .ok (.aload_n 0, 1) := by decide +kernel
theorem dL_law_450 : decode cL_law 450 = .ok (.iload_n 3, 1) := by decide +kernel
theorem dL_law_451 : decode cL_law 451 = .ok (.iconst 1, 1) := by decide +kernel
theorem dL_law_452 : decode cL_law 452 = .ok (.iadd, 1) := by decide +kernel
theorem dL_law_453 : decode cL_law 453 = .ok (.iaload, 1) := by decide +kernel
theorem dL_law_454 : decode cL_law 454 = .ok (.aload_n 0, 1) := by decide +kernel
theorem dL_law_455 : decode cL_law 455 = .ok (.iload_n 3, 1) := by decide +kernel
theorem dL_law_456 : decode cL_law 456 = .ok (.iconst 2, 1) := by decide +kernel
theorem dL_law_457 : decode cL_law 457 = .ok (.iadd, 1) := by decide +kernel
theorem dL_law_458 : decode cL_law 458 = .ok (.iaload, 1) := by decide +kernel
theorem dL_law_459 : decode cL_law 459 = .ok (.aload_n 0, 1) := by decide +kernel
theorem dL_law_460 : decode cL_law 460 = .ok (.iload_n 3, 1) := by decide +kernel
theorem dL_law_461 : decode cL_law 461 = .ok (.iconst 3, 1) := by decide +kernel
theorem dL_law_462 : decode cL_law 462 = .ok (.iadd, 1) := by decide +kernel
theorem dL_law_463 : decode cL_law 463 = .ok (.iaload, 1) := by decide +kernel
theorem dL_law_464 : decode cL_law 464 = .ok (.invokevirtual 47, 3) := by decide +kernel
theorem dL_law_467 : decode cL_law 467 = .ok (.if_icmp .eq 1215, 3) := by decide +kernel
theorem dL_law_470 : decode cL_law 470 = .ok (.iconst 0, 1) := by decide +kernel
theorem dL_law_471 : decode cL_law 471 = .ok (.ireturn, 1) := by decide +kernel
theorem dL_law_472 : decode cL_law 472 = .ok (.aload_n 1, 1) := by decide +kernel
theorem dL_law_473 : decode cL_law 473 = .ok (.aload_n 0, 1) := by decide +kernel
theorem dL_law_474 : decode cL_law 474 = .ok (.iload_n 3, 1) := by decide +kernel
theorem dL_law_475 : decode cL_law 475 = .ok (.iconst 1, 1) := by decide +kernel
theorem dL_law_476 : decode cL_law 476 = .ok (.iadd, 1) := by decide +kernel
theorem dL_law_477 : decode cL_law 477 = .ok (.iaload, 1) := by decide +kernel
theorem dL_law_478 : decode cL_law 478 = .ok (.aload_n 0, 1) := by decide +kernel
theorem dL_law_479 : decode cL_law 479 = .ok (.iload_n 3, 1) := by decide +kernel
theorem dL_law_480 : decode cL_law 480 = .ok (.iconst 2, 1) := by decide +kernel
theorem dL_law_481 : decode cL_law 481 = .ok (.iadd, 1) := by decide +kernel
theorem dL_law_482 : decode cL_law 482 = .ok (.iaload, 1) := by decide +kernel
theorem dL_law_483 : decode cL_law 483 = .ok (.aload_n 0, 1) := by decide +kernel
theorem dL_law_484 : decode cL_law 484 = .ok (.iload_n 3, 1) := by decide +kernel
theorem dL_law_485 : decode cL_law 485 = .ok (.iconst 3, 1) := by decide +kernel
theorem dL_law_486 : decode cL_law 486 = .ok (.iadd, 1) := by decide +kernel
theorem dL_law_487 : decode cL_law 487 = .ok (.iaload, 1) := by decide +kernel
theorem dL_law_488 : decode cL_law 488 = .ok (.invokevirtual 48, 3) := by decide +kernel
theorem dL_law_491 : decode cL_law 491 = .ok (.aload_n 2, 1) := by decide +kernel
theorem dL_law_492 : decode cL_law 492 = .ok (.aload_n 0, 1) := by decide +kernel
theorem dL_law_493 : decode cL_law 493 = .ok (.iload_n 3, 1) := by decide +kernel
theorem dL_law_494 : decode cL_law 494 = .ok (.iconst 1, 1) := by decide +kernel
theorem dL_law_495 : decode cL_law 495 = .ok (.iadd, 1) := by decide +kernel
theorem dL_law_496 : decode cL_law 496 = .ok (.iaload, 1) := by decide +kernel
theorem dL_law_497 : decode cL_law 497 = .ok (.aload_n 0, 1) := by decide +kernel
theorem dL_law_498 : decode cL_law 498 = .ok (.iload_n 3, 1) := by decide +kernel
theorem dL_law_499 : decode cL_law 499 = .ok (.iconst 2, 1) := by decide +kernel
theorem dL_law_500 : decode cL_law 500 = .ok (.iadd, 1) := by decide +kernel
theorem dL_law_501 : decode cL_law 501 = .ok (.iaload, 1) := by decide +kernel
theorem dL_law_502 : decode cL_law 502 = .ok (.aload_n 0, 1) := by decide +kernel
theorem dL_law_503 : decode cL_law 503 = .ok (.iload_n 3, 1) := by decide +kernel
theorem dL_law_504 : decode cL_law 504 = .ok (.iconst 3, 1) := by decide +kernel
theorem dL_law_505 : decode cL_law 505 = .ok (.iadd, 1) := by decide +kernel
theorem dL_law_506 : decode cL_law 506 = .ok (.iaload, 1) := by decide +kernel
theorem dL_law_507 : decode cL_law 507 = .ok (.invokevirtual 52, 3) := by decide +kernel
theorem dL_law_510 : decode cL_law 510 = .ok (.lcmp, 1) := by decide +kernel
theorem dL_law_511 : decode cL_law 511 = .ok (.ifCond .eq 1171, 3) := by decide +kernel
theorem dL_law_514 : decode cL_law 514 = .ok (.iconst 0, 1) := by decide +kernel
theorem dL_law_515 : decode cL_law 515 = .ok (.ireturn, 1) := by decide +kernel
theorem dL_law_516 : decode cL_law 516 = .ok (.aload_n 1, 1) := by decide +kernel
theorem dL_law_517 : decode cL_law 517 = .ok (.aload_n 0, 1) := by decide +kernel
theorem dL_law_518 : decode cL_law 518 = .ok (.iload_n 3, 1) := by decide +kernel
theorem dL_law_519 : decode cL_law 519 = .ok (.iconst 1, 1) := by decide +kernel
theorem dL_law_520 : decode cL_law 520 = .ok (.iadd, 1) := by decide +kernel
theorem dL_law_521 : decode cL_law 521 = .ok (.iaload, 1) := by decide +kernel
theorem dL_law_522 : decode cL_law 522 = .ok (.aload_n 0, 1) := by decide +kernel
theorem dL_law_523 : decode cL_law 523 = .ok (.iload_n 3, 1) := by decide +kernel
theorem dL_law_524 : decode cL_law 524 = .ok (.iconst 2, 1) := by decide +kernel
theorem dL_law_525 : decode cL_law 525 = .ok (.iadd, 1) := by decide +kernel
theorem dL_law_526 : decode cL_law 526 = .ok (.iaload, 1) := by decide +kernel
theorem dL_law_527 : decode cL_law 527 = .ok (.aload_n 0, 1) := by decide +kernel
theorem dL_law_528 : decode cL_law 528 = .ok (.iload_n 3, 1) := by decide +kernel
theorem dL_law_529 : decode cL_law 529 = .ok (.iconst 3, 1) := by decide +kernel
theorem dL_law_530 : decode cL_law 530 = .ok (.iadd, 1) := by decide +kernel
theorem dL_law_531 : decode cL_law 531 = .ok (.iaload, 1) := by decide +kernel
theorem dL_law_532 : decode cL_law 532 = .ok (.invokevirtual 53, 3) := by decide +kernel
theorem dL_law_535 : decode cL_law 535 = .ok (.aload_n 2, 1) := by decide +kernel
theorem dL_law_536 : decode cL_law 536 = .ok (.aload_n 0, 1) := by decide +kernel
theorem dL_law_537 : decode cL_law 537 = .ok (.iload_n 3, 1) := by decide +kernel
theorem dL_law_538 : decode cL_law 538 = .ok (.iconst 1, 1) := by decide +kernel
theorem dL_law_539 : decode cL_law 539 = .ok (.iadd, 1) := by decide +kernel
theorem dL_law_540 : decode cL_law 540 = .ok (.iaload, 1) := by decide +kernel
theorem dL_law_541 : decode cL_law 541 = .ok (.aload_n 0, 1) := by decide +kernel
theorem dL_law_542 : decode cL_law 542 = .ok (.iload_n 3, 1) := by decide +kernel
theorem dL_law_543 : decode cL_law 543 = .ok (.iconst 2, 1) := by decide +kernel
theorem dL_law_544 : decode cL_law 544 = .ok (.iadd, 1) := by decide +kernel
theorem dL_law_545 : decode cL_law 545 = .ok (.iaload, 1) := by decide +kernel
theorem dL_law_546 : decode cL_law 546 = .ok (.aload_n 0, 1) := by decide +kernel
theorem dL_law_547 : decode cL_law 547 = .ok (.iload_n 3, 1) := by decide +kernel
theorem dL_law_548 : decode cL_law 548 = .ok (.iconst 3, 1) := by decide +kernel
theorem dL_law_549 : decode cL_law 549 = .ok (.iadd, 1) := by decide +kernel
theorem dL_law_550 : decode cL_law 550 = .ok (.iaload, 1) := by decide +kernel
theorem dL_law_551 : decode cL_law 551 = .ok (.invokevirtual 56, 3) := by decide +kernel
theorem dL_law_554 : decode cL_law 554 = .ok (.if_icmp .eq 1128, 3) := by decide +kernel
theorem dL_law_557 : decode cL_law 557 = .ok (.iconst 0, 1) := by decide +kernel
theorem dL_law_558 : decode cL_law 558 = .ok (.ireturn, 1) := by decide +kernel
theorem dL_law_559 : decode cL_law 559 = .ok (.aload_n 1, 1) := by decide +kernel
theorem dL_law_560 : decode cL_law 560 = .ok (.aload_n 0, 1) := by decide +kernel
theorem dL_law_561 : decode cL_law 561 = .ok (.iload_n 3, 1) := by decide +kernel
theorem dL_law_562 : decode cL_law 562 = .ok (.iconst 1, 1) := by decide +kernel
theorem dL_law_563 : decode cL_law 563 = .ok (.iadd, 1) := by decide +kernel
theorem dL_law_564 : decode cL_law 564 = .ok (.iaload, 1) := by decide +kernel
theorem dL_law_565 : decode cL_law 565 = .ok (.aload_n 0, 1) := by decide +kernel
theorem dL_law_566 : decode cL_law 566 = .ok (.iload_n 3, 1) := by decide +kernel
theorem dL_law_567 : decode cL_law 567 = .ok (.iconst 2, 1) := by decide +kernel
theorem dL_law_568 : decode cL_law 568 = .ok (.iadd, 1) := by decide +kernel
theorem dL_law_569 : decode cL_law 569 = .ok (.iaload, 1) := by decide +kernel
theorem dL_law_570 : decode cL_law 570 = .ok (.aload_n 0, 1) := by decide +kernel
theorem dL_law_571 : decode cL_law 571 = .ok (.iload_n 3, 1) := by decide +kernel
theorem dL_law_572 : decode cL_law 572 = .ok (.iconst 3, 1) := by decide +kernel
theorem dL_law_573 : decode cL_law 573 = .ok (.iadd, 1) := by decide +kernel
theorem dL_law_574 : decode cL_law 574 = .ok (.iaload, 1) := by decide +kernel
theorem dL_law_575 : decode cL_law 575 = .ok (.invokevirtual 57, 3) := by decide +kernel
theorem dL_law_578 : decode cL_law 578 = .ok (.aload_n 2, 1) := by decide +kernel
theorem dL_law_579 : decode cL_law 579 = .ok (.aload_n 0, 1) := by decide +kernel
theorem dL_law_580 : decode cL_law 580 = .ok (.iload_n 3, 1) := by decide +kernel
theorem dL_law_581 : decode cL_law 581 = .ok (.iconst 1, 1) := by decide +kernel
theorem dL_law_582 : decode cL_law 582 = .ok (.iadd, 1) := by decide +kernel
theorem dL_law_583 : decode cL_law 583 = .ok (.iaload, 1) := by decide +kernel
theorem dL_law_584 : decode cL_law 584 = .ok (.aload_n 0, 1) := by decide +kernel
theorem dL_law_585 : decode cL_law 585 = .ok (.iload_n 3, 1) := by decide +kernel
theorem dL_law_586 : decode cL_law 586 = .ok (.iconst 2, 1) := by decide +kernel
theorem dL_law_587 : decode cL_law 587 = .ok (.iadd, 1) := by decide +kernel
theorem dL_law_588 : decode cL_law 588 = .ok (.iaload, 1) := by decide +kernel
theorem dL_law_589 : decode cL_law 589 = .ok (.aload_n 0, 1) := by decide +kernel
theorem dL_law_590 : decode cL_law 590 = .ok (.iload_n 3, 1) := by decide +kernel
theorem dL_law_591 : decode cL_law 591 = .ok (.iconst 3, 1) := by decide +kernel
theorem dL_law_592 : decode cL_law 592 = .ok (.iadd, 1) := by decide +kernel
theorem dL_law_593 : decode cL_law 593 = .ok (.iaload, 1) := by decide +kernel
theorem dL_law_594 : decode cL_law 594 = .ok (.invokevirtual 60, 3) := by decide +kernel
theorem dL_law_597 : decode cL_law 597 = .ok (.if_icmp .eq 1085, 3) := by decide +kernel
theorem dL_law_600 : decode cL_law 600 = .ok (.iconst 0, 1) := by decide +kernel
theorem dL_law_601 : decode cL_law 601 = .ok (.ireturn, 1) := by decide +kernel
theorem dL_law_602 : decode cL_law 602 = .ok (.aload_n 1, 1) := by decide +kernel
theorem dL_law_603 : decode cL_law 603 = .ok (.aload_n 0, 1) := by decide +kernel
theorem dL_law_604 : decode cL_law 604 = .ok (.iload_n 3, 1) := by decide +kernel
theorem dL_law_605 : decode cL_law 605 = .ok (.iconst 1, 1) := by decide +kernel
theorem dL_law_606 : decode cL_law 606 = .ok (.iadd, 1) := by decide +kernel
theorem dL_law_607 : decode cL_law 607 = .ok (.iaload, 1) := by decide +kernel
theorem dL_law_608 : decode cL_law 608 = .ok (.aload_n 0, 1) := by decide +kernel
theorem dL_law_609 : decode cL_law 609 = .ok (.iload_n 3, 1) := by decide +kernel
theorem dL_law_610 : decode cL_law 610 = .ok (.iconst 2, 1) := by decide +kernel
theorem dL_law_611 : decode cL_law 611 = .ok (.iadd, 1) := by decide +kernel
theorem dL_law_612 : decode cL_law 612 = .ok (.iaload, 1) := by decide +kernel
theorem dL_law_613 : decode cL_law 613 = .ok (.aload_n 0, 1) := by decide +kernel
theorem dL_law_614 : decode cL_law 614 = .ok (.iload_n 3, 1) := by decide +kernel
theorem dL_law_615 : decode cL_law 615 = .ok (.iconst 3, 1) := by decide +kernel
theorem dL_law_616 : decode cL_law 616 = .ok (.iadd, 1) := by decide +kernel
theorem dL_law_617 : decode cL_law 617 = .ok (.iaload, 1) := by decide +kernel
theorem dL_law_618 : decode cL_law 618 = .ok (.aload_n 0, 1) := by decide +kernel
theorem dL_law_619 : decode cL_law 619 = .ok (.iload_n 3, 1) := by decide +kernel
theorem dL_law_620 : decode cL_law 620 = .ok (.iconst 4, 1) := by decide +kernel
theorem dL_law_621 : decode cL_law 621 = .ok (.iadd, 1) := by decide +kernel
theorem dL_law_622 : decode cL_law 622 = .ok (.iaload, 1) := by decide +kernel
theorem dL_law_623 : decode cL_law 623 = .ok (.invokevirtual 61, 3) := by decide +kernel
theorem dL_law_626 : decode cL_law 626 = .ok (.aload_n 2, 1) := by decide +kernel
theorem dL_law_627 : decode cL_law 627 = .ok (.aload_n 0, 1) := by decide +kernel
theorem dL_law_628 : decode cL_law 628 = .ok (.iload_n 3, 1) := by decide +kernel
theorem dL_law_629 : decode cL_law 629 = .ok (.iconst 1, 1) := by decide +kernel
theorem dL_law_630 : decode cL_law 630 = .ok (.iadd, 1) := by decide +kernel
theorem dL_law_631 : decode cL_law 631 = .ok (.iaload, 1) := by decide +kernel
theorem dL_law_632 : decode cL_law 632 = .ok (.aload_n 0, 1) := by decide +kernel
theorem dL_law_633 : decode cL_law 633 = .ok (.iload_n 3, 1) := by decide +kernel
theorem dL_law_634 : decode cL_law 634 = .ok (.iconst 2, 1) := by decide +kernel
theorem dL_law_635 : decode cL_law 635 = .ok (.iadd, 1) := by decide +kernel
theorem dL_law_636 : decode cL_law 636 = .ok (.iaload, 1) := by decide +kernel
theorem dL_law_637 : decode cL_law 637 = .ok (.aload_n 0, 1) := by decide +kernel
theorem dL_law_638 : decode cL_law 638 = .ok (.iload_n 3, 1) := by decide +kernel
theorem dL_law_639 : decode cL_law 639 = .ok (.iconst 3, 1) := by decide +kernel
theorem dL_law_640 : decode cL_law 640 = .ok (.iadd, 1) := by decide +kernel
theorem dL_law_641 : decode cL_law 641 = .ok (.iaload, 1) := by decide +kernel
theorem dL_law_642 : decode cL_law 642 = .ok (.aload_n 0, 1) := by decide +kernel
theorem dL_law_643 : decode cL_law 643 = .ok (.iload_n 3, 1) := by decide +kernel
theorem dL_law_644 : decode cL_law 644 = .ok (.iconst 4, 1) := by decide +kernel
theorem dL_law_645 : decode cL_law 645 = .ok (.iadd, 1) := by decide +kernel
theorem dL_law_646 : decode cL_law 646 = .ok (.iaload, 1) := by decide +kernel
theorem dL_law_647 : decode cL_law 647 = .ok (.invokevirtual 65, 3) := by decide +kernel
theorem dL_law_650 : decode cL_law 650 = .ok (.lcmp, 1) := by decide +kernel
theorem dL_law_651 : decode cL_law 651 = .ok (.ifCond .eq 1031, 3) := by decide +kernel
theorem dL_law_654 : decode cL_law 654 = .ok (.iconst 0, 1) := by decide +kernel
theorem dL_law_655 : decode cL_law 655 = .ok (.ireturn, 1) := by decide +kernel
theorem dL_law_656 : decode cL_law 656 = .ok (.aload_n 1, 1) := by decide +kernel
theorem dL_law_657 : decode cL_law 657 = .ok (.aload_n 0, 1) := by decide +kernel
theorem dL_law_658 : decode cL_law 658 = .ok (.iload_n 3, 1) := by decide +kernel
theorem dL_law_659 : decode cL_law 659 = .ok (.iconst 1, 1) := by decide +kernel
theorem dL_law_660 : decode cL_law 660 = .ok (.iadd, 1) := by decide +kernel
theorem dL_law_661 : decode cL_law 661 = .ok (.iaload, 1) := by decide +kernel
theorem dL_law_662 : decode cL_law 662 = .ok (.aload_n 0, 1) := by decide +kernel
theorem dL_law_663 : decode cL_law 663 = .ok (.iload_n 3, 1) := by decide +kernel
theorem dL_law_664 : decode cL_law 664 = .ok (.iconst 2, 1) := by decide +kernel
theorem dL_law_665 : decode cL_law 665 = .ok (.iadd, 1) := by decide +kernel
theorem dL_law_666 : decode cL_law 666 = .ok (.iaload, 1) := by decide +kernel
theorem dL_law_667 : decode cL_law 667 = .ok (.aload_n 0, 1) := by decide +kernel
theorem dL_law_668 : decode cL_law 668 = .ok (.iload_n 3, 1) := by decide +kernel
theorem dL_law_669 : decode cL_law 669 = .ok (.iconst 3, 1) := by decide +kernel
theorem dL_law_670 : decode cL_law 670 = .ok (.iadd, 1) := by decide +kernel
theorem dL_law_671 : decode cL_law 671 = .ok (.iaload, 1) := by decide +kernel
theorem dL_law_672 : decode cL_law 672 = .ok (.aload_n 0, 1) := by decide +kernel
theorem dL_law_673 : decode cL_law 673 = .ok (.iload_n 3, 1) := by decide +kernel
theorem dL_law_674 : decode cL_law 674 = .ok (.iconst 4, 1) := by decide +kernel
theorem dL_law_675 : decode cL_law 675 = .ok (.iadd, 1) := by decide +kernel
theorem dL_law_676 : decode cL_law 676 = .ok (.iaload, 1) := by decide +kernel
theorem dL_law_677 : decode cL_law 677 = .ok (.aload_n 0, 1) := by decide +kernel
theorem dL_law_678 : decode cL_law 678 = .ok (.iload_n 3, 1) := by decide +kernel
theorem dL_law_679 : decode cL_law 679 = .ok (.iconst 5, 1) := by decide +kernel
theorem dL_law_680 : decode cL_law 680 = .ok (.iadd, 1) := by decide +kernel
theorem dL_law_681 : decode cL_law 681 = .ok (.iaload, 1) := by decide +kernel
theorem dL_law_682 : decode cL_law 682 = .ok (.invokevirtual 66, 3) := by decide +kernel
theorem dL_law_685 : decode cL_law 685 = .ok (.aload_n 2, 1) := by decide +kernel
theorem dL_law_686 : decode cL_law 686 = .ok (.aload_n 0, 1) := by decide +kernel
theorem dL_law_687 : decode cL_law 687 = .ok (.iload_n 3, 1) := by decide +kernel
theorem dL_law_688 : decode cL_law 688 = .ok (.iconst 1, 1) := by decide +kernel
theorem dL_law_689 : decode cL_law 689 = .ok (.iadd, 1) := by decide +kernel
theorem dL_law_690 : decode cL_law 690 = .ok (.iaload, 1) := by decide +kernel
theorem dL_law_691 : decode cL_law 691 = .ok (.aload_n 0, 1) := by decide +kernel
theorem dL_law_692 : decode cL_law 692 = .ok (.iload_n 3, 1) := by decide +kernel
theorem dL_law_693 : decode cL_law 693 = .ok (.iconst 2, 1) := by decide +kernel
theorem dL_law_694 : decode cL_law 694 = .ok (.iadd, 1) := by decide +kernel
theorem dL_law_695 : decode cL_law 695 = .ok (.iaload, 1) := by decide +kernel
theorem dL_law_696 : decode cL_law 696 = .ok (.aload_n 0, 1) := by decide +kernel
theorem dL_law_697 : decode cL_law 697 = .ok (.iload_n 3, 1) := by decide +kernel
theorem dL_law_698 : decode cL_law 698 = .ok (.iconst 3, 1) := by decide +kernel
theorem dL_law_699 : decode cL_law 699 = .ok (.iadd, 1) := by decide +kernel
theorem dL_law_700 : decode cL_law 700 = .ok (.iaload, 1) := by decide +kernel
theorem dL_law_701 : decode cL_law 701 = .ok (.aload_n 0, 1) := by decide +kernel
theorem dL_law_702 : decode cL_law 702 = .ok (.iload_n 3, 1) := by decide +kernel
theorem dL_law_703 : decode cL_law 703 = .ok (.iconst 4, 1) := by decide +kernel
theorem dL_law_704 : decode cL_law 704 = .ok (.iadd, 1) := by decide +kernel
theorem dL_law_705 : decode cL_law 705 = .ok (.iaload, 1) := by decide +kernel
theorem dL_law_706 : decode cL_law 706 = .ok (.aload_n 0, 1) := by decide +kernel
theorem dL_law_707 : decode cL_law 707 = .ok (.iload_n 3, 1) := by decide +kernel
theorem dL_law_708 : decode cL_law 708 = .ok (.iconst 5, 1) := by decide +kernel
theorem dL_law_709 : decode cL_law 709 = .ok (.iadd, 1) := by decide +kernel
theorem dL_law_710 : decode cL_law 710 = .ok (.iaload, 1) := by decide +kernel
theorem dL_law_711 : decode cL_law 711 = .ok (.invokevirtual 70, 3) := by decide +kernel
theorem dL_law_714 : decode cL_law 714 = .ok (.if_icmp .eq 968, 3) := by decide +kernel
theorem dL_law_717 : decode cL_law 717 = .ok (.iconst 0, 1) := by decide +kernel
theorem dL_law_718 : decode cL_law 718 = .ok (.ireturn, 1) := by decide +kernel
theorem dL_law_719 : decode cL_law 719 = .ok (.aload_n 1, 1) := by decide +kernel
theorem dL_law_720 : decode cL_law 720 = .ok (.aload_n 0, 1) := by decide +kernel
theorem dL_law_721 : decode cL_law 721 = .ok (.iload_n 3, 1) := by decide +kernel
theorem dL_law_722 : decode cL_law 722 = .ok (.iconst 1, 1) := by decide +kernel
theorem dL_law_723 : decode cL_law 723 = .ok (.iadd, 1) := by decide +kernel
theorem dL_law_724 : decode cL_law 724 = .ok (.iaload, 1) := by decide +kernel
theorem dL_law_725 : decode cL_law 725 = .ok (.aload_n 0, 1) := by decide +kernel
theorem dL_law_726 : decode cL_law 726 = .ok (.iload_n 3, 1) := by decide +kernel
theorem dL_law_727 : decode cL_law 727 = .ok (.iconst 2, 1) := by decide +kernel
theorem dL_law_728 : decode cL_law 728 = .ok (.iadd, 1) := by decide +kernel
theorem dL_law_729 : decode cL_law 729 = .ok (.iaload, 1) := by decide +kernel
theorem dL_law_730 : decode cL_law 730 = .ok (.aload_n 0, 1) := by decide +kernel
theorem dL_law_731 : decode cL_law 731 = .ok (.iload_n 3, 1) := by decide +kernel
theorem dL_law_732 : decode cL_law 732 = .ok (.iconst 3, 1) := by decide +kernel
theorem dL_law_733 : decode cL_law 733 = .ok (.iadd, 1) := by decide +kernel
theorem dL_law_734 : decode cL_law 734 = .ok (.iaload, 1) := by decide +kernel
theorem dL_law_735 : decode cL_law 735 = .ok (.aload_n 0, 1) := by decide +kernel
theorem dL_law_736 : decode cL_law 736 = .ok (.iload_n 3, 1) := by decide +kernel
theorem dL_law_737 : decode cL_law 737 = .ok (.iconst 4, 1) := by decide +kernel
theorem dL_law_738 : decode cL_law 738 = .ok (.iadd, 1) := by decide +kernel
theorem dL_law_739 : decode cL_law 739 = .ok (.iaload, 1) := by decide +kernel
theorem dL_law_740 : decode cL_law 740 = .ok (.aload_n 0, 1) := by decide +kernel
theorem dL_law_741 : decode cL_law 741 = .ok (.iload_n 3, 1) := by decide +kernel
theorem dL_law_742 : decode cL_law 742 = .ok (.iconst 5, 1) := by decide +kernel
theorem dL_law_743 : decode cL_law 743 = .ok (.iadd, 1) := by decide +kernel
theorem dL_law_744 : decode cL_law 744 = .ok (.iaload, 1) := by decide +kernel
theorem dL_law_745 : decode cL_law 745 = .ok (.invokevirtual 71, 3) := by decide +kernel
theorem dL_law_748 : decode cL_law 748 = .ok (.aload_n 2, 1) := by decide +kernel
theorem dL_law_749 : decode cL_law 749 = .ok (.aload_n 0, 1) := by decide +kernel
theorem dL_law_750 : decode cL_law 750 = .ok (.iload_n 3, 1) := by decide +kernel
theorem dL_law_751 : decode cL_law 751 = .ok (.iconst 1, 1) := by decide +kernel
theorem dL_law_752 : decode cL_law 752 = .ok (.iadd, 1) := by decide +kernel
theorem dL_law_753 : decode cL_law 753 = .ok (.iaload, 1) := by decide +kernel
theorem dL_law_754 : decode cL_law 754 = .ok (.aload_n 0, 1) := by decide +kernel
theorem dL_law_755 : decode cL_law 755 = .ok (.iload_n 3, 1) := by decide +kernel
theorem dL_law_756 : decode cL_law 756 = .ok (.iconst 2, 1) := by decide +kernel
theorem dL_law_757 : decode cL_law 757 = .ok (.iadd, 1) := by decide +kernel
theorem dL_law_758 : decode cL_law 758 = .ok (.iaload, 1) := by decide +kernel
theorem dL_law_759 : decode cL_law 759 = .ok (.aload_n 0, 1) := by decide +kernel
theorem dL_law_760 : decode cL_law 760 = .ok (.iload_n 3, 1) := by decide +kernel
theorem dL_law_761 : decode cL_law 761 = .ok (.iconst 3, 1) := by decide +kernel
theorem dL_law_762 : decode cL_law 762 = .ok (.iadd, 1) := by decide +kernel
theorem dL_law_763 : decode cL_law 763 = .ok (.iaload, 1) := by decide +kernel
theorem dL_law_764 : decode cL_law 764 = .ok (.aload_n 0, 1) := by decide +kernel
theorem dL_law_765 : decode cL_law 765 = .ok (.iload_n 3, 1) := by decide +kernel
theorem dL_law_766 : decode cL_law 766 = .ok (.iconst 4, 1) := by decide +kernel
theorem dL_law_767 : decode cL_law 767 = .ok (.iadd, 1) := by decide +kernel
theorem dL_law_768 : decode cL_law 768 = .ok (.iaload, 1) := by decide +kernel
theorem dL_law_769 : decode cL_law 769 = .ok (.aload_n 0, 1) := by decide +kernel
theorem dL_law_770 : decode cL_law 770 = .ok (.iload_n 3, 1) := by decide +kernel
theorem dL_law_771 : decode cL_law 771 = .ok (.iconst 5, 1) := by decide +kernel
theorem dL_law_772 : decode cL_law 772 = .ok (.iadd, 1) := by decide +kernel
theorem dL_law_773 : decode cL_law 773 = .ok (.iaload, 1) := by decide +kernel
theorem dL_law_774 : decode cL_law 774 = .ok (.invokevirtual 74, 3) := by decide +kernel
theorem dL_law_777 : decode cL_law 777 = .ok (.if_icmp .eq 905, 3) := by decide +kernel
theorem dL_law_780 : decode cL_law 780 = .ok (.iconst 0, 1) := by decide +kernel
theorem dL_law_781 : decode cL_law 781 = .ok (.ireturn, 1) := by decide +kernel
theorem dL_law_782 : decode cL_law 782 = .ok (.aload_n 1, 1) := by decide +kernel
theorem dL_law_783 : decode cL_law 783 = .ok (.aload_n 0, 1) := by decide +kernel
theorem dL_law_784 : decode cL_law 784 = .ok (.iload_n 3, 1) := by decide +kernel
theorem dL_law_785 : decode cL_law 785 = .ok (.iconst 1, 1) := by decide +kernel
theorem dL_law_786 : decode cL_law 786 = .ok (.iadd, 1) := by decide +kernel
theorem dL_law_787 : decode cL_law 787 = .ok (.iaload, 1) := by decide +kernel
theorem dL_law_788 : decode cL_law 788 = .ok (.aload_n 0, 1) := by decide +kernel
theorem dL_law_789 : decode cL_law 789 = .ok (.iload_n 3, 1) := by decide +kernel
theorem dL_law_790 : decode cL_law 790 = .ok (.iconst 2, 1) := by decide +kernel
theorem dL_law_791 : decode cL_law 791 = .ok (.iadd, 1) := by decide +kernel
theorem dL_law_792 : decode cL_law 792 = .ok (.iaload, 1) := by decide +kernel
theorem dL_law_793 : decode cL_law 793 = .ok (.aload_n 0, 1) := by decide +kernel
theorem dL_law_794 : decode cL_law 794 = .ok (.iload_n 3, 1) := by decide +kernel
theorem dL_law_795 : decode cL_law 795 = .ok (.iconst 3, 1) := by decide +kernel
theorem dL_law_796 : decode cL_law 796 = .ok (.iadd, 1) := by decide +kernel
theorem dL_law_797 : decode cL_law 797 = .ok (.iaload, 1) := by decide +kernel
theorem dL_law_798 : decode cL_law 798 = .ok (.invokevirtual 75, 3) := by decide +kernel
theorem dL_law_801 : decode cL_law 801 = .ok (.aload_n 2, 1) := by decide +kernel
theorem dL_law_802 : decode cL_law 802 = .ok (.aload_n 0, 1) := by decide +kernel
theorem dL_law_803 : decode cL_law 803 = .ok (.iload_n 3, 1) := by decide +kernel
theorem dL_law_804 : decode cL_law 804 = .ok (.iconst 1, 1) := by decide +kernel
theorem dL_law_805 : decode cL_law 805 = .ok (.iadd, 1) := by decide +kernel
theorem dL_law_806 : decode cL_law 806 = .ok (.iaload, 1) := by decide +kernel
theorem dL_law_807 : decode cL_law 807 = .ok (.aload_n 0, 1) := by decide +kernel
theorem dL_law_808 : decode cL_law 808 = .ok (.iload_n 3, 1) := by decide +kernel
theorem dL_law_809 : decode cL_law 809 = .ok (.iconst 2, 1) := by decide +kernel
theorem dL_law_810 : decode cL_law 810 = .ok (.iadd, 1) := by decide +kernel
theorem dL_law_811 : decode cL_law 811 = .ok (.iaload, 1) := by decide +kernel
theorem dL_law_812 : decode cL_law 812 = .ok (.aload_n 0, 1) := by decide +kernel
theorem dL_law_813 : decode cL_law 813 = .ok (.iload_n 3, 1) := by decide +kernel
theorem dL_law_814 : decode cL_law 814 = .ok (.iconst 3, 1) := by decide +kernel
theorem dL_law_815 : decode cL_law 815 = .ok (.iadd, 1) := by decide +kernel
theorem dL_law_816 : decode cL_law 816 = .ok (.iaload, 1) := by decide +kernel
theorem dL_law_817 : decode cL_law 817 = .ok (.invokevirtual 78, 3) := by decide +kernel
theorem dL_law_820 : decode cL_law 820 = .ok (.if_icmp .eq 862, 3) := by decide +kernel
theorem dL_law_823 : decode cL_law 823 = .ok (.iconst 0, 1) := by decide +kernel
theorem dL_law_824 : decode cL_law 824 = .ok (.ireturn, 1) := by decide +kernel
theorem dL_law_825 : decode cL_law 825 = .ok (.aload_n 1, 1) := by decide +kernel
theorem dL_law_826 : decode cL_law 826 = .ok (.aload_n 0, 1) := by decide +kernel
theorem dL_law_827 : decode cL_law 827 = .ok (.iload_n 3, 1) := by decide +kernel
theorem dL_law_828 : decode cL_law 828 = .ok (.iconst 1, 1) := by decide +kernel
theorem dL_law_829 : decode cL_law 829 = .ok (.iadd, 1) := by decide +kernel
theorem dL_law_830 : decode cL_law 830 = .ok (.iaload, 1) := by decide +kernel
theorem dL_law_831 : decode cL_law 831 = .ok (.aload_n 0, 1) := by decide +kernel
theorem dL_law_832 : decode cL_law 832 = .ok (.iload_n 3, 1) := by decide +kernel
theorem dL_law_833 : decode cL_law 833 = .ok (.iconst 2, 1) := by decide +kernel
theorem dL_law_834 : decode cL_law 834 = .ok (.iadd, 1) := by decide +kernel
theorem dL_law_835 : decode cL_law 835 = .ok (.iaload, 1) := by decide +kernel
theorem dL_law_836 : decode cL_law 836 = .ok (.invokevirtual 79, 3) := by decide +kernel
theorem dL_law_839 : decode cL_law 839 = .ok (.aload_n 2, 1) := by decide +kernel
theorem dL_law_840 : decode cL_law 840 = .ok (.aload_n 0, 1) := by decide +kernel
theorem dL_law_841 : decode cL_law 841 = .ok (.iload_n 3, 1) := by decide +kernel
theorem dL_law_842 : decode cL_law 842 = .ok (.iconst 1, 1) := by decide +kernel
theorem dL_law_843 : decode cL_law 843 = .ok (.iadd, 1) := by decide +kernel
theorem dL_law_844 : decode cL_law 844 = .ok (.iaload, 1) := by decide +kernel
theorem dL_law_845 : decode cL_law 845 = .ok (.aload_n 0, 1) := by decide +kernel
theorem dL_law_846 : decode cL_law 846 = .ok (.iload_n 3, 1) := by decide +kernel
theorem dL_law_847 : decode cL_law 847 = .ok (.iconst 2, 1) := by decide +kernel
theorem dL_law_848 : decode cL_law 848 = .ok (.iadd, 1) := by decide +kernel
theorem dL_law_849 : decode cL_law 849 = .ok (.iaload, 1) := by decide +kernel
theorem dL_law_850 : decode cL_law 850 = .ok (.invokevirtual 82, 3) := by decide +kernel
theorem dL_law_853 : decode cL_law 853 = .ok (.if_icmp .eq 829, 3) := by decide +kernel
theorem dL_law_856 : decode cL_law 856 = .ok (.iconst 0, 1) := by decide +kernel
theorem dL_law_857 : decode cL_law 857 = .ok (.ireturn, 1) := by decide +kernel
theorem dL_law_858 : decode cL_law 858 = .ok (.aload_n 1, 1) := by decide +kernel
theorem dL_law_859 : decode cL_law 859 = .ok (.aload_n 0, 1) := by decide +kernel
theorem dL_law_860 : decode cL_law 860 = .ok (.iload_n 3, 1) := by decide +kernel
theorem dL_law_861 : decode cL_law 861 = .ok (.iconst 1, 1) := by decide +kernel
theorem dL_law_862 : decode cL_law 862 = .ok (.iadd, 1) := by decide +kernel
theorem dL_law_863 : decode cL_law 863 = .ok (.iaload, 1) := by decide +kernel
theorem dL_law_864 : decode cL_law 864 = .ok (.invokevirtual 83, 3) := by decide +kernel
theorem dL_law_867 : decode cL_law 867 = .ok (.aload_n 2, 1) := by decide +kernel
theorem dL_law_868 : decode cL_law 868 = .ok (.aload_n 0, 1) := by decide +kernel
theorem dL_law_869 : decode cL_law 869 = .ok (.iload_n 3, 1) := by decide +kernel
theorem dL_law_870 : decode cL_law 870 = .ok (.iconst 1, 1) := by decide +kernel
theorem dL_law_871 : decode cL_law 871 = .ok (.iadd, 1) := by decide +kernel
theorem dL_law_872 : decode cL_law 872 = .ok (.iaload, 1) := by decide +kernel
theorem dL_law_873 : decode cL_law 873 = .ok (.invokevirtual 86, 3) := by decide +kernel
theorem dL_law_876 : decode cL_law 876 = .ok (.if_icmp .eq 806, 3) := by decide +kernel
theorem dL_law_879 : decode cL_law 879 = .ok (.iconst 0, 1) := by decide +kernel
theorem dL_law_880 : decode cL_law 880 = .ok (.ireturn, 1) := by decide +kernel
theorem dL_law_881 : decode cL_law 881 = .ok (.aload_n 1, 1) := by decide +kernel
theorem dL_law_882 : decode cL_law 882 = .ok (.aload_n 0, 1) := by decide +kernel
theorem dL_law_883 : decode cL_law 883 = .ok (.iload_n 3, 1) := by decide +kernel
theorem dL_law_884 : decode cL_law 884 = .ok (.iconst 1, 1) := by decide +kernel
theorem dL_law_885 : decode cL_law 885 = .ok (.iadd, 1) := by decide +kernel
theorem dL_law_886 : decode cL_law 886 = .ok (.iaload, 1) := by decide +kernel
theorem dL_law_887 : decode cL_law 887 = .ok (.invokevirtual 87, 3) := by decide +kernel
theorem dL_law_890 : decode cL_law 890 = .ok (.aload_n 2, 1) := by decide +kernel
theorem dL_law_891 : decode cL_law 891 = .ok (.aload_n 0, 1) := by decide +kernel
theorem dL_law_892 : decode cL_law 892 = .ok (.iload_n 3, 1) := by decide +kernel
theorem dL_law_893 : decode cL_law 893 = .ok (.iconst 1, 1) := by decide +kernel
theorem dL_law_894 : decode cL_law 894 = .ok (.iadd, 1) := by decide +kernel
theorem dL_law_895 : decode cL_law 895 = .ok (.iaload, 1) := by decide +kernel
theorem dL_law_896 : decode cL_law 896 = .ok (.invokevirtual 90, 3) := by decide +kernel
theorem dL_law_899 : decode cL_law 899 = .ok (.if_icmp .eq 783, 3) := by decide +kernel
theorem dL_law_902 : decode cL_law 902 = .ok (.iconst 0, 1) := by decide +kernel
theorem dL_law_903 : decode cL_law 903 = .ok (.ireturn, 1) := by decide +kernel
theorem dL_law_904 : decode cL_law 904 = .ok (.aload_n 1, 1) := by decide +kernel
theorem dL_law_905 : decode cL_law 905 = .ok (.invokevirtual 91, 3) := by decide +kernel
theorem dL_law_908 : decode cL_law 908 = .ok (.aload_n 2, 1) := by decide +kernel
theorem dL_law_909 : decode cL_law 909 = .ok (.invokevirtual 95, 3) := by decide +kernel
theorem dL_law_912 : decode cL_law 912 = .ok (.if_icmp .eq 770, 3) := by decide +kernel
theorem dL_law_915 : decode cL_law 915 = .ok (.iconst 0, 1) := by decide +kernel
theorem dL_law_916 : decode cL_law 916 = .ok (.ireturn, 1) := by decide +kernel
theorem dL_law_917 : decode cL_law 917 = .ok (.aload_n 1, 1) := by decide +kernel
theorem dL_law_918 : decode cL_law 918 = .ok (.aload_n 0, 1) := by decide +kernel
theorem dL_law_919 : decode cL_law 919 = .ok (.iload_n 3, 1) := by decide +kernel
theorem dL_law_920 : decode cL_law 920 = .ok (.iconst 1, 1) := by decide +kernel
theorem dL_law_921 : decode cL_law 921 = .ok (.iadd, 1) := by decide +kernel
theorem dL_law_922 : decode cL_law 922 = .ok (.iaload, 1) := by decide +kernel
theorem dL_law_923 : decode cL_law 923 = .ok (.aload_n 0, 1) := by decide +kernel
theorem dL_law_924 : decode cL_law 924 = .ok (.iload_n 3, 1) := by decide +kernel
theorem dL_law_925 : decode cL_law 925 = .ok (.iconst 2, 1) := by decide +kernel
theorem dL_law_926 : decode cL_law 926 = .ok (.iadd, 1) := by decide +kernel
theorem dL_law_927 : decode cL_law 927 = .ok (.iaload, 1) := by decide +kernel
theorem dL_law_928 : decode cL_law 928 = .ok (.invokevirtual 96, 3) := by decide +kernel
theorem dL_law_931 : decode cL_law 931 = .ok (.aload_n 2, 1) := by decide +kernel
theorem dL_law_932 : decode cL_law 932 = .ok (.aload_n 0, 1) := by decide +kernel
theorem dL_law_933 : decode cL_law 933 = .ok (.iload_n 3, 1) := by decide +kernel
theorem dL_law_934 : decode cL_law 934 = .ok (.iconst 1, 1) := by decide +kernel
theorem dL_law_935 : decode cL_law 935 = .ok (.iadd, 1) := by decide +kernel
theorem dL_law_936 : decode cL_law 936 = .ok (.iaload, 1) := by decide +kernel
theorem dL_law_937 : decode cL_law 937 = .ok (.aload_n 0, 1) := by decide +kernel
theorem dL_law_938 : decode cL_law 938 = .ok (.iload_n 3, 1) := by decide +kernel
theorem dL_law_939 : decode cL_law 939 = .ok (.iconst 2, 1) := by decide +kernel
theorem dL_law_940 : decode cL_law 940 = .ok (.iadd, 1) := by decide +kernel
theorem dL_law_941 : decode cL_law 941 = .ok (.iaload, 1) := by decide +kernel
theorem dL_law_942 : decode cL_law 942 = .ok (.invokevirtual 99, 3) := by decide +kernel
theorem dL_law_945 : decode cL_law 945 = .ok (.if_icmp .eq 737, 3) := by decide +kernel
theorem dL_law_948 : decode cL_law 948 = .ok (.iconst 0, 1) := by decide +kernel
theorem dL_law_949 : decode cL_law 949 = .ok (.ireturn, 1) := by decide +kernel
theorem dL_law_950 : decode cL_law 950 = .ok (.aload_n 1, 1) := by decide +kernel
theorem dL_law_951 : decode cL_law 951 = .ok (.aload_n 0, 1) := by decide +kernel
theorem dL_law_952 : decode cL_law 952 = .ok (.iload_n 3, 1) := by decide +kernel
theorem dL_law_953 : decode cL_law 953 = .ok (.iconst 1, 1) := by decide +kernel
theorem dL_law_954 : decode cL_law 954 = .ok (.iadd, 1) := by decide +kernel
theorem dL_law_955 : decode cL_law 955 = .ok (.iaload, 1) := by decide +kernel
theorem dL_law_956 : decode cL_law 956 = .ok (.aload_n 0, 1) := by decide +kernel
theorem dL_law_957 : decode cL_law 957 = .ok (.iload_n 3, 1) := by decide +kernel
theorem dL_law_958 : decode cL_law 958 = .ok (.iconst 2, 1) := by decide +kernel
theorem dL_law_959 : decode cL_law 959 = .ok (.iadd, 1) := by decide +kernel
theorem dL_law_960 : decode cL_law 960 = .ok (.iaload, 1) := by decide +kernel
theorem dL_law_961 : decode cL_law 961 = .ok (.aload_n 0, 1) := by decide +kernel
theorem dL_law_962 : decode cL_law 962 = .ok (.iload_n 3, 1) := by decide +kernel
theorem dL_law_963 : decode cL_law 963 = .ok (.iconst 3, 1) := by decide +kernel
theorem dL_law_964 : decode cL_law 964 = .ok (.iadd, 1) := by decide +kernel
theorem dL_law_965 : decode cL_law 965 = .ok (.iaload, 1) := by decide +kernel
theorem dL_law_966 : decode cL_law 966 = .ok (.aload_n 0, 1) := by decide +kernel
theorem dL_law_967 : decode cL_law 967 = .ok (.iload_n 3, 1) := by decide +kernel
theorem dL_law_968 : decode cL_law 968 = .ok (.iconst 4, 1) := by decide +kernel
theorem dL_law_969 : decode cL_law 969 = .ok (.iadd, 1) := by decide +kernel
theorem dL_law_970 : decode cL_law 970 = .ok (.iaload, 1) := by decide +kernel
theorem dL_law_971 : decode cL_law 971 = .ok (.invokevirtual 100, 3) := by decide +kernel
theorem dL_law_974 : decode cL_law 974 = .ok (.aload_n 2, 1) := by decide +kernel
theorem dL_law_975 : decode cL_law 975 = .ok (.aload_n 0, 1) := by decide +kernel
theorem dL_law_976 : decode cL_law 976 = .ok (.iload_n 3, 1) := by decide +kernel
theorem dL_law_977 : decode cL_law 977 = .ok (.iconst 1, 1) := by decide +kernel
theorem dL_law_978 : decode cL_law 978 = .ok (.iadd, 1) := by decide +kernel
theorem dL_law_979 : decode cL_law 979 = .ok (.iaload, 1) := by decide +kernel
theorem dL_law_980 : decode cL_law 980 = .ok (.aload_n 0, 1) := by decide +kernel
theorem dL_law_981 : decode cL_law 981 = .ok (.iload_n 3, 1) := by decide +kernel
theorem dL_law_982 : decode cL_law 982 = .ok (.iconst 2, 1) := by decide +kernel
theorem dL_law_983 : decode cL_law 983 = .ok (.iadd, 1) := by decide +kernel
theorem dL_law_984 : decode cL_law 984 = .ok (.iaload, 1) := by decide +kernel
theorem dL_law_985 : decode cL_law 985 = .ok (.aload_n 0, 1) := by decide +kernel
theorem dL_law_986 : decode cL_law 986 = .ok (.iload_n 3, 1) := by decide +kernel
theorem dL_law_987 : decode cL_law 987 = .ok (.iconst 3, 1) := by decide +kernel
theorem dL_law_988 : decode cL_law 988 = .ok (.iadd, 1) := by decide +kernel
theorem dL_law_989 : decode cL_law 989 = .ok (.iaload, 1) := by decide +kernel
theorem dL_law_990 : decode cL_law 990 = .ok (.aload_n 0, 1) := by decide +kernel
theorem dL_law_991 : decode cL_law 991 = .ok (.iload_n 3, 1) := by decide +kernel
theorem dL_law_992 : decode cL_law 992 = .ok (.iconst 4, 1) := by decide +kernel
theorem dL_law_993 : decode cL_law 993 = .ok (.iadd, 1) := by decide +kernel
theorem dL_law_994 : decode cL_law 994 = .ok (.iaload, 1) := by decide +kernel
theorem dL_law_995 : decode cL_law 995 = .ok (.invokevirtual 103, 3) := by decide +kernel
theorem dL_law_998 : decode cL_law 998 = .ok (.lcmp, 1) := by decide +kernel
theorem dL_law_999 : decode cL_law 999 = .ok (.ifCond .eq 683, 3) := by decide +kernel
theorem dL_law_1002 : decode cL_law 1002 = .ok (.iconst 0, 1) := by decide +kernel
theorem dL_law_1003 : decode cL_law 1003 = .ok (.ireturn, 1) := by decide +kernel
theorem dL_law_1004 : decode cL_law 1004 = .ok (.aload_n 1, 1) := by decide +kernel
theorem dL_law_1005 : decode cL_law 1005 = .ok (.aload_n 0, 1) := by decide +kernel
theorem dL_law_1006 : decode cL_law 1006 = .ok (.iload_n 3, 1) := by decide +kernel
theorem dL_law_1007 : decode cL_law 1007 = .ok (.iconst 1, 1) := by decide +kernel
theorem dL_law_1008 : decode cL_law 1008 = .ok (.iadd, 1) := by decide +kernel
theorem dL_law_1009 : decode cL_law 1009 = .ok (.iaload, 1) := by decide +kernel
theorem dL_law_1010 : decode cL_law 1010 = .ok (.aload_n 0, 1) := by decide +kernel
theorem dL_law_1011 : decode cL_law 1011 = .ok (.iload_n 3, 1) := by decide +kernel
theorem dL_law_1012 : decode cL_law 1012 = .ok (.iconst 2, 1) := by decide +kernel
theorem dL_law_1013 : decode cL_law 1013 = .ok (.iadd, 1) := by decide +kernel
theorem dL_law_1014 : decode cL_law 1014 = .ok (.iaload, 1) := by decide +kernel
theorem dL_law_1015 : decode cL_law 1015 = .ok (.aload_n 0, 1) := by decide +kernel
theorem dL_law_1016 : decode cL_law 1016 = .ok (.iload_n 3, 1) := by decide +kernel
theorem dL_law_1017 : decode cL_law 1017 = .ok (.iconst 3, 1) := by decide +kernel
theorem dL_law_1018 : decode cL_law 1018 = .ok (.iadd, 1) := by decide +kernel
theorem dL_law_1019 : decode cL_law 1019 = .ok (.iaload, 1) := by decide +kernel
theorem dL_law_1020 : decode cL_law 1020 = .ok (.invokevirtual 104, 3) := by decide +kernel
theorem dL_law_1023 : decode cL_law 1023 = .ok (.aload_n 2, 1) := by decide +kernel
theorem dL_law_1024 : decode cL_law 1024 = .ok (.aload_n 0, 1) := by decide +kernel
theorem dL_law_1025 : decode cL_law 1025 = .ok (.iload_n 3, 1) := by decide +kernel
theorem dL_law_1026 : decode cL_law 1026 = .ok (.iconst 1, 1) := by decide +kernel
theorem dL_law_1027 : decode cL_law 1027 = .ok (.iadd, 1) := by decide +kernel
theorem dL_law_1028 : decode cL_law 1028 = .ok (.iaload, 1) := by decide +kernel
theorem dL_law_1029 : decode cL_law 1029 = .ok (.aload_n 0, 1) := by decide +kernel
theorem dL_law_1030 : decode cL_law 1030 = .ok (.iload_n 3, 1) := by decide +kernel
theorem dL_law_1031 : decode cL_law 1031 = .ok (.iconst 2, 1) := by decide +kernel
theorem dL_law_1032 : decode cL_law 1032 = .ok (.iadd, 1) := by decide +kernel
theorem dL_law_1033 : decode cL_law 1033 = .ok (.iaload, 1) := by decide +kernel
theorem dL_law_1034 : decode cL_law 1034 = .ok (.aload_n 0, 1) := by decide +kernel
theorem dL_law_1035 : decode cL_law 1035 = .ok (.iload_n 3, 1) := by decide +kernel
theorem dL_law_1036 : decode cL_law 1036 = .ok (.iconst 3, 1) := by decide +kernel
theorem dL_law_1037 : decode cL_law 1037 = .ok (.iadd, 1) := by decide +kernel
theorem dL_law_1038 : decode cL_law 1038 = .ok (.iaload, 1) := by decide +kernel
theorem dL_law_1039 : decode cL_law 1039 = .ok (.invokevirtual 107, 3) := by decide +kernel
theorem dL_law_1042 : decode cL_law 1042 = .ok (.if_icmp .eq 640, 3) := by decide +kernel
theorem dL_law_1045 : decode cL_law 1045 = .ok (.iconst 0, 1) := by decide +kernel
theorem dL_law_1046 : decode cL_law 1046 = .ok (.ireturn, 1) := by decide +kernel
theorem dL_law_1047 : decode cL_law 1047 = .ok (.aload_n 1, 1) := by decide +kernel
theorem dL_law_1048 : decode cL_law 1048 = .ok (.aload_n 0, 1) := by decide +kernel
theorem dL_law_1049 : decode cL_law 1049 = .ok (.iload_n 3, 1) := by decide +kernel
theorem dL_law_1050 : decode cL_law 1050 = .ok (.iconst 1, 1) := by decide +kernel
theorem dL_law_1051 : decode cL_law 1051 = .ok (.iadd, 1) := by decide +kernel
theorem dL_law_1052 : decode cL_law 1052 = .ok (.iaload, 1) := by decide +kernel
theorem dL_law_1053 : decode cL_law 1053 = .ok (.aload_n 0, 1) := by decide +kernel
theorem dL_law_1054 : decode cL_law 1054 = .ok (.iload_n 3, 1) := by decide +kernel
theorem dL_law_1055 : decode cL_law 1055 = .ok (.iconst 2, 1) := by decide +kernel
theorem dL_law_1056 : decode cL_law 1056 = .ok (.iadd, 1) := by decide +kernel
theorem dL_law_1057 : decode cL_law 1057 = .ok (.iaload, 1) := by decide +kernel
theorem dL_law_1058 : decode cL_law 1058 = .ok (.invokevirtual 108, 3) := by decide +kernel
theorem dL_law_1061 : decode cL_law 1061 = .ok (.aload_n 2, 1) := by decide +kernel
theorem dL_law_1062 : decode cL_law 1062 = .ok (.aload_n 0, 1) := by decide +kernel
theorem dL_law_1063 : decode cL_law 1063 = .ok (.iload_n 3, 1) := by decide +kernel
theorem dL_law_1064 : decode cL_law 1064 = .ok (.iconst 1, 1) := by decide +kernel
theorem dL_law_1065 : decode cL_law 1065 = .ok (.iadd, 1) := by decide +kernel
theorem dL_law_1066 : decode cL_law 1066 = .ok (.iaload, 1) := by decide +kernel
theorem dL_law_1067 : decode cL_law 1067 = .ok (.aload_n 0, 1) := by decide +kernel
theorem dL_law_1068 : decode cL_law 1068 = .ok (.iload_n 3, 1) := by decide +kernel
theorem dL_law_1069 : decode cL_law 1069 = .ok (.iconst 2, 1) := by decide +kernel
theorem dL_law_1070 : decode cL_law 1070 = .ok (.iadd, 1) := by decide +kernel
theorem dL_law_1071 : decode cL_law 1071 = .ok (.iaload, 1) := by decide +kernel
theorem dL_law_1072 : decode cL_law 1072 = .ok (.invokevirtual 111, 3) := by decide +kernel
theorem dL_law_1075 : decode cL_law 1075 = .ok (.if_icmp .eq 607, 3) := by decide +kernel
theorem dL_law_1078 : decode cL_law 1078 = .ok (.iconst 0, 1) := by decide +kernel
theorem dL_law_1079 : decode cL_law 1079 = .ok (.ireturn, 1) := by decide +kernel
theorem dL_law_1080 : decode cL_law 1080 = .ok (.aload_n 1, 1) := by decide +kernel
theorem dL_law_1081 : decode cL_law 1081 = .ok (.aload_n 0, 1) := by decide +kernel
theorem dL_law_1082 : decode cL_law 1082 = .ok (.iload_n 3, 1) := by decide +kernel
theorem dL_law_1083 : decode cL_law 1083 = .ok (.iconst 1, 1) := by decide +kernel
theorem dL_law_1084 : decode cL_law 1084 = .ok (.iadd, 1) := by decide +kernel
theorem dL_law_1085 : decode cL_law 1085 = .ok (.iaload, 1) := by decide +kernel
theorem dL_law_1086 : decode cL_law 1086 = .ok (.aload_n 0, 1) := by decide +kernel
theorem dL_law_1087 : decode cL_law 1087 = .ok (.iload_n 3, 1) := by decide +kernel
theorem dL_law_1088 : decode cL_law 1088 = .ok (.iconst 2, 1) := by decide +kernel
theorem dL_law_1089 : decode cL_law 1089 = .ok (.iadd, 1) := by decide +kernel
theorem dL_law_1090 : decode cL_law 1090 = .ok (.iaload, 1) := by decide +kernel
theorem dL_law_1091 : decode cL_law 1091 = .ok (.invokevirtual 112, 3) := by decide +kernel
theorem dL_law_1094 : decode cL_law 1094 = .ok (.aload_n 2, 1) := by decide +kernel
theorem dL_law_1095 : decode cL_law 1095 = .ok (.aload_n 0, 1) := by decide +kernel
theorem dL_law_1096 : decode cL_law 1096 = .ok (.iload_n 3, 1) := by decide +kernel
theorem dL_law_1097 : decode cL_law 1097 = .ok (.iconst 1, 1) := by decide +kernel
theorem dL_law_1098 : decode cL_law 1098 = .ok (.iadd, 1) := by decide +kernel
theorem dL_law_1099 : decode cL_law 1099 = .ok (.iaload, 1) := by decide +kernel
theorem dL_law_1100 : decode cL_law 1100 = .ok (.aload_n 0, 1) := by decide +kernel
theorem dL_law_1101 : decode cL_law 1101 = .ok (.iload_n 3, 1) := by decide +kernel
theorem dL_law_1102 : decode cL_law 1102 = .ok (.iconst 2, 1) := by decide +kernel
theorem dL_law_1103 : decode cL_law 1103 = .ok (.iadd, 1) := by decide +kernel
theorem dL_law_1104 : decode cL_law 1104 = .ok (.iaload, 1) := by decide +kernel
theorem dL_law_1105 : decode cL_law 1105 = .ok (.invokevirtual 115, 3) := by decide +kernel
theorem dL_law_1108 : decode cL_law 1108 = .ok (.if_icmp .eq 574, 3) := by decide +kernel
theorem dL_law_1111 : decode cL_law 1111 = .ok (.iconst 0, 1) := by decide +kernel
theorem dL_law_1112 : decode cL_law 1112 = .ok (.ireturn, 1) := by decide +kernel
theorem dL_law_1113 : decode cL_law 1113 = .ok (.aload_n 1, 1) := by decide +kernel
theorem dL_law_1114 : decode cL_law 1114 = .ok (.aload_n 0, 1) := by decide +kernel
theorem dL_law_1115 : decode cL_law 1115 = .ok (.iload_n 3, 1) := by decide +kernel
theorem dL_law_1116 : decode cL_law 1116 = .ok (.iconst 1, 1) := by decide +kernel
theorem dL_law_1117 : decode cL_law 1117 = .ok (.iadd, 1) := by decide +kernel
theorem dL_law_1118 : decode cL_law 1118 = .ok (.iaload, 1) := by decide +kernel
theorem dL_law_1119 : decode cL_law 1119 = .ok (.invokevirtual 116, 3) := by decide +kernel
theorem dL_law_1122 : decode cL_law 1122 = .ok (.aload_n 2, 1) := by decide +kernel
theorem dL_law_1123 : decode cL_law 1123 = .ok (.aload_n 0, 1) := by decide +kernel
theorem dL_law_1124 : decode cL_law 1124 = .ok (.iload_n 3, 1) := by decide +kernel
theorem dL_law_1125 : decode cL_law 1125 = .ok (.iconst 1, 1) := by decide +kernel
theorem dL_law_1126 : decode cL_law 1126 = .ok (.iadd, 1) := by decide +kernel
theorem dL_law_1127 : decode cL_law 1127 = .ok (.iaload, 1) := by decide +kernel
theorem dL_law_1128 : decode cL_law 1128 = .ok (.invokevirtual 119, 3) := by decide +kernel
theorem dL_law_1131 : decode cL_law 1131 = .ok (.if_icmp .eq 551, 3) := by decide +kernel
theorem dL_law_1134 : decode cL_law 1134 = .ok (.iconst 0, 1) := by decide +kernel
theorem dL_law_1135 : decode cL_law 1135 = .ok (.ireturn, 1) := by decide +kernel
theorem dL_law_1136 : decode cL_law 1136 = .ok (.aload_n 1, 1) := by decide +kernel
theorem dL_law_1137 : decode cL_law 1137 = .ok (.aload_n 0, 1) := by decide +kernel
theorem dL_law_1138 : decode cL_law 1138 = .ok (.iload_n 3, 1) := by decide +kernel
theorem dL_law_1139 : decode cL_law 1139 = .ok (.iconst 1, 1) := by decide +kernel
theorem dL_law_1140 : decode cL_law 1140 = .ok (.iadd, 1) := by decide +kernel
theorem dL_law_1141 : decode cL_law 1141 = .ok (.iaload, 1) := by decide +kernel
theorem dL_law_1142 : decode cL_law 1142 = .ok (.aload_n 0, 1) := by decide +kernel
theorem dL_law_1143 : decode cL_law 1143 = .ok (.iload_n 3, 1) := by decide +kernel
theorem dL_law_1144 : decode cL_law 1144 = .ok (.iconst 2, 1) := by decide +kernel
theorem dL_law_1145 : decode cL_law 1145 = .ok (.iadd, 1) := by decide +kernel
theorem dL_law_1146 : decode cL_law 1146 = .ok (.iaload, 1) := by decide +kernel
theorem dL_law_1147 : decode cL_law 1147 = .ok (.invokevirtual 120, 3) := by decide +kernel
theorem dL_law_1150 : decode cL_law 1150 = .ok (.aload_n 2, 1) := by decide +kernel
theorem dL_law_1151 : decode cL_law 1151 = .ok (.aload_n 0, 1) := by decide +kernel
theorem dL_law_1152 : decode cL_law 1152 = .ok (.iload_n 3, 1) := by decide +kernel
theorem dL_law_1153 : decode cL_law 1153 = .ok (.iconst 1, 1) := by decide +kernel
theorem dL_law_1154 : decode cL_law 1154 = .ok (.iadd, 1) := by decide +kernel
theorem dL_law_1155 : decode cL_law 1155 = .ok (.iaload, 1) := by decide +kernel
theorem dL_law_1156 : decode cL_law 1156 = .ok (.aload_n 0, 1) := by decide +kernel
theorem dL_law_1157 : decode cL_law 1157 = .ok (.iload_n 3, 1) := by decide +kernel
theorem dL_law_1158 : decode cL_law 1158 = .ok (.iconst 2, 1) := by decide +kernel
theorem dL_law_1159 : decode cL_law 1159 = .ok (.iadd, 1) := by decide +kernel
theorem dL_law_1160 : decode cL_law 1160 = .ok (.iaload, 1) := by decide +kernel
theorem dL_law_1161 : decode cL_law 1161 = .ok (.invokevirtual 123, 3) := by decide +kernel
theorem dL_law_1164 : decode cL_law 1164 = .ok (.if_icmp .eq 518, 3) := by decide +kernel
theorem dL_law_1167 : decode cL_law 1167 = .ok (.iconst 0, 1) := by decide +kernel
theorem dL_law_1168 : decode cL_law 1168 = .ok (.ireturn, 1) := by decide +kernel
theorem dL_law_1169 : decode cL_law 1169 = .ok (.aload_n 1, 1) := by decide +kernel
theorem dL_law_1170 : decode cL_law 1170 = .ok (.aload_n 0, 1) := by decide +kernel
theorem dL_law_1171 : decode cL_law 1171 = .ok (.iload_n 3, 1) := by decide +kernel
theorem dL_law_1172 : decode cL_law 1172 = .ok (.iconst 1, 1) := by decide +kernel
theorem dL_law_1173 : decode cL_law 1173 = .ok (.iadd, 1) := by decide +kernel
theorem dL_law_1174 : decode cL_law 1174 = .ok (.iaload, 1) := by decide +kernel
theorem dL_law_1175 : decode cL_law 1175 = .ok (.aload_n 0, 1) := by decide +kernel
theorem dL_law_1176 : decode cL_law 1176 = .ok (.iload_n 3, 1) := by decide +kernel
theorem dL_law_1177 : decode cL_law 1177 = .ok (.iconst 2, 1) := by decide +kernel
theorem dL_law_1178 : decode cL_law 1178 = .ok (.iadd, 1) := by decide +kernel
theorem dL_law_1179 : decode cL_law 1179 = .ok (.iaload, 1) := by decide +kernel
theorem dL_law_1180 : decode cL_law 1180 = .ok (.aload_n 0, 1) := by decide +kernel
theorem dL_law_1181 : decode cL_law 1181 = .ok (.iload_n 3, 1) := by decide +kernel
theorem dL_law_1182 : decode cL_law 1182 = .ok (.iconst 3, 1) := by decide +kernel
theorem dL_law_1183 : decode cL_law 1183 = .ok (.iadd, 1) := by decide +kernel
theorem dL_law_1184 : decode cL_law 1184 = .ok (.iaload, 1) := by decide +kernel
theorem dL_law_1185 : decode cL_law 1185 = .ok (.invokevirtual 124, 3) := by decide +kernel
theorem dL_law_1188 : decode cL_law 1188 = .ok (.aload_n 2, 1) := by decide +kernel
theorem dL_law_1189 : decode cL_law 1189 = .ok (.aload_n 0, 1) := by decide +kernel
theorem dL_law_1190 : decode cL_law 1190 = .ok (.iload_n 3, 1) := by decide +kernel
theorem dL_law_1191 : decode cL_law 1191 = .ok (.iconst 1, 1) := by decide +kernel
theorem dL_law_1192 : decode cL_law 1192 = .ok (.iadd, 1) := by decide +kernel
theorem dL_law_1193 : decode cL_law 1193 = .ok (.iaload, 1) := by decide +kernel
theorem dL_law_1194 : decode cL_law 1194 = .ok (.aload_n 0, 1) := by decide +kernel
theorem dL_law_1195 : decode cL_law 1195 = .ok (.iload_n 3, 1) := by decide +kernel
theorem dL_law_1196 : decode cL_law 1196 = .ok (.iconst 2, 1) := by decide +kernel
theorem dL_law_1197 : decode cL_law 1197 = .ok (.iadd, 1) := by decide +kernel
theorem dL_law_1198 : decode cL_law 1198 = .ok (.iaload, 1) := by decide +kernel
theorem dL_law_1199 : decode cL_law 1199 = .ok (.aload_n 0, 1) := by decide +kernel
theorem dL_law_1200 : decode cL_law 1200 = .ok (.iload_n 3, 1) := by decide +kernel
theorem dL_law_1201 : decode cL_law 1201 = .ok (.iconst 3, 1) := by decide +kernel
theorem dL_law_1202 : decode cL_law 1202 = .ok (.iadd, 1) := by decide +kernel
theorem dL_law_1203 : decode cL_law 1203 = .ok (.iaload, 1) := by decide +kernel
theorem dL_law_1204 : decode cL_law 1204 = .ok (.invokevirtual 127, 3) := by decide +kernel
theorem dL_law_1207 : decode cL_law 1207 = .ok (.if_icmp .eq 475, 3) := by decide +kernel
theorem dL_law_1210 : decode cL_law 1210 = .ok (.iconst 0, 1) := by decide +kernel
theorem dL_law_1211 : decode cL_law 1211 = .ok (.ireturn, 1) := by decide +kernel
theorem dL_law_1212 : decode cL_law 1212 = .ok (.aload_n 1, 1) := by decide +kernel
theorem dL_law_1213 : decode cL_law 1213 = .ok (.aload_n 0, 1) := by decide +kernel
theorem dL_law_1214 : decode cL_law 1214 = .ok (.iload_n 3, 1) := by decide +kernel
theorem dL_law_1215 : decode cL_law 1215 = .ok (.iconst 1, 1) := by decide +kernel
theorem dL_law_1216 : decode cL_law 1216 = .ok (.iadd, 1) := by decide +kernel
theorem dL_law_1217 : decode cL_law 1217 = .ok (.iaload, 1) := by decide +kernel
theorem dL_law_1218 : decode cL_law 1218 = .ok (.aload_n 0, 1) := by decide +kernel
theorem dL_law_1219 : decode cL_law 1219 = .ok (.iload_n 3, 1) := by decide +kernel
theorem dL_law_1220 : decode cL_law 1220 = .ok (.iconst 2, 1) := by decide +kernel
theorem dL_law_1221 : decode cL_law 1221 = .ok (.iadd, 1) := by decide +kernel
theorem dL_law_1222 : decode cL_law 1222 = .ok (.iaload, 1) := by decide +kernel
theorem dL_law_1223 : decode cL_law 1223 = .ok (.invokevirtual 128, 3) := by decide +kernel
theorem dL_law_1226 : decode cL_law 1226 = .ok (.aload_n 2, 1) := by decide +kernel
theorem dL_law_1227 : decode cL_law 1227 = .ok (.aload_n 0, 1) := by decide +kernel
theorem dL_law_1228 : decode cL_law 1228 = .ok (.iload_n 3, 1) := by decide +kernel
theorem dL_law_1229 : decode cL_law 1229 = .ok (.iconst 1, 1) := by decide +kernel
theorem dL_law_1230 : decode cL_law 1230 = .ok (.iadd, 1) := by decide +kernel
theorem dL_law_1231 : decode cL_law 1231 = .ok (.iaload, 1) := by decide +kernel
theorem dL_law_1232 : decode cL_law 1232 = .ok (.aload_n 0, 1) := by decide +kernel
theorem dL_law_1233 : decode cL_law 1233 = .ok (.iload_n 3, 1) := by decide +kernel
theorem dL_law_1234 : decode cL_law 1234 = .ok (.iconst 2, 1) := by decide +kernel
theorem dL_law_1235 : decode cL_law 1235 = .ok (.iadd, 1) := by decide +kernel
theorem dL_law_1236 : decode cL_law 1236 = .ok (.iaload, 1) := by decide +kernel
theorem dL_law_1237 : decode cL_law 1237 = .ok (.invokevirtual 131, 3) := by decide +kernel
theorem dL_law_1240 : decode cL_law 1240 = .ok (.if_icmp .eq 442, 3) := by decide +kernel
theorem dL_law_1243 : decode cL_law 1243 = .ok (.iconst 0, 1) := by decide +kernel
theorem dL_law_1244 : decode cL_law 1244 = .ok (.ireturn, 1) := by decide +kernel
theorem dL_law_1245 : decode cL_law 1245 = .ok (.aload_n 1, 1) := by decide +kernel
theorem dL_law_1246 : decode cL_law 1246 = .ok (.aload_n 0, 1) := by decide +kernel
theorem dL_law_1247 : decode cL_law 1247 = .ok (.iload_n 3, 1) := by decide +kernel
theorem dL_law_1248 : decode cL_law 1248 = .ok (.iconst 1, 1) := by decide +kernel
theorem dL_law_1249 : decode cL_law 1249 = .ok (.iadd, 1) := by decide +kernel
theorem dL_law_1250 : decode cL_law 1250 = .ok (.iaload, 1) := by decide +kernel
theorem dL_law_1251 : decode cL_law 1251 = .ok (.aload_n 0, 1) := by decide +kernel
theorem dL_law_1252 : decode cL_law 1252 = .ok (.iload_n 3, 1) := by decide +kernel
theorem dL_law_1253 : decode cL_law 1253 = .ok (.iconst 2, 1) := by decide +kernel
theorem dL_law_1254 : decode cL_law 1254 = .ok (.iadd, 1) := by decide +kernel
theorem dL_law_1255 : decode cL_law 1255 = .ok (.iaload, 1) := by decide +kernel
theorem dL_law_1256 : decode cL_law 1256 = .ok (.aload_n 0, 1) := by decide +kernel
theorem dL_law_1257 : decode cL_law 1257 = .ok (.iload_n 3, 1) := by decide +kernel
theorem dL_law_1258 : decode cL_law 1258 = .ok (.iconst 3, 1) := by decide +kernel
theorem dL_law_1259 : decode cL_law 1259 = .ok (.iadd, 1) := by decide +kernel
theorem dL_law_1260 : decode cL_law 1260 = .ok (.iaload, 1) := by decide +kernel
theorem dL_law_1261 : decode cL_law 1261 = .ok (.invokevirtual 132, 3) := by decide +kernel
theorem dL_law_1264 : decode cL_law 1264 = .ok (.aload_n 2, 1) := by decide +kernel
theorem dL_law_1265 : decode cL_law 1265 = .ok (.aload_n 0, 1) := by decide +kernel
theorem dL_law_1266 : decode cL_law 1266 = .ok (.iload_n 3, 1) := by decide +kernel
theorem dL_law_1267 : decode cL_law 1267 = .ok (.iconst 1, 1) := by decide +kernel
theorem dL_law_1268 : decode cL_law 1268 = .ok (.iadd, 1) := by decide +kernel
theorem dL_law_1269 : decode cL_law 1269 = .ok (.iaload, 1) := by decide +kernel
theorem dL_law_1270 : decode cL_law 1270 = .ok (.aload_n 0, 1) := by decide +kernel
theorem dL_law_1271 : decode cL_law 1271 = .ok (.iload_n 3, 1) := by decide +kernel
theorem dL_law_1272 : decode cL_law 1272 = .ok (.iconst 2, 1) := by decide +kernel
theorem dL_law_1273 : decode cL_law 1273 = .ok (.iadd, 1) := by decide +kernel
theorem dL_law_1274 : decode cL_law 1274 = .ok (.iaload, 1) := by decide +kernel
theorem dL_law_1275 : decode cL_law 1275 = .ok (.aload_n 0, 1) := by decide +kernel
theorem dL_law_1276 : decode cL_law 1276 = .ok (.iload_n 3, 1) := by decide +kernel
theorem dL_law_1277 : decode cL_law 1277 = .ok (.iconst 3, 1) := by decide +kernel
theorem dL_law_1278 : decode cL_law 1278 = .ok (.iadd, 1) := by decide +kernel
theorem dL_law_1279 : decode cL_law 1279 = .ok (.iaload, 1) := by decide +kernel
theorem dL_law_1280 : decode cL_law 1280 = .ok (.invokevirtual 135, 3) := by decide +kernel
theorem dL_law_1283 : decode cL_law 1283 = .ok (.if_icmp .eq 399, 3) := by decide +kernel
theorem dL_law_1286 : decode cL_law 1286 = .ok (.iconst 0, 1) := by decide +kernel
theorem dL_law_1287 : decode cL_law 1287 = .ok (.ireturn, 1) := by decide +kernel
theorem dL_law_1288 : decode cL_law 1288 = .ok (.aload_n 1, 1) := by decide +kernel
theorem dL_law_1289 : decode cL_law 1289 = .ok (.aload_n 0, 1) := by decide +kernel
theorem dL_law_1290 : decode cL_law 1290 = .ok (.iload_n 3, 1) := by decide +kernel
theorem dL_law_1291 : decode cL_law 1291 = .ok (.iconst 1, 1) := by decide +kernel
theorem dL_law_1292 : decode cL_law 1292 = .ok (.iadd, 1) := by decide +kernel
theorem dL_law_1293 : decode cL_law 1293 = .ok (.iaload, 1) := by decide +kernel
theorem dL_law_1294 : decode cL_law 1294 = .ok (.aload_n 0, 1) := by decide +kernel
theorem dL_law_1295 : decode cL_law 1295 = .ok (.iload_n 3, 1) := by decide +kernel
theorem dL_law_1296 : decode cL_law 1296 = .ok (.iconst 2, 1) := by decide +kernel
theorem dL_law_1297 : decode cL_law 1297 = .ok (.iadd, 1) := by decide +kernel
theorem dL_law_1298 : decode cL_law 1298 = .ok (.iaload, 1) := by decide +kernel
theorem dL_law_1299 : decode cL_law 1299 = .ok (.invokevirtual 136, 3) := by decide +kernel
theorem dL_law_1302 : decode cL_law 1302 = .ok (.aload_n 2, 1) := by decide +kernel
theorem dL_law_1303 : decode cL_law 1303 = .ok (.aload_n 0, 1) := by decide +kernel
theorem dL_law_1304 : decode cL_law 1304 = .ok (.iload_n 3, 1) := by decide +kernel
theorem dL_law_1305 : decode cL_law 1305 = .ok (.iconst 1, 1) := by decide +kernel
theorem dL_law_1306 : decode cL_law 1306 = .ok (.iadd, 1) := by decide +kernel
theorem dL_law_1307 : decode cL_law 1307 = .ok (.iaload, 1) := by decide +kernel
theorem dL_law_1308 : decode cL_law 1308 = .ok (.aload_n 0, 1) := by decide +kernel
theorem dL_law_1309 : decode cL_law 1309 = .ok (.iload_n 3, 1) := by decide +kernel
theorem dL_law_1310 : decode cL_law 1310 = .ok (.iconst 2, 1) := by decide +kernel
theorem dL_law_1311 : decode cL_law 1311 = .ok (.iadd, 1) := by decide +kernel
theorem dL_law_1312 : decode cL_law 1312 = .ok (.iaload, 1) := by decide +kernel
theorem dL_law_1313 : decode cL_law 1313 = .ok (.invokevirtual 139, 3) := by decide +kernel
theorem dL_law_1316 : decode cL_law 1316 = .ok (.if_icmp .eq 366, 3) := by decide +kernel
theorem dL_law_1319 : decode cL_law 1319 = .ok (.iconst 0, 1) := by decide +kernel
theorem dL_law_1320 : decode cL_law 1320 = .ok (.ireturn, 1) := by decide +kernel
theorem dL_law_1321 : decode cL_law 1321 = .ok (.aload_n 1, 1) := by decide +kernel
theorem dL_law_1322 : decode cL_law 1322 = .ok (.aload_n 0, 1) := by decide +kernel
theorem dL_law_1323 : decode cL_law 1323 = .ok (.iload_n 3, 1) := by decide +kernel
theorem dL_law_1324 : decode cL_law 1324 = .ok (.iconst 1, 1) := by decide +kernel
theorem dL_law_1325 : decode cL_law 1325 = .ok (.iadd, 1) := by decide +kernel
theorem dL_law_1326 : decode cL_law 1326 = .ok (.iaload, 1) := by decide +kernel
theorem dL_law_1327 : decode cL_law 1327 = .ok (.invokevirtual 140, 3) := by decide +kernel
theorem dL_law_1330 : decode cL_law 1330 = .ok (.aload_n 2, 1) := by decide +kernel
theorem dL_law_1331 : decode cL_law 1331 = .ok (.aload_n 0, 1) := by decide +kernel
theorem dL_law_1332 : decode cL_law 1332 = .ok (.iload_n 3, 1) := by decide +kernel
theorem dL_law_1333 : decode cL_law 1333 = .ok (.iconst 1, 1) := by decide +kernel
theorem dL_law_1334 : decode cL_law 1334 = .ok (.iadd, 1) := by decide +kernel
theorem dL_law_1335 : decode cL_law 1335 = .ok (.iaload, 1) := by decide +kernel
theorem dL_law_1336 : decode cL_law 1336 = .ok (.invokevirtual 143, 3) := by decide +kernel
theorem dL_law_1339 : decode cL_law 1339 = .ok (.if_icmp .eq 343, 3) := by decide +kernel
theorem dL_law_1342 : decode cL_law 1342 = .ok (.iconst 0, 1) := by decide +kernel
theorem dL_law_1343 : decode cL_law 1343 = .ok (.ireturn, 1) := by decide +kernel
theorem dL_law_1344 : decode cL_law 1344 = .ok (.aload_n 1, 1) := by decide +kernel
theorem dL_law_1345 : decode cL_law 1345 = .ok (.aload_n 0, 1) := by decide +kernel
theorem dL_law_1346 : decode cL_law 1346 = .ok (.iload_n 3, 1) := by decide +kernel
theorem dL_law_1347 : decode cL_law 1347 = .ok (.iconst 1, 1) := by decide +kernel
theorem dL_law_1348 : decode cL_law 1348 = .ok (.iadd, 1) := by decide +kernel
theorem dL_law_1349 : decode cL_law 1349 = .ok (.iaload, 1) := by decide +kernel
theorem dL_law_1350 : decode cL_law 1350 = .ok (.aload_n 0, 1) := by decide +kernel
theorem dL_law_1351 : decode cL_law 1351 = .ok (.iload_n 3, 1) := by decide +kernel
theorem dL_law_1352 : decode cL_law 1352 = .ok (.iconst 2, 1) := by decide +kernel
theorem dL_law_1353 : decode cL_law 1353 = .ok (.iadd, 1) := by decide +kernel
theorem dL_law_1354 : decode cL_law 1354 = .ok (.iaload, 1) := by decide +kernel
theorem dL_law_1355 : decode cL_law 1355 = .ok (.invokevirtual 144, 3) := by decide +kernel
theorem dL_law_1358 : decode cL_law 1358 = .ok (.aload_n 2, 1) := by decide +kernel
theorem dL_law_1359 : decode cL_law 1359 = .ok (.aload_n 0, 1) := by decide +kernel
theorem dL_law_1360 : decode cL_law 1360 = .ok (.iload_n 3, 1) := by decide +kernel
theorem dL_law_1361 : decode cL_law 1361 = .ok (.iconst 1, 1) := by decide +kernel
theorem dL_law_1362 : decode cL_law 1362 = .ok (.iadd, 1) := by decide +kernel
theorem dL_law_1363 : decode cL_law 1363 = .ok (.iaload, 1) := by decide +kernel
theorem dL_law_1364 : decode cL_law 1364 = .ok (.aload_n 0, 1) := by decide +kernel
theorem dL_law_1365 : decode cL_law 1365 = .ok (.iload_n 3, 1) := by decide +kernel
theorem dL_law_1366 : decode cL_law 1366 = .ok (.iconst 2, 1) := by decide +kernel
theorem dL_law_1367 : decode cL_law 1367 = .ok (.iadd, 1) := by decide +kernel
theorem dL_law_1368 : decode cL_law 1368 = .ok (.iaload, 1) := by decide +kernel
theorem dL_law_1369 : decode cL_law 1369 = .ok (.invokevirtual 147, 3) := by decide +kernel
theorem dL_law_1372 : decode cL_law 1372 = .ok (.if_icmp .eq 310, 3) := by decide +kernel
theorem dL_law_1375 : decode cL_law 1375 = .ok (.iconst 0, 1) := by decide +kernel
theorem dL_law_1376 : decode cL_law 1376 = .ok (.ireturn, 1) := by decide +kernel
theorem dL_law_1377 : decode cL_law 1377 = .ok (.aload_n 1, 1) := by decide +kernel
theorem dL_law_1378 : decode cL_law 1378 = .ok (.aload_n 0, 1) := by decide +kernel
theorem dL_law_1379 : decode cL_law 1379 = .ok (.iload_n 3, 1) := by decide +kernel
theorem dL_law_1380 : decode cL_law 1380 = .ok (.iconst 1, 1) := by decide +kernel
theorem dL_law_1381 : decode cL_law 1381 = .ok (.iadd, 1) := by decide +kernel
theorem dL_law_1382 : decode cL_law 1382 = .ok (.iaload, 1) := by decide +kernel
theorem dL_law_1383 : decode cL_law 1383 = .ok (.aload_n 0, 1) := by decide +kernel
theorem dL_law_1384 : decode cL_law 1384 = .ok (.iload_n 3, 1) := by decide +kernel
theorem dL_law_1385 : decode cL_law 1385 = .ok (.iconst 2, 1) := by decide +kernel
theorem dL_law_1386 : decode cL_law 1386 = .ok (.iadd, 1) := by decide +kernel
theorem dL_law_1387 : decode cL_law 1387 = .ok (.iaload, 1) := by decide +kernel
theorem dL_law_1388 : decode cL_law 1388 = .ok (.aload_n 0, 1) := by decide +kernel
theorem dL_law_1389 : decode cL_law 1389 = .ok (.iload_n 3, 1) := by decide +kernel
theorem dL_law_1390 : decode cL_law 1390 = .ok (.iconst 3, 1) := by decide +kernel
theorem dL_law_1391 : decode cL_law 1391 = .ok (.iadd, 1) := by decide +kernel
theorem dL_law_1392 : decode cL_law 1392 = .ok (.iaload, 1) := by decide +kernel
theorem dL_law_1393 : decode cL_law 1393 = .ok (.invokevirtual 148, 3) := by decide +kernel
theorem dL_law_1396 : decode cL_law 1396 = .ok (.aload_n 2, 1) := by decide +kernel
theorem dL_law_1397 : decode cL_law 1397 = .ok (.aload_n 0, 1) := by decide +kernel
theorem dL_law_1398 : decode cL_law 1398 = .ok (.iload_n 3, 1) := by decide +kernel
theorem dL_law_1399 : decode cL_law 1399 = .ok (.iconst 1, 1) := by decide +kernel
theorem dL_law_1400 : decode cL_law 1400 = .ok (.iadd, 1) := by decide +kernel
theorem dL_law_1401 : decode cL_law 1401 = .ok (.iaload, 1) := by decide +kernel
theorem dL_law_1402 : decode cL_law 1402 = .ok (.aload_n 0, 1) := by decide +kernel
theorem dL_law_1403 : decode cL_law 1403 = .ok (.iload_n 3, 1) := by decide +kernel
theorem dL_law_1404 : decode cL_law 1404 = .ok (.iconst 2, 1) := by decide +kernel
theorem dL_law_1405 : decode cL_law 1405 = .ok (.iadd, 1) := by decide +kernel
theorem dL_law_1406 : decode cL_law 1406 = .ok (.iaload, 1) := by decide +kernel
theorem dL_law_1407 : decode cL_law 1407 = .ok (.aload_n 0, 1) := by decide +kernel
theorem dL_law_1408 : decode cL_law 1408 = .ok (.iload_n 3, 1) := by decide +kernel
theorem dL_law_1409 : decode cL_law 1409 = .ok (.iconst 3, 1) := by decide +kernel
theorem dL_law_1410 : decode cL_law 1410 = .ok (.iadd, 1) := by decide +kernel
theorem dL_law_1411 : decode cL_law 1411 = .ok (.iaload, 1) := by decide +kernel
theorem dL_law_1412 : decode cL_law 1412 = .ok (.invokevirtual 151, 3) := by decide +kernel
theorem dL_law_1415 : decode cL_law 1415 = .ok (.if_icmp .eq 267, 3) := by decide +kernel
theorem dL_law_1418 : decode cL_law 1418 = .ok (.iconst 0, 1) := by decide +kernel
theorem dL_law_1419 : decode cL_law 1419 = .ok (.ireturn, 1) := by decide +kernel
theorem dL_law_1420 : decode cL_law 1420 = .ok (.aload_n 1, 1) := by decide +kernel
theorem dL_law_1421 : decode cL_law 1421 = .ok (.aload_n 0, 1) := by decide +kernel
theorem dL_law_1422 : decode cL_law 1422 = .ok (.iload_n 3, 1) := by decide +kernel
theorem dL_law_1423 : decode cL_law 1423 = .ok (.iconst 1, 1) := by decide +kernel
theorem dL_law_1424 : decode cL_law 1424 = .ok (.iadd, 1) := by decide +kernel
theorem dL_law_1425 : decode cL_law 1425 = .ok (.iaload, 1) := by decide +kernel
theorem dL_law_1426 : decode cL_law 1426 = .ok (.invokevirtual 152, 3) := by decide +kernel
theorem dL_law_1429 : decode cL_law 1429 = .ok (.aload_n 2, 1) := by decide +kernel
theorem dL_law_1430 : decode cL_law 1430 = .ok (.aload_n 0, 1) := by decide +kernel
theorem dL_law_1431 : decode cL_law 1431 = .ok (.iload_n 3, 1) := by decide +kernel
theorem dL_law_1432 : decode cL_law 1432 = .ok (.iconst 1, 1) := by decide +kernel
theorem dL_law_1433 : decode cL_law 1433 = .ok (.iadd, 1) := by decide +kernel
theorem dL_law_1434 : decode cL_law 1434 = .ok (.iaload, 1) := by decide +kernel
theorem dL_law_1435 : decode cL_law 1435 = .ok (.invokevirtual 155, 3) := by decide +kernel
theorem dL_law_1438 : decode cL_law 1438 = .ok (.if_icmp .eq 244, 3) := by decide +kernel
theorem dL_law_1441 : decode cL_law 1441 = .ok (.iconst 0, 1) := by decide +kernel
theorem dL_law_1442 : decode cL_law 1442 = .ok (.ireturn, 1) := by decide +kernel
theorem dL_law_1443 : decode cL_law 1443 = .ok (.aload_n 1, 1) := by decide +kernel
theorem dL_law_1444 : decode cL_law 1444 = .ok (.aload_n 0, 1) := by decide +kernel
theorem dL_law_1445 : decode cL_law 1445 = .ok (.iload_n 3, 1) := by decide +kernel
theorem dL_law_1446 : decode cL_law 1446 = .ok (.iconst 1, 1) := by decide +kernel
theorem dL_law_1447 : decode cL_law 1447 = .ok (.iadd, 1) := by decide +kernel
theorem dL_law_1448 : decode cL_law 1448 = .ok (.iaload, 1) := by decide +kernel
theorem dL_law_1449 : decode cL_law 1449 = .ok (.aload_n 0, 1) := by decide +kernel
theorem dL_law_1450 : decode cL_law 1450 = .ok (.iload_n 3, 1) := by decide +kernel
theorem dL_law_1451 : decode cL_law 1451 = .ok (.iconst 2, 1) := by decide +kernel
theorem dL_law_1452 : decode cL_law 1452 = .ok (.iadd, 1) := by decide +kernel
theorem dL_law_1453 : decode cL_law 1453 = .ok (.iaload, 1) := by decide +kernel
theorem dL_law_1454 : decode cL_law 1454 = .ok (.aload_n 0, 1) := by decide +kernel
theorem dL_law_1455 : decode cL_law 1455 = .ok (.iload_n 3, 1) := by decide +kernel
theorem dL_law_1456 : decode cL_law 1456 = .ok (.iconst 3, 1) := by decide +kernel
theorem dL_law_1457 : decode cL_law 1457 = .ok (.iadd, 1) := by decide +kernel
theorem dL_law_1458 : decode cL_law 1458 = .ok (.iaload, 1) := by decide +kernel
theorem dL_law_1459 : decode cL_law 1459 = .ok (.aload_n 0, 1) := by decide +kernel
theorem dL_law_1460 : decode cL_law 1460 = .ok (.iload_n 3, 1) := by decide +kernel
theorem dL_law_1461 : decode cL_law 1461 = .ok (.iconst 4, 1) := by decide +kernel
theorem dL_law_1462 : decode cL_law 1462 = .ok (.iadd, 1) := by decide +kernel
theorem dL_law_1463 : decode cL_law 1463 = .ok (.iaload, 1) := by decide +kernel
theorem dL_law_1464 : decode cL_law 1464 = .ok (.invokevirtual 156, 3) := by decide +kernel
theorem dL_law_1467 : decode cL_law 1467 = .ok (.aload_n 2, 1) := by decide +kernel
theorem dL_law_1468 : decode cL_law 1468 = .ok (.aload_n 0, 1) := by decide +kernel
theorem dL_law_1469 : decode cL_law 1469 = .ok (.iload_n 3, 1) := by decide +kernel
theorem dL_law_1470 : decode cL_law 1470 = .ok (.iconst 1, 1) := by decide +kernel
theorem dL_law_1471 : decode cL_law 1471 = .ok (.iadd, 1) := by decide +kernel
theorem dL_law_1472 : decode cL_law 1472 = .ok (.iaload, 1) := by decide +kernel
theorem dL_law_1473 : decode cL_law 1473 = .ok (.aload_n 0, 1) := by decide +kernel
theorem dL_law_1474 : decode cL_law 1474 = .ok (.iload_n 3, 1) := by decide +kernel
theorem dL_law_1475 : decode cL_law 1475 = .ok (.iconst 2, 1) := by decide +kernel
theorem dL_law_1476 : decode cL_law 1476 = .ok (.iadd, 1) := by decide +kernel
theorem dL_law_1477 : decode cL_law 1477 = .ok (.iaload, 1) := by decide +kernel
theorem dL_law_1478 : decode cL_law 1478 = .ok (.aload_n 0, 1) := by decide +kernel
theorem dL_law_1479 : decode cL_law 1479 = .ok (.iload_n 3, 1) := by decide +kernel
theorem dL_law_1480 : decode cL_law 1480 = .ok (.iconst 3, 1) := by decide +kernel
theorem dL_law_1481 : decode cL_law 1481 = .ok (.iadd, 1) := by decide +kernel
theorem dL_law_1482 : decode cL_law 1482 = .ok (.iaload, 1) := by decide +kernel
theorem dL_law_1483 : decode cL_law 1483 = .ok (.aload_n 0, 1) := by decide +kernel
theorem dL_law_1484 : decode cL_law 1484 = .ok (.iload_n 3, 1) := by decide +kernel
theorem dL_law_1485 : decode cL_law 1485 = .ok (.iconst 4, 1) := by decide +kernel
theorem dL_law_1486 : decode cL_law 1486 = .ok (.iadd, 1) := by decide +kernel
theorem dL_law_1487 : decode cL_law 1487 = .ok (.iaload, 1) := by decide +kernel
theorem dL_law_1488 : decode cL_law 1488 = .ok (.invokevirtual 160, 3) := by decide +kernel
theorem dL_law_1491 : decode cL_law 1491 = .ok (.if_icmp .eq 191, 3) := by decide +kernel
theorem dL_law_1494 : decode cL_law 1494 = .ok (.iconst 0, 1) := by decide +kernel
theorem dL_law_1495 : decode cL_law 1495 = .ok (.ireturn, 1) := by decide +kernel
theorem dL_law_1496 : decode cL_law 1496 = .ok (.aload_n 1, 1) := by decide +kernel
theorem dL_law_1497 : decode cL_law 1497 = .ok (.aload_n 0, 1) := by decide +kernel
theorem dL_law_1498 : decode cL_law 1498 = .ok (.iload_n 3, 1) := by decide +kernel
theorem dL_law_1499 : decode cL_law 1499 = .ok (.iconst 1, 1) := by decide +kernel
theorem dL_law_1500 : decode cL_law 1500 = .ok (.iadd, 1) := by decide +kernel
theorem dL_law_1501 : decode cL_law 1501 = .ok (.iaload, 1) := by decide +kernel
theorem dL_law_1502 : decode cL_law 1502 = .ok (.aload_n 0, 1) := by decide +kernel
theorem dL_law_1503 : decode cL_law 1503 = .ok (.iload_n 3, 1) := by decide +kernel
theorem dL_law_1504 : decode cL_law 1504 = .ok (.iconst 2, 1) := by decide +kernel
theorem dL_law_1505 : decode cL_law 1505 = .ok (.iadd, 1) := by decide +kernel
theorem dL_law_1506 : decode cL_law 1506 = .ok (.iaload, 1) := by decide +kernel
theorem dL_law_1507 : decode cL_law 1507 = .ok (.aload_n 0, 1) := by decide +kernel
theorem dL_law_1508 : decode cL_law 1508 = .ok (.iload_n 3, 1) := by decide +kernel
theorem dL_law_1509 : decode cL_law 1509 = .ok (.iconst 3, 1) := by decide +kernel
theorem dL_law_1510 : decode cL_law 1510 = .ok (.iadd, 1) := by decide +kernel
theorem dL_law_1511 : decode cL_law 1511 = .ok (.iaload, 1) := by decide +kernel
theorem dL_law_1512 : decode cL_law 1512 = .ok (.invokevirtual 161, 3) := by decide +kernel
theorem dL_law_1515 : decode cL_law 1515 = .ok (.aload_n 2, 1) := by decide +kernel
theorem dL_law_1516 : decode cL_law 1516 = .ok (.aload_n 0, 1) := by decide +kernel
theorem dL_law_1517 : decode cL_law 1517 = .ok (.iload_n 3, 1) := by decide +kernel
theorem dL_law_1518 : decode cL_law 1518 = .ok (.iconst 1, 1) := by decide +kernel
theorem dL_law_1519 : decode cL_law 1519 = .ok (.iadd, 1) := by decide +kernel
theorem dL_law_1520 : decode cL_law 1520 = .ok (.iaload, 1) := by decide +kernel
theorem dL_law_1521 : decode cL_law 1521 = .ok (.aload_n 0, 1) := by decide +kernel
theorem dL_law_1522 : decode cL_law 1522 = .ok (.iload_n 3, 1) := by decide +kernel
theorem dL_law_1523 : decode cL_law 1523 = .ok (.iconst 2, 1) := by decide +kernel
theorem dL_law_1524 : decode cL_law 1524 = .ok (.iadd, 1) := by decide +kernel
theorem dL_law_1525 : decode cL_law 1525 = .ok (.iaload, 1) := by decide +kernel
theorem dL_law_1526 : decode cL_law 1526 = .ok (.aload_n 0, 1) := by decide +kernel
theorem dL_law_1527 : decode cL_law 1527 = .ok (.iload_n 3, 1) := by decide +kernel
theorem dL_law_1528 : decode cL_law 1528 = .ok (.iconst 3, 1) := by decide +kernel
theorem dL_law_1529 : decode cL_law 1529 = .ok (.iadd, 1) := by decide +kernel
theorem dL_law_1530 : decode cL_law 1530 = .ok (.iaload, 1) := by decide +kernel
theorem dL_law_1531 : decode cL_law 1531 = .ok (.invokevirtual 164, 3) := by decide +kernel
theorem dL_law_1534 : decode cL_law 1534 = .ok (.if_icmp .eq 148, 3) := by decide +kernel
theorem dL_law_1537 : decode cL_law 1537 = .ok (.iconst 0, 1) := by decide +kernel
theorem dL_law_1538 : decode cL_law 1538 = .ok (.ireturn, 1) := by decide +kernel
theorem dL_law_1539 : decode cL_law 1539 = .ok (.aload_n 1, 1) := by decide +kernel
theorem dL_law_1540 : decode cL_law 1540 = .ok (.aload_n 0, 1) := by decide +kernel
theorem dL_law_1541 : decode cL_law 1541 = .ok (.iload_n 3, 1) := by decide +kernel
theorem dL_law_1542 : decode cL_law 1542 = .ok (.iconst 1, 1) := by decide +kernel
theorem dL_law_1543 : decode cL_law 1543 = .ok (.iadd, 1) := by decide +kernel
theorem dL_law_1544 : decode cL_law 1544 = .ok (.iaload, 1) := by decide +kernel
theorem dL_law_1545 : decode cL_law 1545 = .ok (.aload_n 0, 1) := by decide +kernel
theorem dL_law_1546 : decode cL_law 1546 = .ok (.iload_n 3, 1) := by decide +kernel
theorem dL_law_1547 : decode cL_law 1547 = .ok (.iconst 2, 1) := by decide +kernel
theorem dL_law_1548 : decode cL_law 1548 = .ok (.iadd, 1) := by decide +kernel
theorem dL_law_1549 : decode cL_law 1549 = .ok (.iaload, 1) := by decide +kernel
theorem dL_law_1550 : decode cL_law 1550 = .ok (.aload_n 0, 1) := by decide +kernel
theorem dL_law_1551 : decode cL_law 1551 = .ok (.iload_n 3, 1) := by decide +kernel
theorem dL_law_1552 : decode cL_law 1552 = .ok (.iconst 3, 1) := by decide +kernel
theorem dL_law_1553 : decode cL_law 1553 = .ok (.iadd, 1) := by decide +kernel
theorem dL_law_1554 : decode cL_law 1554 = .ok (.iaload, 1) := by decide +kernel
theorem dL_law_1555 : decode cL_law 1555 = .ok (.aload_n 0, 1) := by decide +kernel
theorem dL_law_1556 : decode cL_law 1556 = .ok (.iload_n 3, 1) := by decide +kernel
theorem dL_law_1557 : decode cL_law 1557 = .ok (.iconst 4, 1) := by decide +kernel
theorem dL_law_1558 : decode cL_law 1558 = .ok (.iadd, 1) := by decide +kernel
theorem dL_law_1559 : decode cL_law 1559 = .ok (.iaload, 1) := by decide +kernel
theorem dL_law_1560 : decode cL_law 1560 = .ok (.aload_n 0, 1) := by decide +kernel
theorem dL_law_1561 : decode cL_law 1561 = .ok (.iload_n 3, 1) := by decide +kernel
theorem dL_law_1562 : decode cL_law 1562 = .ok (.iconst 5, 1) := by decide +kernel
theorem dL_law_1563 : decode cL_law 1563 = .ok (.iadd, 1) := by decide +kernel
theorem dL_law_1564 : decode cL_law 1564 = .ok (.iaload, 1) := by decide +kernel
theorem dL_law_1565 : decode cL_law 1565 = .ok (.invokevirtual 165, 3) := by decide +kernel
theorem dL_law_1568 : decode cL_law 1568 = .ok (.aload_n 2, 1) := by decide +kernel
theorem dL_law_1569 : decode cL_law 1569 = .ok (.aload_n 0, 1) := by decide +kernel
theorem dL_law_1570 : decode cL_law 1570 = .ok (.iload_n 3, 1) := by decide +kernel
theorem dL_law_1571 : decode cL_law 1571 = .ok (.iconst 1, 1) := by decide +kernel
theorem dL_law_1572 : decode cL_law 1572 = .ok (.iadd, 1) := by decide +kernel
theorem dL_law_1573 : decode cL_law 1573 = .ok (.iaload, 1) := by decide +kernel
theorem dL_law_1574 : decode cL_law 1574 = .ok (.aload_n 0, 1) := by decide +kernel
theorem dL_law_1575 : decode cL_law 1575 = .ok (.iload_n 3, 1) := by decide +kernel
theorem dL_law_1576 : decode cL_law 1576 = .ok (.iconst 2, 1) := by decide +kernel
theorem dL_law_1577 : decode cL_law 1577 = .ok (.iadd, 1) := by decide +kernel
theorem dL_law_1578 : decode cL_law 1578 = .ok (.iaload, 1) := by decide +kernel
theorem dL_law_1579 : decode cL_law 1579 = .ok (.aload_n 0, 1) := by decide +kernel
theorem dL_law_1580 : decode cL_law 1580 = .ok (.iload_n 3, 1) := by decide +kernel
theorem dL_law_1581 : decode cL_law 1581 = .ok (.iconst 3, 1) := by decide +kernel
theorem dL_law_1582 : decode cL_law 1582 = .ok (.iadd, 1) := by decide +kernel
theorem dL_law_1583 : decode cL_law 1583 = .ok (.iaload, 1) := by decide +kernel
theorem dL_law_1584 : decode cL_law 1584 = .ok (.aload_n 0, 1) := by decide +kernel
theorem dL_law_1585 : decode cL_law 1585 = .ok (.iload_n 3, 1) := by decide +kernel
theorem dL_law_1586 : decode cL_law 1586 = .ok (.iconst 4, 1) := by decide +kernel
theorem dL_law_1587 : decode cL_law 1587 = .ok (.iadd, 1) := by decide +kernel
theorem dL_law_1588 : decode cL_law 1588 = .ok (.iaload, 1) := by decide +kernel
theorem dL_law_1589 : decode cL_law 1589 = .ok (.aload_n 0, 1) := by decide +kernel
theorem dL_law_1590 : decode cL_law 1590 = .ok (.iload_n 3, 1) := by decide +kernel
theorem dL_law_1591 : decode cL_law 1591 = .ok (.iconst 5, 1) := by decide +kernel
theorem dL_law_1592 : decode cL_law 1592 = .ok (.iadd, 1) := by decide +kernel
theorem dL_law_1593 : decode cL_law 1593 = .ok (.iaload, 1) := by decide +kernel
theorem dL_law_1594 : decode cL_law 1594 = .ok (.invokevirtual 168, 3) := by decide +kernel
theorem dL_law_1597 : decode cL_law 1597 = .ok (.if_icmp .eq 85, 3) := by decide +kernel
theorem dL_law_1600 : decode cL_law 1600 = .ok (.iconst 0, 1) := by decide +kernel
theorem dL_law_1601 : decode cL_law 1601 = .ok (.ireturn, 1) := by decide +kernel
theorem dL_law_1602 : decode cL_law 1602 = .ok (.aload_n 1, 1) := by decide +kernel
theorem dL_law_1603 : decode cL_law 1603 = .ok (.aload_n 0, 1) := by decide +kernel
theorem dL_law_1604 : decode cL_law 1604 = .ok (.iload_n 3, 1) := by decide +kernel
theorem dL_law_1605 : decode cL_law 1605 = .ok (.iconst 1, 1) := by decide +kernel
theorem dL_law_1606 : decode cL_law 1606 = .ok (.iadd, 1) := by decide +kernel
theorem dL_law_1607 : decode cL_law 1607 = .ok (.iaload, 1) := by decide +kernel
theorem dL_law_1608 : decode cL_law 1608 = .ok (.aload_n 0, 1) := by decide +kernel
theorem dL_law_1609 : decode cL_law 1609 = .ok (.iload_n 3, 1) := by decide +kernel
theorem dL_law_1610 : decode cL_law 1610 = .ok (.iconst 2, 1) := by decide +kernel
theorem dL_law_1611 : decode cL_law 1611 = .ok (.iadd, 1) := by decide +kernel
theorem dL_law_1612 : decode cL_law 1612 = .ok (.iaload, 1) := by decide +kernel
theorem dL_law_1613 : decode cL_law 1613 = .ok (.aload_n 0, 1) := by decide +kernel
theorem dL_law_1614 : decode cL_law 1614 = .ok (.iload_n 3, 1) := by decide +kernel
theorem dL_law_1615 : decode cL_law 1615 = .ok (.iconst 3, 1) := by decide +kernel
theorem dL_law_1616 : decode cL_law 1616 = .ok (.iadd, 1) := by decide +kernel
theorem dL_law_1617 : decode cL_law 1617 = .ok (.iaload, 1) := by decide +kernel
theorem dL_law_1618 : decode cL_law 1618 = .ok (.invokevirtual 169, 3) := by decide +kernel
theorem dL_law_1621 : decode cL_law 1621 = .ok (.aload_n 2, 1) := by decide +kernel
theorem dL_law_1622 : decode cL_law 1622 = .ok (.aload_n 0, 1) := by decide +kernel
theorem dL_law_1623 : decode cL_law 1623 = .ok (.iload_n 3, 1) := by decide +kernel
theorem dL_law_1624 : decode cL_law 1624 = .ok (.iconst 1, 1) := by decide +kernel
theorem dL_law_1625 : decode cL_law 1625 = .ok (.iadd, 1) := by decide +kernel
theorem dL_law_1626 : decode cL_law 1626 = .ok (.iaload, 1) := by decide +kernel
theorem dL_law_1627 : decode cL_law 1627 = .ok (.aload_n 0, 1) := by decide +kernel
theorem dL_law_1628 : decode cL_law 1628 = .ok (.iload_n 3, 1) := by decide +kernel
theorem dL_law_1629 : decode cL_law 1629 = .ok (.iconst 2, 1) := by decide +kernel
theorem dL_law_1630 : decode cL_law 1630 = .ok (.iadd, 1) := by decide +kernel
theorem dL_law_1631 : decode cL_law 1631 = .ok (.iaload, 1) := by decide +kernel
theorem dL_law_1632 : decode cL_law 1632 = .ok (.aload_n 0, 1) := by decide +kernel
theorem dL_law_1633 : decode cL_law 1633 = .ok (.iload_n 3, 1) := by decide +kernel
theorem dL_law_1634 : decode cL_law 1634 = .ok (.iconst 3, 1) := by decide +kernel
theorem dL_law_1635 : decode cL_law 1635 = .ok (.iadd, 1) := by decide +kernel
theorem dL_law_1636 : decode cL_law 1636 = .ok (.iaload, 1) := by decide +kernel
theorem dL_law_1637 : decode cL_law 1637 = .ok (.invokevirtual 172, 3) := by decide +kernel
theorem dL_law_1640 : decode cL_law 1640 = .ok (.if_icmp .eq 42, 3) := by decide +kernel
theorem dL_law_1643 : decode cL_law 1643 = .ok (.iconst 0, 1) := by decide +kernel
theorem dL_law_1644 : decode cL_law 1644 = .ok (.ireturn, 1) := by decide +kernel
theorem dL_law_1645 : decode cL_law 1645 = .ok (.aload_n 1, 1) := by decide +kernel
theorem dL_law_1646 : decode cL_law 1646 = .ok (.aload_n 0, 1) := by decide +kernel
theorem dL_law_1647 : decode cL_law 1647 = .ok (.iload_n 3, 1) := by decide +kernel
theorem dL_law_1648 : decode cL_law 1648 = .ok (.iconst 1, 1) := by decide +kernel
theorem dL_law_1649 : decode cL_law 1649 = .ok (.iadd, 1) := by decide +kernel
theorem dL_law_1650 : decode cL_law 1650 = .ok (.iaload, 1) := by decide +kernel
theorem dL_law_1651 : decode cL_law 1651 = .ok (.invokevirtual 173, 3) := by decide +kernel
theorem dL_law_1654 : decode cL_law 1654 = .ok (.aload_n 2, 1) := by decide +kernel
theorem dL_law_1655 : decode cL_law 1655 = .ok (.aload_n 0, 1) := by decide +kernel
theorem dL_law_1656 : decode cL_law 1656 = .ok (.iload_n 3, 1) := by decide +kernel
theorem dL_law_1657 : decode cL_law 1657 = .ok (.iconst 1, 1) := by decide +kernel
theorem dL_law_1658 : decode cL_law 1658 = .ok (.iadd, 1) := by decide +kernel
theorem dL_law_1659 : decode cL_law 1659 = .ok (.iaload, 1) := by decide +kernel
theorem dL_law_1660 : decode cL_law 1660 = .ok (.invokevirtual 176, 3) := by decide +kernel
theorem dL_law_1663 : decode cL_law 1663 = .ok (.if_icmp .eq 19, 3) := by decide +kernel
theorem dL_law_1666 : decode cL_law 1666 = .ok (.iconst 0, 1) := by decide +kernel
theorem dL_law_1667 : decode cL_law 1667 = .ok (.ireturn, 1) := by decide +kernel
theorem dL_law_1668 : decode cL_law 1668 = .ok (.aload_n 1, 1) := by decide +kernel
theorem dL_law_1669 : decode cL_law 1669 = .ok (.invokevirtual 177, 3) := by decide +kernel
theorem dL_law_1672 : decode cL_law 1672 = .ok (.aload_n 2, 1) := by decide +kernel
theorem dL_law_1673 : decode cL_law 1673 = .ok (.invokevirtual 181, 3) := by decide +kernel
theorem dL_law_1676 : decode cL_law 1676 = .ok (.lcmp, 1) := by decide +kernel
theorem dL_law_1677 : decode cL_law 1677 = .ok (.ifCond .eq 5, 3) := by decide +kernel
theorem dL_law_1680 : decode cL_law 1680 = .ok (.iconst 0, 1) := by decide +kernel
theorem dL_law_1681 : decode cL_law 1681 = .ok (.ireturn, 1) := by decide +kernel
theorem dL_law_1682 : decode cL_law 1682 = .ok (.iinc 3 6, 3) := by decide +kernel
theorem dL_law_1685 : decode cL_law 1685 = .ok (.goto (-1667), 3) := by decide +kernel
theorem dL_law_1688 : decode cL_law 1688 = .ok (.iconst 1, 1) := by decide +kernel
theorem dL_law_1689 : decode cL_law 1689 = .ok (.ireturn, 1) := by decide +kernel
end
section
/-! what the tables say: classes, links, methods -/
def isNest : Cond → Bool
  | .fieldLinkNest .. => true
  | .methodLinkNest .. => true
  | _ => false
def NB : List Cond := lw_tbl.filter isNest
theorem nb_in {w : Cond} (i : Nat) (h : lw_tbl[i]? = some w) (g : isNest w = true) : w ∈ NB := List.mem_filter.mpr ⟨List.mem_of_getElem? h, g⟩
def zN (U : State) : Prop := ∀ w ∈ NB, va_Nw w U
theorem zN_on {w : Cond} (h : isNest w = true) : w.onTables = true := by
  cases w <;> first | rfl | (simp [isNest] at h; done)
theorem zN_same {u U : State} (h : u.vm = U.vm) (hN : zN u) : zN U := fun w hw => va_Nw.same (zN_on (List.mem_filter.mp hw).2) h (hN w hw)
theorem zN_warm {s U : State} (hW : s.WarmedH U.vm) (hN : zN s) : zN U := by
  intro w hw
  have h1 := hN w hw
  have h2 := (List.mem_filter.mp hw).2
  cases w <;> first | (simp [isNest] at h2; done) | exact va_Nw.warmF hW h1 | exact va_Nw.warmM hW h1
def zCl (ci : Nat) (C : String) (TT : u_T) (N : Nat) (ty : Nat → FieldType) : Prop := vwCl[ci]? = some (C, TT, N) ∧ (∀ w ∈ u_ws C TT N, w ∈ TB) ∧ (∀ k, k < N → parseFieldDescriptor (TT k).2.2.1 = some (ty k)) ∧ (∀ a, a < N → ∀ b, b < N → a ≠ b → (TT a).2.1 ≠ (TT b).2.1)
def zLk (own : String) (index : Nat) (C : String) (TT : u_T) (j : Nat) : Prop := (Cond.fieldLink own index C (TT j).2.1 (TT j).2.2.1 ∈ TB ∨ ∃ host, Cond.fieldLinkNest own index C (TT j).2.1 (TT j).2.2.1 host ∈ NB) ∧ (TT j).1 = C
def zMc (y : MethodName) (bytes : ByteArray) (maxL : Nat) (rt : Option FieldType) (n : Nat) : Prop := Cond.code y bytes maxL rt ∈ TB ∧ Cond.initialized y.cls ∈ TB ∧ (y.cls ≠ "java/lang/invoke/MethodHandle" ∧ y.cls ≠ "java/lang/invoke/VarHandle" ∧ (parseMethodDescriptor y.desc).map (fun d => d.parameters.length) = some n)
def zMl (own : String) (index : Nat) (y : MethodName) : Prop := Cond.methodLink own index y ∈ TB ∨ ∃ host, Cond.methodLinkNest own index y host ∈ NB
theorem clX0 : zCl 0 RX0 TX0 4 tyX0 := ⟨rfl, inX0, tyX0_ok, nmX0⟩
theorem clX3 : zCl 1 RX3 TX3 11 tyX3 := ⟨rfl, inX3, tyX3_ok, nmX3⟩
theorem clX4 : zCl 2 RX4 TX4 3 tyX4 := ⟨rfl, inX4, tyX4_ok, nmX4⟩
theorem clX5 : zCl 3 RX5 TX5 5 tyX5 := ⟨rfl, inX5, tyX5_ok, nmX5⟩
theorem clX6 : zCl 4 RX6 TX6 4 tyX6 := ⟨rfl, inX6, tyX6_ok, nmX6⟩
theorem clX7 : zCl 5 RX7 TX7 6 tyX7 := ⟨rfl, inX7, tyX7_ok, nmX7⟩
theorem clX8 : zCl 6 RX8 TX8 7 tyX8 := ⟨rfl, inX8, tyX8_ok, nmX8⟩
theorem clX10 : zCl 7 RX10 TX10 12 tyX10 := ⟨rfl, inX10, tyX10_ok, nmX10⟩
theorem clX11 : zCl 8 RX11 TX11 24 tyX11 := ⟨rfl, inX11, tyX11_ok, nmX11⟩
theorem lkX10_10 : zLk RX10 10 RX10 TX10 0 := ⟨Or.inl (tb_in 261 (by decide +kernel) rfl), rfl⟩
theorem lkX10_16 : zLk RX10 16 RX10 TX10 1 := ⟨Or.inl (tb_in 262 (by decide +kernel) rfl), rfl⟩
theorem lkX10_22 : zLk RX10 22 RX10 TX10 2 := ⟨Or.inl (tb_in 263 (by decide +kernel) rfl), rfl⟩
theorem lkX10_26 : zLk RX10 26 RX10 TX10 3 := ⟨Or.inl (tb_in 264 (by decide +kernel) rfl), rfl⟩
theorem lkX10_32 : zLk RX10 32 RX10 TX10 4 := ⟨Or.inl (tb_in 265 (by decide +kernel) rfl), rfl⟩
theorem lkX10_39 : zLk RX10 39 RX10 TX10 5 := ⟨Or.inl (tb_in 266 (by decide +kernel) rfl), rfl⟩
theorem lkX10_46 : zLk RX10 46 RX10 TX10 6 := ⟨Or.inl (tb_in 267 (by decide +kernel) rfl), rfl⟩
theorem lkX10_53 : zLk RX10 53 RX10 TX10 7 := ⟨Or.inl (tb_in 268 (by decide +kernel) rfl), rfl⟩
theorem lkX10_60 : zLk RX10 60 RX10 TX10 8 := ⟨Or.inl (tb_in 269 (by decide +kernel) rfl), rfl⟩
theorem lkX10_64 : zLk RX10 64 RX10 TX10 9 := ⟨Or.inl (tb_in 270 (by decide +kernel) rfl), rfl⟩
theorem lkX10_68 : zLk RX10 68 RX10 TX10 10 := ⟨Or.inl (tb_in 271 (by decide +kernel) rfl), rfl⟩
theorem lkX10_87 : zLk RX10 87 RX7 TX7 5 := ⟨Or.inr ⟨"DrumSlits", nb_in 86 (by decide +kernel) rfl⟩, rfl⟩
theorem lkX10_129 : zLk RX10 129 RX7 TX7 4 := ⟨Or.inr ⟨"DrumSlits", nb_in 84 (by decide +kernel) rfl⟩, rfl⟩
theorem lkX10_172 : zLk RX10 172 RX6 TX6 1 := ⟨Or.inr ⟨"DrumSlits", nb_in 129 (by decide +kernel) rfl⟩, rfl⟩
theorem lkX10_179 : zLk RX10 179 RX6 TX6 3 := ⟨Or.inr ⟨"DrumSlits", nb_in 134 (by decide +kernel) rfl⟩, rfl⟩
theorem lkX10_199 : zLk RX10 199 RX3 TX3 10 := ⟨Or.inr ⟨"DrumSlits", nb_in 161 (by decide +kernel) rfl⟩, rfl⟩
theorem lkX10_202 : zLk RX10 202 RX4 TX4 2 := ⟨Or.inr ⟨"DrumSlits", nb_in 111 (by decide +kernel) rfl⟩, rfl⟩
theorem lkX10_243 : zLk RX10 243 RX8 TX8 3 := ⟨Or.inr ⟨"DrumSlits", nb_in 217 (by decide +kernel) rfl⟩, rfl⟩
theorem lkX10_248 : zLk RX10 248 RX8 TX8 4 := ⟨Or.inr ⟨"DrumSlits", nb_in 219 (by decide +kernel) rfl⟩, rfl⟩
theorem lkX10_251 : zLk RX10 251 RX8 TX8 5 := ⟨Or.inr ⟨"DrumSlits", nb_in 221 (by decide +kernel) rfl⟩, rfl⟩
theorem lkX10_254 : zLk RX10 254 RX8 TX8 6 := ⟨Or.inr ⟨"DrumSlits", nb_in 223 (by decide +kernel) rfl⟩, rfl⟩
theorem lkX10_260 : zLk RX10 260 RX0 TX0 1 := ⟨Or.inr ⟨"DrumSlits", nb_in 247 (by decide +kernel) rfl⟩, rfl⟩
theorem lkX10_263 : zLk RX10 263 RX0 TX0 2 := ⟨Or.inr ⟨"DrumSlits", nb_in 249 (by decide +kernel) rfl⟩, rfl⟩
theorem lkX10_264 : zLk RX10 264 RX0 TX0 3 := ⟨Or.inr ⟨"DrumSlits", nb_in 251 (by decide +kernel) rfl⟩, rfl⟩
theorem lkX10_283 : zLk RX10 283 RX10 TX10 11 := ⟨Or.inl (tb_in 272 (by decide +kernel) rfl), rfl⟩
theorem lkX10_286 : zLk RX10 286 RX6 TX6 2 := ⟨Or.inr ⟨"DrumSlits", nb_in 131 (by decide +kernel) rfl⟩, rfl⟩
theorem lkX10_292 : zLk RX10 292 RX6 TX6 0 := ⟨Or.inr ⟨"DrumSlits", nb_in 127 (by decide +kernel) rfl⟩, rfl⟩
theorem lkX10_302 : zLk RX10 302 RX7 TX7 3 := ⟨Or.inr ⟨"DrumSlits", nb_in 81 (by decide +kernel) rfl⟩, rfl⟩
theorem lkX0_9 : zLk RX0 9 RX0 TX0 0 := ⟨Or.inl (tb_in 245 (by decide +kernel) rfl), rfl⟩
theorem lkX0_18 : zLk RX0 18 RX0 TX0 3 := ⟨Or.inl (tb_in 250 (by decide +kernel) rfl), rfl⟩
theorem lkX0_26 : zLk RX0 26 RX6 TX6 3 := ⟨Or.inr ⟨"DrumSlits", nb_in 132 (by decide +kernel) rfl⟩, rfl⟩
theorem lkX0_58 : zLk RX0 58 RX0 TX0 1 := ⟨Or.inl (tb_in 246 (by decide +kernel) rfl), rfl⟩
theorem lkX0_61 : zLk RX0 61 RX0 TX0 2 := ⟨Or.inl (tb_in 248 (by decide +kernel) rfl), rfl⟩
theorem lkX3_9 : zLk RX3 9 RX3 TX3 0 := ⟨Or.inl (tb_in 150 (by decide +kernel) rfl), rfl⟩
theorem lkX3_15 : zLk RX3 15 RX3 TX3 1 := ⟨Or.inl (tb_in 151 (by decide +kernel) rfl), rfl⟩
theorem lkX3_18 : zLk RX3 18 RX3 TX3 2 := ⟨Or.inl (tb_in 152 (by decide +kernel) rfl), rfl⟩
theorem lkX3_21 : zLk RX3 21 RX3 TX3 3 := ⟨Or.inl (tb_in 153 (by decide +kernel) rfl), rfl⟩
theorem lkX3_24 : zLk RX3 24 RX3 TX3 4 := ⟨Or.inl (tb_in 154 (by decide +kernel) rfl), rfl⟩
theorem lkX3_27 : zLk RX3 27 RX3 TX3 5 := ⟨Or.inl (tb_in 155 (by decide +kernel) rfl), rfl⟩
theorem lkX3_30 : zLk RX3 30 RX3 TX3 6 := ⟨Or.inl (tb_in 156 (by decide +kernel) rfl), rfl⟩
theorem lkX3_33 : zLk RX3 33 RX4 TX4 2 := ⟨Or.inr ⟨"DrumSlits", nb_in 109 (by decide +kernel) rfl⟩, rfl⟩
theorem lkX3_39 : zLk RX3 39 RX3 TX3 7 := ⟨Or.inl (tb_in 157 (by decide +kernel) rfl), rfl⟩
theorem lkX3_49 : zLk RX3 49 RX3 TX3 8 := ⟨Or.inl (tb_in 158 (by decide +kernel) rfl), rfl⟩
theorem lkX3_55 : zLk RX3 55 RX3 TX3 9 := ⟨Or.inl (tb_in 159 (by decide +kernel) rfl), rfl⟩
theorem lkX3_86 : zLk RX3 86 RX3 TX3 10 := ⟨Or.inl (tb_in 160 (by decide +kernel) rfl), rfl⟩
theorem lkX4_9 : zLk RX4 9 RX4 TX4 0 := ⟨Or.inl (tb_in 107 (by decide +kernel) rfl), rfl⟩
theorem lkX4_15 : zLk RX4 15 RX4 TX4 1 := ⟨Or.inl (tb_in 108 (by decide +kernel) rfl), rfl⟩
theorem lkX4_22 : zLk RX4 22 RX4 TX4 2 := ⟨Or.inl (tb_in 110 (by decide +kernel) rfl), rfl⟩
theorem lkX5_9 : zLk RX5 9 RX5 TX5 0 := ⟨Or.inl (tb_in 191 (by decide +kernel) rfl), rfl⟩
theorem lkX5_15 : zLk RX5 15 RX5 TX5 1 := ⟨Or.inl (tb_in 192 (by decide +kernel) rfl), rfl⟩
theorem lkX5_18 : zLk RX5 18 RX5 TX5 2 := ⟨Or.inl (tb_in 193 (by decide +kernel) rfl), rfl⟩
theorem lkX5_21 : zLk RX5 21 RX5 TX5 3 := ⟨Or.inl (tb_in 194 (by decide +kernel) rfl), rfl⟩
theorem lkX5_24 : zLk RX5 24 RX7 TX7 4 := ⟨Or.inr ⟨"DrumSlits", nb_in 82 (by decide +kernel) rfl⟩, rfl⟩
theorem lkX5_36 : zLk RX5 36 RX5 TX5 4 := ⟨Or.inl (tb_in 195 (by decide +kernel) rfl), rfl⟩
theorem lkX6_9 : zLk RX6 9 RX6 TX6 0 := ⟨Or.inl (tb_in 126 (by decide +kernel) rfl), rfl⟩
theorem lkX6_15 : zLk RX6 15 RX6 TX6 1 := ⟨Or.inl (tb_in 128 (by decide +kernel) rfl), rfl⟩
theorem lkX6_23 : zLk RX6 23 RX6 TX6 2 := ⟨Or.inl (tb_in 130 (by decide +kernel) rfl), rfl⟩
theorem lkX6_33 : zLk RX6 33 RX6 TX6 3 := ⟨Or.inl (tb_in 133 (by decide +kernel) rfl), rfl⟩
theorem lkX7_9 : zLk RX7 9 RX7 TX7 0 := ⟨Or.inl (tb_in 77 (by decide +kernel) rfl), rfl⟩
theorem lkX7_15 : zLk RX7 15 RX7 TX7 1 := ⟨Or.inl (tb_in 78 (by decide +kernel) rfl), rfl⟩
theorem lkX7_18 : zLk RX7 18 RX7 TX7 2 := ⟨Or.inl (tb_in 79 (by decide +kernel) rfl), rfl⟩
theorem lkX7_21 : zLk RX7 21 RX7 TX7 5 := ⟨Or.inl (tb_in 85 (by decide +kernel) rfl), rfl⟩
theorem lkX7_25 : zLk RX7 25 RX7 TX7 3 := ⟨Or.inl (tb_in 80 (by decide +kernel) rfl), rfl⟩
theorem lkX7_35 : zLk RX7 35 RX7 TX7 4 := ⟨Or.inl (tb_in 83 (by decide +kernel) rfl), rfl⟩
theorem lkX8_9 : zLk RX8 9 RX8 TX8 0 := ⟨Or.inl (tb_in 213 (by decide +kernel) rfl), rfl⟩
theorem lkX8_15 : zLk RX8 15 RX8 TX8 1 := ⟨Or.inl (tb_in 214 (by decide +kernel) rfl), rfl⟩
theorem lkX8_18 : zLk RX8 18 RX8 TX8 2 := ⟨Or.inl (tb_in 215 (by decide +kernel) rfl), rfl⟩
theorem lkX8_21 : zLk RX8 21 RX8 TX8 3 := ⟨Or.inl (tb_in 216 (by decide +kernel) rfl), rfl⟩
theorem lkX8_25 : zLk RX8 25 RX8 TX8 6 := ⟨Or.inl (tb_in 222 (by decide +kernel) rfl), rfl⟩
theorem lkX8_32 : zLk RX8 32 RX8 TX8 4 := ⟨Or.inl (tb_in 218 (by decide +kernel) rfl), rfl⟩
theorem lkX8_35 : zLk RX8 35 RX8 TX8 5 := ⟨Or.inl (tb_in 220 (by decide +kernel) rfl), rfl⟩
theorem lkX11_7 : zLk RX11 7 RX11 TX11 0 := ⟨Or.inl (tb_in 840 (by decide +kernel) rfl), rfl⟩
theorem lkX11_13 : zLk RX11 13 RX11 TX11 1 := ⟨Or.inl (tb_in 841 (by decide +kernel) rfl), rfl⟩
theorem lkX11_16 : zLk RX11 16 RX11 TX11 2 := ⟨Or.inl (tb_in 842 (by decide +kernel) rfl), rfl⟩
theorem lkX11_19 : zLk RX11 19 RX11 TX11 3 := ⟨Or.inl (tb_in 843 (by decide +kernel) rfl), rfl⟩
theorem lkX11_22 : zLk RX11 22 RX11 TX11 4 := ⟨Or.inl (tb_in 844 (by decide +kernel) rfl), rfl⟩
theorem lkX11_25 : zLk RX11 25 RX11 TX11 5 := ⟨Or.inl (tb_in 845 (by decide +kernel) rfl), rfl⟩
theorem lkX11_28 : zLk RX11 28 RX11 TX11 6 := ⟨Or.inl (tb_in 846 (by decide +kernel) rfl), rfl⟩
theorem lkX11_31 : zLk RX11 31 RX11 TX11 7 := ⟨Or.inl (tb_in 847 (by decide +kernel) rfl), rfl⟩
theorem lkX11_34 : zLk RX11 34 RX11 TX11 8 := ⟨Or.inl (tb_in 848 (by decide +kernel) rfl), rfl⟩
theorem lkX11_37 : zLk RX11 37 RX11 TX11 9 := ⟨Or.inl (tb_in 849 (by decide +kernel) rfl), rfl⟩
theorem lkX11_40 : zLk RX11 40 RX11 TX11 15 := ⟨Or.inl (tb_in 855 (by decide +kernel) rfl), rfl⟩
theorem lkX11_43 : zLk RX11 43 RX11 TX11 16 := ⟨Or.inl (tb_in 856 (by decide +kernel) rfl), rfl⟩
theorem lkX11_46 : zLk RX11 46 RX11 TX11 17 := ⟨Or.inl (tb_in 857 (by decide +kernel) rfl), rfl⟩
theorem lkX11_49 : zLk RX11 49 RX11 TX11 18 := ⟨Or.inl (tb_in 858 (by decide +kernel) rfl), rfl⟩
theorem lkX11_53 : zLk RX11 53 RX11 TX11 19 := ⟨Or.inl (tb_in 859 (by decide +kernel) rfl), rfl⟩
theorem lkX11_56 : zLk RX11 56 RX11 TX11 20 := ⟨Or.inl (tb_in 860 (by decide +kernel) rfl), rfl⟩
theorem lkX11_59 : zLk RX11 59 RX11 TX11 21 := ⟨Or.inl (tb_in 861 (by decide +kernel) rfl), rfl⟩
theorem lkX11_62 : zLk RX11 62 RX11 TX11 22 := ⟨Or.inl (tb_in 862 (by decide +kernel) rfl), rfl⟩
theorem lkX11_142 : zLk RX11 142 RX11 TX11 10 := ⟨Or.inl (tb_in 850 (by decide +kernel) rfl), rfl⟩
theorem lkX11_146 : zLk RX11 146 RX11 TX11 11 := ⟨Or.inl (tb_in 851 (by decide +kernel) rfl), rfl⟩
theorem lkX11_149 : zLk RX11 149 RX11 TX11 12 := ⟨Or.inl (tb_in 852 (by decide +kernel) rfl), rfl⟩
theorem lkX11_152 : zLk RX11 152 RX11 TX11 13 := ⟨Or.inl (tb_in 853 (by decide +kernel) rfl), rfl⟩
theorem lkX11_200 : zLk RX11 200 RX11 TX11 14 := ⟨Or.inl (tb_in 854 (by decide +kernel) rfl), rfl⟩
theorem lkX11_209 : zLk RX11 209 RX11 TX11 23 := ⟨Or.inl (tb_in 863 (by decide +kernel) rfl), rfl⟩
theorem mcX0_init : zMc yX0_init cX0_init 1 none 0 := ⟨tb_in 243 (by decide +kernel) rfl, tb_in 54 (by decide +kernel) rfl, by decide +kernel⟩
theorem miX0_init : Cond.instanceMethod yX0_init ∈ TB := tb_in 242 (by decide +kernel) rfl
theorem mcX0_search : zMc yX0_search cX0_search 3 none 1 := ⟨tb_in 727 (by decide +kernel) rfl, tb_in 54 (by decide +kernel) rfl, by decide +kernel⟩
theorem miX0_search : Cond.instanceMethod yX0_search ∈ TB ∧ Cond.selects yX0_search.cls yX0_search yX0_search ∈ TB := ⟨tb_in 725 (by decide +kernel) rfl, tb_in 726 (by decide +kernel) rfl⟩
theorem mcX0_unbend : zMc yX0_unbend cX0_unbend 5 none 2 := ⟨tb_in 732 (by decide +kernel) rfl, tb_in 54 (by decide +kernel) rfl, by decide +kernel⟩
theorem miX0_unbend : Cond.instanceMethod yX0_unbend ∈ TB ∧ Cond.selects yX0_unbend.cls yX0_unbend yX0_unbend ∈ TB := ⟨tb_in 731 (by decide +kernel) rfl, tb_in 17 (by decide +kernel) rfl⟩
theorem mcX0_weighStarts : zMc yX0_weighStarts cX0_weighStarts 6 none 2 := ⟨tb_in 741 (by decide +kernel) rfl, tb_in 54 (by decide +kernel) rfl, by decide +kernel⟩
theorem miX0_weighStarts : Cond.instanceMethod yX0_weighStarts ∈ TB ∧ Cond.selects yX0_weighStarts.cls yX0_weighStarts yX0_weighStarts ∈ TB := ⟨tb_in 740 (by decide +kernel) rfl, tb_in 18 (by decide +kernel) rfl⟩
theorem mcX0_rowsAhead : zMc yX0_rowsAhead cX0_rowsAhead 3 (some .int) 0 := ⟨tb_in 745 (by decide +kernel) rfl, tb_in 54 (by decide +kernel) rfl, by decide +kernel⟩
theorem miX0_rowsAhead : Cond.instanceMethod yX0_rowsAhead ∈ TB ∧ Cond.selects yX0_rowsAhead.cls yX0_rowsAhead yX0_rowsAhead ∈ TB := ⟨tb_in 744 (by decide +kernel) rfl, tb_in 19 (by decide +kernel) rfl⟩
theorem mcX0_sumFromZero : zMc yX0_sumFromZero cX0_sumFromZero 3 (some .int) 0 := ⟨tb_in 749 (by decide +kernel) rfl, tb_in 54 (by decide +kernel) rfl, by decide +kernel⟩
theorem miX0_sumFromZero : Cond.instanceMethod yX0_sumFromZero ∈ TB ∧ Cond.selects yX0_sumFromZero.cls yX0_sumFromZero yX0_sumFromZero ∈ TB := ⟨tb_in 748 (by decide +kernel) rfl, tb_in 20 (by decide +kernel) rfl⟩
theorem mcX1_stands : zMc yX1_stands cX1_stands 2 (some .boolean) 2 := ⟨tb_in 387 (by decide +kernel) rfl, tb_in 57 (by decide +kernel) rfl, by decide +kernel⟩
theorem msX1_stands : Cond.static yX1_stands ∈ TB := tb_in 386 (by decide +kernel) rfl
theorem mcX1_advanceOf : zMc yX1_advanceOf cX1_advanceOf 2 (some .int) 2 := ⟨tb_in 391 (by decide +kernel) rfl, tb_in 57 (by decide +kernel) rfl, by decide +kernel⟩
theorem msX1_advanceOf : Cond.static yX1_advanceOf ∈ TB := tb_in 390 (by decide +kernel) rfl
theorem mcX1_driftAbove : zMc yX1_driftAbove cX1_driftAbove 2 (some .int) 2 := ⟨tb_in 403 (by decide +kernel) rfl, tb_in 57 (by decide +kernel) rfl, by decide +kernel⟩
theorem msX1_driftAbove : Cond.static yX1_driftAbove ∈ TB := tb_in 402 (by decide +kernel) rfl
theorem mcX1_seemingOf : zMc yX1_seemingOf cX1_seemingOf 3 (some .int) 2 := ⟨tb_in 400 (by decide +kernel) rfl, tb_in 57 (by decide +kernel) rfl, by decide +kernel⟩
theorem msX1_seemingOf : Cond.static yX1_seemingOf ∈ TB := tb_in 399 (by decide +kernel) rfl
theorem mcX1_pictureAt : zMc yX1_pictureAt cX1_pictureAt 3 (some .int) 3 := ⟨tb_in 407 (by decide +kernel) rfl, tb_in 57 (by decide +kernel) rfl, by decide +kernel⟩
theorem msX1_pictureAt : Cond.static yX1_pictureAt ∈ TB := tb_in 406 (by decide +kernel) rfl
theorem mcX1_looksRound : zMc yX1_looksRound cX1_looksRound 3 (some .int) 2 := ⟨tb_in 430 (by decide +kernel) rfl, tb_in 57 (by decide +kernel) rfl, by decide +kernel⟩
theorem msX1_looksRound : Cond.static yX1_looksRound ∈ TB := tb_in 429 (by decide +kernel) rfl
theorem mcX1_pairs : zMc yX1_pairs cX1_pairs 6 (some .int) 3 := ⟨tb_in 439 (by decide +kernel) rfl, tb_in 57 (by decide +kernel) rfl, by decide +kernel⟩
theorem msX1_pairs : Cond.static yX1_pairs ∈ TB := tb_in 438 (by decide +kernel) rfl
theorem mcX2_told : zMc yX2_told cX2_told 4 (some .int) 3 := ⟨tb_in 419 (by decide +kernel) rfl, tb_in 58 (by decide +kernel) rfl, by decide +kernel⟩
theorem msX2_told : Cond.static yX2_told ∈ TB := tb_in 418 (by decide +kernel) rfl
theorem mcX2_commonDivisor : zMc yX2_commonDivisor cX2_commonDivisor 6 (some .int) 2 := ⟨tb_in 423 (by decide +kernel) rfl, tb_in 58 (by decide +kernel) rfl, by decide +kernel⟩
theorem msX2_commonDivisor : Cond.static yX2_commonDivisor ∈ TB := tb_in 422 (by decide +kernel) rfl
theorem mcX2_nearest : zMc yX2_nearest cX2_nearest 2 (some .int) 2 := ⟨tb_in 394 (by decide +kernel) rfl, tb_in 58 (by decide +kernel) rfl, by decide +kernel⟩
theorem msX2_nearest : Cond.static yX2_nearest ∈ TB := tb_in 393 (by decide +kernel) rfl
theorem mcX3_init : zMc yX3_init cX3_init 1 none 0 := ⟨tb_in 148 (by decide +kernel) rfl, tb_in 51 (by decide +kernel) rfl, by decide +kernel⟩
theorem miX3_init : Cond.instanceMethod yX3_init ∈ TB := tb_in 147 (by decide +kernel) rfl
theorem mcX3_search : zMc yX3_search cX3_search 10 none 3 := ⟨tb_in 526 (by decide +kernel) rfl, tb_in 51 (by decide +kernel) rfl, by decide +kernel⟩
theorem miX3_search : Cond.instanceMethod yX3_search ∈ TB ∧ Cond.selects yX3_search.cls yX3_search yX3_search ∈ TB := ⟨tb_in 524 (by decide +kernel) rfl, tb_in 525 (by decide +kernel) rfl⟩
theorem mcX3_settle : zMc yX3_settle cX3_settle 4 none 1 := ⟨tb_in 548 (by decide +kernel) rfl, tb_in 51 (by decide +kernel) rfl, by decide +kernel⟩
theorem miX3_settle : Cond.instanceMethod yX3_settle ∈ TB ∧ Cond.selects yX3_settle.cls yX3_settle yX3_settle ∈ TB := ⟨tb_in 547 (by decide +kernel) rfl, tb_in 7 (by decide +kernel) rfl⟩
theorem mcX3_weigh : zMc yX3_weigh cX3_weigh 9 none 3 := ⟨tb_in 558 (by decide +kernel) rfl, tb_in 51 (by decide +kernel) rfl, by decide +kernel⟩
theorem miX3_weigh : Cond.instanceMethod yX3_weigh ∈ TB ∧ Cond.selects yX3_weigh.cls yX3_weigh yX3_weigh ∈ TB := ⟨tb_in 557 (by decide +kernel) rfl, tb_in 8 (by decide +kernel) rfl⟩
theorem mcX3_joinRow : zMc yX3_joinRow cX3_joinRow 4 none 0 := ⟨tb_in 562 (by decide +kernel) rfl, tb_in 51 (by decide +kernel) rfl, by decide +kernel⟩
theorem miX3_joinRow : Cond.instanceMethod yX3_joinRow ∈ TB ∧ Cond.selects yX3_joinRow.cls yX3_joinRow yX3_joinRow ∈ TB := ⟨tb_in 561 (by decide +kernel) rfl, tb_in 9 (by decide +kernel) rfl⟩
theorem mcX3_firstBest : zMc yX3_firstBest cX3_firstBest 4 (some .int) 2 := ⟨tb_in 566 (by decide +kernel) rfl, tb_in 51 (by decide +kernel) rfl, by decide +kernel⟩
theorem miX3_firstBest : Cond.instanceMethod yX3_firstBest ∈ TB ∧ Cond.selects yX3_firstBest.cls yX3_firstBest yX3_firstBest ∈ TB := ⟨tb_in 565 (by decide +kernel) rfl, tb_in 10 (by decide +kernel) rfl⟩
theorem mcX3_sum : zMc yX3_sum cX3_sum 1 (some .int) 0 := ⟨tb_in 570 (by decide +kernel) rfl, tb_in 51 (by decide +kernel) rfl, by decide +kernel⟩
theorem miX3_sum : Cond.instanceMethod yX3_sum ∈ TB ∧ Cond.selects yX3_sum.cls yX3_sum yX3_sum ∈ TB := ⟨tb_in 568 (by decide +kernel) rfl, tb_in 569 (by decide +kernel) rfl⟩
theorem mcX3_howMany : zMc yX3_howMany cX3_howMany 1 (some .int) 0 := ⟨tb_in 574 (by decide +kernel) rfl, tb_in 51 (by decide +kernel) rfl, by decide +kernel⟩
theorem miX3_howMany : Cond.instanceMethod yX3_howMany ∈ TB ∧ Cond.selects yX3_howMany.cls yX3_howMany yX3_howMany ∈ TB := ⟨tb_in 572 (by decide +kernel) rfl, tb_in 573 (by decide +kernel) rfl⟩
theorem mcX3_split : zMc yX3_split cX3_split 1 (some .int) 0 := ⟨tb_in 578 (by decide +kernel) rfl, tb_in 51 (by decide +kernel) rfl, by decide +kernel⟩
theorem miX3_split : Cond.instanceMethod yX3_split ∈ TB ∧ Cond.selects yX3_split.cls yX3_split yX3_split ∈ TB := ⟨tb_in 576 (by decide +kernel) rfl, tb_in 577 (by decide +kernel) rfl⟩
theorem mcX3_partnerOf : zMc yX3_partnerOf cX3_partnerOf 4 (some .int) 2 := ⟨tb_in 590 (by decide +kernel) rfl, tb_in 51 (by decide +kernel) rfl, by decide +kernel⟩
theorem miX3_partnerOf : Cond.instanceMethod yX3_partnerOf ∈ TB ∧ Cond.selects yX3_partnerOf.cls yX3_partnerOf yX3_partnerOf ∈ TB := ⟨tb_in 588 (by decide +kernel) rfl, tb_in 589 (by decide +kernel) rfl⟩
theorem mcX4_init : zMc yX4_init cX4_init 1 none 0 := ⟨tb_in 105 (by decide +kernel) rfl, tb_in 49 (by decide +kernel) rfl, by decide +kernel⟩
theorem miX4_init : Cond.instanceMethod yX4_init ∈ TB := tb_in 104 (by decide +kernel) rfl
theorem mcX4_add : zMc yX4_add cX4_add 3 (some .int) 2 := ⟨tb_in 492 (by decide +kernel) rfl, tb_in 49 (by decide +kernel) rfl, by decide +kernel⟩
theorem miX4_add : Cond.instanceMethod yX4_add ∈ TB ∧ Cond.selects yX4_add.cls yX4_add yX4_add ∈ TB := ⟨tb_in 490 (by decide +kernel) rfl, tb_in 491 (by decide +kernel) rfl⟩
theorem mcX4_clear : zMc yX4_clear cX4_clear 2 (some .int) 0 := ⟨tb_in 518 (by decide +kernel) rfl, tb_in 49 (by decide +kernel) rfl, by decide +kernel⟩
theorem miX4_clear : Cond.instanceMethod yX4_clear ∈ TB ∧ Cond.selects yX4_clear.cls yX4_clear yX4_clear ∈ TB := ⟨tb_in 516 (by decide +kernel) rfl, tb_in 517 (by decide +kernel) rfl⟩
theorem mcX4_wayTo : zMc yX4_wayTo cX4_wayTo 4 (some .int) 3 := ⟨tb_in 536 (by decide +kernel) rfl, tb_in 49 (by decide +kernel) rfl, by decide +kernel⟩
theorem miX4_wayTo : Cond.instanceMethod yX4_wayTo ∈ TB ∧ Cond.selects yX4_wayTo.cls yX4_wayTo yX4_wayTo ∈ TB := ⟨tb_in 534 (by decide +kernel) rfl, tb_in 535 (by decide +kernel) rfl⟩
theorem mcX4_sameForm : zMc yX4_sameForm cX4_sameForm 4 (some .boolean) 3 := ⟨tb_in 544 (by decide +kernel) rfl, tb_in 49 (by decide +kernel) rfl, by decide +kernel⟩
theorem miX4_sameForm : Cond.instanceMethod yX4_sameForm ∈ TB ∧ Cond.selects yX4_sameForm.cls yX4_sameForm yX4_sameForm ∈ TB := ⟨tb_in 542 (by decide +kernel) rfl, tb_in 543 (by decide +kernel) rfl⟩
theorem mcX5_init : zMc yX5_init cX5_init 1 none 0 := ⟨tb_in 189 (by decide +kernel) rfl, tb_in 52 (by decide +kernel) rfl, by decide +kernel⟩
theorem miX5_init : Cond.instanceMethod yX5_init ∈ TB := tb_in 188 (by decide +kernel) rfl
theorem mcX5_search : zMc yX5_search cX5_search 5 none 2 := ⟨tb_in 620 (by decide +kernel) rfl, tb_in 52 (by decide +kernel) rfl, by decide +kernel⟩
theorem miX5_search : Cond.instanceMethod yX5_search ∈ TB ∧ Cond.selects yX5_search.cls yX5_search yX5_search ∈ TB := ⟨tb_in 618 (by decide +kernel) rfl, tb_in 619 (by decide +kernel) rfl⟩
theorem mcX5_settle : zMc yX5_settle cX5_settle 7 none 2 := ⟨tb_in 626 (by decide +kernel) rfl, tb_in 52 (by decide +kernel) rfl, by decide +kernel⟩
theorem miX5_settle : Cond.instanceMethod yX5_settle ∈ TB ∧ Cond.selects yX5_settle.cls yX5_settle yX5_settle ∈ TB := ⟨tb_in 625 (by decide +kernel) rfl, tb_in 11 (by decide +kernel) rfl⟩
theorem mcX5_sumBy : zMc yX5_sumBy cX5_sumBy 4 (some .int) 3 := ⟨tb_in 630 (by decide +kernel) rfl, tb_in 52 (by decide +kernel) rfl, by decide +kernel⟩
theorem miX5_sumBy : Cond.instanceMethod yX5_sumBy ∈ TB ∧ Cond.selects yX5_sumBy.cls yX5_sumBy yX5_sumBy ∈ TB := ⟨tb_in 629 (by decide +kernel) rfl, tb_in 12 (by decide +kernel) rfl⟩
theorem mcX5_layRow : zMc yX5_layRow cX5_layRow 5 none 0 := ⟨tb_in 634 (by decide +kernel) rfl, tb_in 52 (by decide +kernel) rfl, by decide +kernel⟩
theorem miX5_layRow : Cond.instanceMethod yX5_layRow ∈ TB ∧ Cond.selects yX5_layRow.cls yX5_layRow yX5_layRow ∈ TB := ⟨tb_in 633 (by decide +kernel) rfl, tb_in 13 (by decide +kernel) rfl⟩
theorem mcX5_firstBest : zMc yX5_firstBest cX5_firstBest 4 (some .int) 2 := ⟨tb_in 638 (by decide +kernel) rfl, tb_in 52 (by decide +kernel) rfl, by decide +kernel⟩
theorem miX5_firstBest : Cond.instanceMethod yX5_firstBest ∈ TB ∧ Cond.selects yX5_firstBest.cls yX5_firstBest yX5_firstBest ∈ TB := ⟨tb_in 637 (by decide +kernel) rfl, tb_in 14 (by decide +kernel) rfl⟩
theorem mcX5_sum : zMc yX5_sum cX5_sum 1 (some .int) 0 := ⟨tb_in 642 (by decide +kernel) rfl, tb_in 52 (by decide +kernel) rfl, by decide +kernel⟩
theorem miX5_sum : Cond.instanceMethod yX5_sum ∈ TB ∧ Cond.selects yX5_sum.cls yX5_sum yX5_sum ∈ TB := ⟨tb_in 640 (by decide +kernel) rfl, tb_in 641 (by decide +kernel) rfl⟩
theorem mcX5_howMany : zMc yX5_howMany cX5_howMany 1 (some .int) 0 := ⟨tb_in 655 (by decide +kernel) rfl, tb_in 52 (by decide +kernel) rfl, by decide +kernel⟩
theorem miX5_howMany : Cond.instanceMethod yX5_howMany ∈ TB ∧ Cond.selects yX5_howMany.cls yX5_howMany yX5_howMany ∈ TB := ⟨tb_in 653 (by decide +kernel) rfl, tb_in 654 (by decide +kernel) rfl⟩
theorem mcX5_pictureAt : zMc yX5_pictureAt cX5_pictureAt 2 (some .int) 1 := ⟨tb_in 646 (by decide +kernel) rfl, tb_in 52 (by decide +kernel) rfl, by decide +kernel⟩
theorem miX5_pictureAt : Cond.instanceMethod yX5_pictureAt ∈ TB ∧ Cond.selects yX5_pictureAt.cls yX5_pictureAt yX5_pictureAt ∈ TB := ⟨tb_in 644 (by decide +kernel) rfl, tb_in 645 (by decide +kernel) rfl⟩
theorem mcX6_init : zMc yX6_init cX6_init 1 none 0 := ⟨tb_in 124 (by decide +kernel) rfl, tb_in 50 (by decide +kernel) rfl, by decide +kernel⟩
theorem miX6_init : Cond.instanceMethod yX6_init ∈ TB := tb_in 123 (by decide +kernel) rfl
theorem mcX6_isForm : zMc yX6_isForm cX6_isForm 1 (some .boolean) 1 := ⟨tb_in 757 (by decide +kernel) rfl, tb_in 50 (by decide +kernel) rfl, by decide +kernel⟩
theorem msX6_isForm : Cond.static yX6_isForm ∈ TB := tb_in 756 (by decide +kernel) rfl
theorem mcX6_renew : zMc yX6_renew cX6_renew 3 none 2 := ⟨tb_in 761 (by decide +kernel) rfl, tb_in 50 (by decide +kernel) rfl, by decide +kernel⟩
theorem miX6_renew : Cond.instanceMethod yX6_renew ∈ TB ∧ Cond.selects yX6_renew.cls yX6_renew yX6_renew ∈ TB := ⟨tb_in 759 (by decide +kernel) rfl, tb_in 760 (by decide +kernel) rfl⟩
theorem mcX6_findingAt : zMc yX6_findingAt cX6_findingAt 3 (some .int) 2 := ⟨tb_in 775 (by decide +kernel) rfl, tb_in 50 (by decide +kernel) rfl, by decide +kernel⟩
theorem miX6_findingAt : Cond.instanceMethod yX6_findingAt ∈ TB ∧ Cond.selects yX6_findingAt.cls yX6_findingAt yX6_findingAt ∈ TB := ⟨tb_in 773 (by decide +kernel) rfl, tb_in 774 (by decide +kernel) rfl⟩
theorem mcX6_holds : zMc yX6_holds cX6_holds 3 (some .boolean) 2 := ⟨tb_in 792 (by decide +kernel) rfl, tb_in 50 (by decide +kernel) rfl, by decide +kernel⟩
theorem miX6_holds : Cond.instanceMethod yX6_holds ∈ TB ∧ Cond.selects yX6_holds.cls yX6_holds yX6_holds ∈ TB := ⟨tb_in 790 (by decide +kernel) rfl, tb_in 791 (by decide +kernel) rfl⟩
theorem mcX6_itemAt : zMc yX6_itemAt cX6_itemAt 2 (some .int) 1 := ⟨tb_in 509 (by decide +kernel) rfl, tb_in 50 (by decide +kernel) rfl, by decide +kernel⟩
theorem miX6_itemAt : Cond.instanceMethod yX6_itemAt ∈ TB ∧ Cond.selects yX6_itemAt.cls yX6_itemAt yX6_itemAt ∈ TB := ⟨tb_in 507 (by decide +kernel) rfl, tb_in 508 (by decide +kernel) rfl⟩
theorem mcX6_store : zMc yX6_store cX6_store 3 none 2 := ⟨tb_in 779 (by decide +kernel) rfl, tb_in 50 (by decide +kernel) rfl, by decide +kernel⟩
theorem miX6_store : Cond.instanceMethod yX6_store ∈ TB ∧ Cond.selects yX6_store.cls yX6_store yX6_store ∈ TB := ⟨tb_in 777 (by decide +kernel) rfl, tb_in 778 (by decide +kernel) rfl⟩
theorem mcX7_init : zMc yX7_init cX7_init 1 none 0 := ⟨tb_in 75 (by decide +kernel) rfl, tb_in 48 (by decide +kernel) rfl, by decide +kernel⟩
theorem miX7_init : Cond.instanceMethod yX7_init ∈ TB := tb_in 74 (by decide +kernel) rfl
theorem mcX7_append : zMc yX7_append cX7_append 2 (some .int) 1 := ⟨tb_in 312 (by decide +kernel) rfl, tb_in 48 (by decide +kernel) rfl, by decide +kernel⟩
theorem miX7_append : Cond.instanceMethod yX7_append ∈ TB ∧ Cond.selects yX7_append.cls yX7_append yX7_append ∈ TB := ⟨tb_in 310 (by decide +kernel) rfl, tb_in 311 (by decide +kernel) rfl⟩
theorem mcX7_clear : zMc yX7_clear cX7_clear 2 (some .int) 0 := ⟨tb_in 332 (by decide +kernel) rfl, tb_in 48 (by decide +kernel) rfl, by decide +kernel⟩
theorem miX7_clear : Cond.instanceMethod yX7_clear ∈ TB ∧ Cond.selects yX7_clear.cls yX7_clear yX7_clear ∈ TB := ⟨tb_in 330 (by decide +kernel) rfl, tb_in 331 (by decide +kernel) rfl⟩
theorem mcX7_parse : zMc yX7_parse cX7_parse 4 none 0 := ⟨tb_in 316 (by decide +kernel) rfl, tb_in 48 (by decide +kernel) rfl, by decide +kernel⟩
theorem miX7_parse : Cond.instanceMethod yX7_parse ∈ TB ∧ Cond.selects yX7_parse.cls yX7_parse yX7_parse ∈ TB := ⟨tb_in 315 (by decide +kernel) rfl, tb_in 1 (by decide +kernel) rfl⟩
theorem mcX7_firstFault : zMc yX7_firstFault cX7_firstFault 2 (some .int) 0 := ⟨tb_in 320 (by decide +kernel) rfl, tb_in 48 (by decide +kernel) rfl, by decide +kernel⟩
theorem miX7_firstFault : Cond.instanceMethod yX7_firstFault ∈ TB ∧ Cond.selects yX7_firstFault.cls yX7_firstFault yX7_firstFault ∈ TB := ⟨tb_in 319 (by decide +kernel) rfl, tb_in 2 (by decide +kernel) rfl⟩
theorem mcX7_goesOn : zMc yX7_goesOn cX7_goesOn 2 (some .boolean) 2 := ⟨tb_in 323 (by decide +kernel) rfl, tb_in 48 (by decide +kernel) rfl, by decide +kernel⟩
theorem msX7_goesOn : Cond.static yX7_goesOn ∈ TB := tb_in 322 (by decide +kernel) rfl
theorem mcX7_has : zMc yX7_has cX7_has 2 (some .boolean) 1 := ⟨tb_in 344 (by decide +kernel) rfl, tb_in 48 (by decide +kernel) rfl, by decide +kernel⟩
theorem miX7_has : Cond.instanceMethod yX7_has ∈ TB ∧ Cond.selects yX7_has.cls yX7_has yX7_has ∈ TB := ⟨tb_in 342 (by decide +kernel) rfl, tb_in 343 (by decide +kernel) rfl⟩
theorem mcX7_placeAt : zMc yX7_placeAt cX7_placeAt 4 (some .int) 2 := ⟨tb_in 348 (by decide +kernel) rfl, tb_in 48 (by decide +kernel) rfl, by decide +kernel⟩
theorem miX7_placeAt : Cond.instanceMethod yX7_placeAt ∈ TB ∧ Cond.selects yX7_placeAt.cls yX7_placeAt yX7_placeAt ∈ TB := ⟨tb_in 346 (by decide +kernel) rfl, tb_in 347 (by decide +kernel) rfl⟩
theorem mcX7_stepBetween : zMc yX7_stepBetween cX7_stepBetween 6 (some .int) 3 := ⟨tb_in 356 (by decide +kernel) rfl, tb_in 48 (by decide +kernel) rfl, by decide +kernel⟩
theorem miX7_stepBetween : Cond.instanceMethod yX7_stepBetween ∈ TB ∧ Cond.selects yX7_stepBetween.cls yX7_stepBetween yX7_stepBetween ∈ TB := ⟨tb_in 354 (by decide +kernel) rfl, tb_in 355 (by decide +kernel) rfl⟩
theorem mcX7_partStep : zMc yX7_partStep cX7_partStep 3 (some .int) 3 := ⟨tb_in 360 (by decide +kernel) rfl, tb_in 48 (by decide +kernel) rfl, by decide +kernel⟩
theorem msX7_partStep : Cond.static yX7_partStep ∈ TB := tb_in 359 (by decide +kernel) rfl
theorem mcX7_behind : zMc yX7_behind cX7_behind 2 (some .int) 1 := ⟨tb_in 375 (by decide +kernel) rfl, tb_in 48 (by decide +kernel) rfl, by decide +kernel⟩
theorem miX7_behind : Cond.instanceMethod yX7_behind ∈ TB ∧ Cond.selects yX7_behind.cls yX7_behind yX7_behind ∈ TB := ⟨tb_in 374 (by decide +kernel) rfl, tb_in 3 (by decide +kernel) rfl⟩
theorem mcX7_stepsRound : zMc yX7_stepsRound cX7_stepsRound 4 (some .int) 1 := ⟨tb_in 371 (by decide +kernel) rfl, tb_in 48 (by decide +kernel) rfl, by decide +kernel⟩
theorem miX7_stepsRound : Cond.instanceMethod yX7_stepsRound ∈ TB ∧ Cond.selects yX7_stepsRound.cls yX7_stepsRound yX7_stepsRound ∈ TB := ⟨tb_in 369 (by decide +kernel) rfl, tb_in 370 (by decide +kernel) rfl⟩
theorem mcX7_halfAt : zMc yX7_halfAt cX7_halfAt 5 (some .int) 2 := ⟨tb_in 671 (by decide +kernel) rfl, tb_in 48 (by decide +kernel) rfl, by decide +kernel⟩
theorem miX7_halfAt : Cond.instanceMethod yX7_halfAt ∈ TB ∧ Cond.selects yX7_halfAt.cls yX7_halfAt yX7_halfAt ∈ TB := ⟨tb_in 669 (by decide +kernel) rfl, tb_in 670 (by decide +kernel) rfl⟩
theorem mcX7_lowering : zMc yX7_lowering cX7_lowering 9 (some .int) 2 := ⟨tb_in 667 (by decide +kernel) rfl, tb_in 48 (by decide +kernel) rfl, by decide +kernel⟩
theorem miX7_lowering : Cond.instanceMethod yX7_lowering ∈ TB ∧ Cond.selects yX7_lowering.cls yX7_lowering yX7_lowering ∈ TB := ⟨tb_in 665 (by decide +kernel) rfl, tb_in 666 (by decide +kernel) rfl⟩
theorem mcX7_missingBehind : zMc yX7_missingBehind cX7_missingBehind 6 (some .int) 1 := ⟨tb_in 663 (by decide +kernel) rfl, tb_in 48 (by decide +kernel) rfl, by decide +kernel⟩
theorem miX7_missingBehind : Cond.instanceMethod yX7_missingBehind ∈ TB ∧ Cond.selects yX7_missingBehind.cls yX7_missingBehind yX7_missingBehind ∈ TB := ⟨tb_in 661 (by decide +kernel) rfl, tb_in 662 (by decide +kernel) rfl⟩
theorem mcX7_fewest : zMc yX7_fewest cX7_fewest 6 (some .int) 2 := ⟨tb_in 685 (by decide +kernel) rfl, tb_in 48 (by decide +kernel) rfl, by decide +kernel⟩
theorem miX7_fewest : Cond.instanceMethod yX7_fewest ∈ TB ∧ Cond.selects yX7_fewest.cls yX7_fewest yX7_fewest ∈ TB := ⟨tb_in 683 (by decide +kernel) rfl, tb_in 684 (by decide +kernel) rfl⟩
theorem mcX7_findNear : zMc yX7_findNear cX7_findNear 5 none 2 := ⟨tb_in 689 (by decide +kernel) rfl, tb_in 48 (by decide +kernel) rfl, by decide +kernel⟩
theorem miX7_findNear : Cond.instanceMethod yX7_findNear ∈ TB ∧ Cond.selects yX7_findNear.cls yX7_findNear yX7_findNear ∈ TB := ⟨tb_in 688 (by decide +kernel) rfl, tb_in 15 (by decide +kernel) rfl⟩
theorem mcX7_reaches : zMc yX7_reaches cX7_reaches 3 (some .boolean) 1 := ⟨tb_in 694 (by decide +kernel) rfl, tb_in 48 (by decide +kernel) rfl, by decide +kernel⟩
theorem miX7_reaches : Cond.instanceMethod yX7_reaches ∈ TB ∧ Cond.selects yX7_reaches.cls yX7_reaches yX7_reaches ∈ TB := ⟨tb_in 693 (by decide +kernel) rfl, tb_in 16 (by decide +kernel) rfl⟩
theorem mcX8_init : zMc yX8_init cX8_init 1 none 0 := ⟨tb_in 211 (by decide +kernel) rfl, tb_in 53 (by decide +kernel) rfl, by decide +kernel⟩
theorem miX8_init : Cond.instanceMethod yX8_init ∈ TB := tb_in 210 (by decide +kernel) rfl
theorem mcX8_add : zMc yX8_add cX8_add 4 (some .int) 3 := ⟨tb_in 702 (by decide +kernel) rfl, tb_in 53 (by decide +kernel) rfl, by decide +kernel⟩
theorem miX8_add : Cond.instanceMethod yX8_add ∈ TB ∧ Cond.selects yX8_add.cls yX8_add yX8_add ∈ TB := ⟨tb_in 700 (by decide +kernel) rfl, tb_in 701 (by decide +kernel) rfl⟩
theorem mcX8_toldOtherwise : zMc yX8_toldOtherwise cX8_toldOtherwise 6 (some .int) 2 := ⟨tb_in 710 (by decide +kernel) rfl, tb_in 53 (by decide +kernel) rfl, by decide +kernel⟩
theorem miX8_toldOtherwise : Cond.instanceMethod yX8_toldOtherwise ∈ TB ∧ Cond.selects yX8_toldOtherwise.cls yX8_toldOtherwise yX8_toldOtherwise ∈ TB := ⟨tb_in 708 (by decide +kernel) rfl, tb_in 709 (by decide +kernel) rfl⟩
theorem mcX8_search : zMc yX8_search cX8_search 4 none 0 := ⟨tb_in 718 (by decide +kernel) rfl, tb_in 53 (by decide +kernel) rfl, by decide +kernel⟩
theorem miX8_search : Cond.instanceMethod yX8_search ∈ TB ∧ Cond.selects yX8_search.cls yX8_search yX8_search ∈ TB := ⟨tb_in 716 (by decide +kernel) rfl, tb_in 717 (by decide +kernel) rfl⟩
theorem mcX9_stands : zMc yX9_stands cX9_stands 3 (some .boolean) 3 := ⟨tb_in 447 (by decide +kernel) rfl, tb_in 59 (by decide +kernel) rfl, by decide +kernel⟩
theorem msX9_stands : Cond.static yX9_stands ∈ TB := tb_in 446 (by decide +kernel) rfl
theorem mcX9_isSecond : zMc yX9_isSecond cX9_isSecond 1 (some .boolean) 1 := ⟨tb_in 463 (by decide +kernel) rfl, tb_in 59 (by decide +kernel) rfl, by decide +kernel⟩
theorem msX9_isSecond : Cond.static yX9_isSecond ∈ TB := tb_in 462 (by decide +kernel) rfl
theorem mcX9_seemsBelow : zMc yX9_seemsBelow cX9_seemsBelow 1 (some .int) 1 := ⟨tb_in 454 (by decide +kernel) rfl, tb_in 59 (by decide +kernel) rfl, by decide +kernel⟩
theorem msX9_seemsBelow : Cond.static yX9_seemsBelow ∈ TB := tb_in 453 (by decide +kernel) rfl
theorem mcX9_seemsAbove : zMc yX9_seemsAbove cX9_seemsAbove 5 (some .int) 3 := ⟨tb_in 451 (by decide +kernel) rfl, tb_in 59 (by decide +kernel) rfl, by decide +kernel⟩
theorem msX9_seemsAbove : Cond.static yX9_seemsAbove ∈ TB := tb_in 450 (by decide +kernel) rfl
theorem mcX9_alike : zMc yX9_alike cX9_alike 4 (some .boolean) 4 := ⟨tb_in 472 (by decide +kernel) rfl, tb_in 59 (by decide +kernel) rfl, by decide +kernel⟩
theorem msX9_alike : Cond.static yX9_alike ∈ TB := tb_in 471 (by decide +kernel) rfl
theorem mcX9_fit : zMc yX9_fit cX9_fit 5 (some .boolean) 5 := ⟨tb_in 469 (by decide +kernel) rfl, tb_in 59 (by decide +kernel) rfl, by decide +kernel⟩
theorem msX9_fit : Cond.static yX9_fit ∈ TB := tb_in 468 (by decide +kernel) rfl
theorem mcX9_howManyFit : zMc yX9_howManyFit cX9_howManyFit 7 (some .int) 5 := ⟨tb_in 466 (by decide +kernel) rfl, tb_in 59 (by decide +kernel) rfl, by decide +kernel⟩
theorem msX9_howManyFit : Cond.static yX9_howManyFit ∈ TB := tb_in 465 (by decide +kernel) rfl
theorem mcX9_fitting : zMc yX9_fitting cX9_fitting 7 (some .int) 5 := ⟨tb_in 476 (by decide +kernel) rfl, tb_in 59 (by decide +kernel) rfl, by decide +kernel⟩
theorem msX9_fitting : Cond.static yX9_fitting ∈ TB := tb_in 475 (by decide +kernel) rfl
theorem mcX10_init : zMc yX10_init cX10_init 1 none 0 := ⟨tb_in 67 (by decide +kernel) rfl, tb_in 47 (by decide +kernel) rfl, by decide +kernel⟩
theorem miX10_init : Cond.instanceMethod yX10_init ∈ TB := tb_in 66 (by decide +kernel) rfl
theorem mcX10_type : zMc yX10_type cX10_type 4 (some .int) 2 := ⟨tb_in 301 (by decide +kernel) rfl, tb_in 47 (by decide +kernel) rfl, by decide +kernel⟩
theorem miX10_type : Cond.instanceMethod yX10_type ∈ TB ∧ Cond.selects yX10_type.cls yX10_type yX10_type ∈ TB := ⟨tb_in 299 (by decide +kernel) rfl, tb_in 300 (by decide +kernel) rfl⟩
theorem mcX10_wipe : zMc yX10_wipe cX10_wipe 3 (some .int) 1 := ⟨tb_in 328 (by decide +kernel) rfl, tb_in 47 (by decide +kernel) rfl, by decide +kernel⟩
theorem miX10_wipe : Cond.instanceMethod yX10_wipe ∈ TB ∧ Cond.selects yX10_wipe.cls yX10_wipe yX10_wipe ∈ TB := ⟨tb_in 326 (by decide +kernel) rfl, tb_in 327 (by decide +kernel) rfl⟩
theorem mcX10_fault : zMc yX10_fault cX10_fault 3 (some .int) 1 := ⟨tb_in 336 (by decide +kernel) rfl, tb_in 47 (by decide +kernel) rfl, by decide +kernel⟩
theorem miX10_fault : Cond.instanceMethod yX10_fault ∈ TB ∧ Cond.selects yX10_fault.cls yX10_fault yX10_fault ∈ TB := ⟨tb_in 334 (by decide +kernel) rfl, tb_in 335 (by decide +kernel) rfl⟩
theorem mcX10_place : zMc yX10_place cX10_place 5 (some .int) 3 := ⟨tb_in 340 (by decide +kernel) rfl, tb_in 47 (by decide +kernel) rfl, by decide +kernel⟩
theorem miX10_place : Cond.instanceMethod yX10_place ∈ TB ∧ Cond.selects yX10_place.cls yX10_place yX10_place ∈ TB := ⟨tb_in 338 (by decide +kernel) rfl, tb_in 339 (by decide +kernel) rfl⟩
theorem mcX10_step : zMc yX10_step cX10_step 5 (some .int) 3 := ⟨tb_in 352 (by decide +kernel) rfl, tb_in 47 (by decide +kernel) rfl, by decide +kernel⟩
theorem miX10_step : Cond.instanceMethod yX10_step ∈ TB ∧ Cond.selects yX10_step.cls yX10_step yX10_step ∈ TB := ⟨tb_in 350 (by decide +kernel) rfl, tb_in 351 (by decide +kernel) rfl⟩
theorem mcX10_whole : zMc yX10_whole cX10_whole 3 (some .int) 1 := ⟨tb_in 367 (by decide +kernel) rfl, tb_in 47 (by decide +kernel) rfl, by decide +kernel⟩
theorem miX10_whole : Cond.instanceMethod yX10_whole ∈ TB ∧ Cond.selects yX10_whole.cls yX10_whole yX10_whole ∈ TB := ⟨tb_in 365 (by decide +kernel) rfl, tb_in 366 (by decide +kernel) rfl⟩
theorem mcX10_set : zMc yX10_set cX10_set 4 (some .int) 2 := ⟨tb_in 380 (by decide +kernel) rfl, tb_in 47 (by decide +kernel) rfl, by decide +kernel⟩
theorem miX10_set : Cond.instanceMethod yX10_set ∈ TB ∧ Cond.selects yX10_set.cls yX10_set yX10_set ∈ TB := ⟨tb_in 378 (by decide +kernel) rfl, tb_in 379 (by decide +kernel) rfl⟩
theorem mcX10_drum : zMc yX10_drum cX10_drum 4 (some .int) 3 := ⟨tb_in 384 (by decide +kernel) rfl, tb_in 47 (by decide +kernel) rfl, by decide +kernel⟩
theorem miX10_drum : Cond.instanceMethod yX10_drum ∈ TB ∧ Cond.selects yX10_drum.cls yX10_drum yX10_drum ∈ TB := ⟨tb_in 382 (by decide +kernel) rfl, tb_in 383 (by decide +kernel) rfl⟩
theorem mcX10_drift : zMc yX10_drift cX10_drift 4 (some .long) 3 := ⟨tb_in 411 (by decide +kernel) rfl, tb_in 47 (by decide +kernel) rfl, by decide +kernel⟩
theorem miX10_drift : Cond.instanceMethod yX10_drift ∈ TB ∧ Cond.selects yX10_drift.cls yX10_drift yX10_drift ∈ TB := ⟨tb_in 409 (by decide +kernel) rfl, tb_in 410 (by decide +kernel) rfl⟩
theorem mcX10_seen : zMc yX10_seen cX10_seen 5 (some .int) 3 := ⟨tb_in 427 (by decide +kernel) rfl, tb_in 47 (by decide +kernel) rfl, by decide +kernel⟩
theorem miX10_seen : Cond.instanceMethod yX10_seen ∈ TB ∧ Cond.selects yX10_seen.cls yX10_seen yX10_seen ∈ TB := ⟨tb_in 425 (by decide +kernel) rfl, tb_in 426 (by decide +kernel) rfl⟩
theorem mcX10_numbers : zMc yX10_numbers cX10_numbers 4 (some .int) 3 := ⟨tb_in 436 (by decide +kernel) rfl, tb_in 47 (by decide +kernel) rfl, by decide +kernel⟩
theorem miX10_numbers : Cond.instanceMethod yX10_numbers ∈ TB ∧ Cond.selects yX10_numbers.cls yX10_numbers yX10_numbers ∈ TB := ⟨tb_in 434 (by decide +kernel) rfl, tb_in 435 (by decide +kernel) rfl⟩
theorem mcX10_wheel : zMc yX10_wheel cX10_wheel 5 (some .long) 4 := ⟨tb_in 444 (by decide +kernel) rfl, tb_in 47 (by decide +kernel) rfl, by decide +kernel⟩
theorem miX10_wheel : Cond.instanceMethod yX10_wheel ∈ TB ∧ Cond.selects yX10_wheel.cls yX10_wheel yX10_wheel ∈ TB := ⟨tb_in 442 (by decide +kernel) rfl, tb_in 443 (by decide +kernel) rfl⟩
theorem mcX10_fits : zMc yX10_fits cX10_fits 6 (some .int) 5 := ⟨tb_in 460 (by decide +kernel) rfl, tb_in 47 (by decide +kernel) rfl, by decide +kernel⟩
theorem miX10_fits : Cond.instanceMethod yX10_fits ∈ TB ∧ Cond.selects yX10_fits.cls yX10_fits yX10_fits ∈ TB := ⟨tb_in 458 (by decide +kernel) rfl, tb_in 459 (by decide +kernel) rfl⟩
theorem mcX10_upTo : zMc yX10_upTo cX10_upTo 6 (some .int) 5 := ⟨tb_in 480 (by decide +kernel) rfl, tb_in 47 (by decide +kernel) rfl, by decide +kernel⟩
theorem miX10_upTo : Cond.instanceMethod yX10_upTo ∈ TB ∧ Cond.selects yX10_upTo.cls yX10_upTo yX10_upTo ∈ TB := ⟨tb_in 478 (by decide +kernel) rfl, tb_in 479 (by decide +kernel) rfl⟩
theorem mcX10_dot : zMc yX10_dot cX10_dot 5 (some .int) 3 := ⟨tb_in 484 (by decide +kernel) rfl, tb_in 47 (by decide +kernel) rfl, by decide +kernel⟩
theorem miX10_dot : Cond.instanceMethod yX10_dot ∈ TB ∧ Cond.selects yX10_dot.cls yX10_dot yX10_dot ∈ TB := ⟨tb_in 482 (by decide +kernel) rfl, tb_in 483 (by decide +kernel) rfl⟩
theorem mcX10_read : zMc yX10_read cX10_read 6 (some .int) 2 := ⟨tb_in 497 (by decide +kernel) rfl, tb_in 47 (by decide +kernel) rfl, by decide +kernel⟩
theorem miX10_read : Cond.instanceMethod yX10_read ∈ TB ∧ Cond.selects yX10_read.cls yX10_read yX10_read ∈ TB := ⟨tb_in 495 (by decide +kernel) rfl, tb_in 496 (by decide +kernel) rfl⟩
theorem mcX10_blink : zMc yX10_blink cX10_blink 3 (some .int) 1 := ⟨tb_in 514 (by decide +kernel) rfl, tb_in 47 (by decide +kernel) rfl, by decide +kernel⟩
theorem miX10_blink : Cond.instanceMethod yX10_blink ∈ TB ∧ Cond.selects yX10_blink.cls yX10_blink yX10_blink ∈ TB := ⟨tb_in 512 (by decide +kernel) rfl, tb_in 513 (by decide +kernel) rfl⟩
theorem mcX10_join : zMc yX10_join cX10_join 2 (some .int) 1 := ⟨tb_in 522 (by decide +kernel) rfl, tb_in 47 (by decide +kernel) rfl, by decide +kernel⟩
theorem miX10_join : Cond.instanceMethod yX10_join ∈ TB ∧ Cond.selects yX10_join.cls yX10_join yX10_join ∈ TB := ⟨tb_in 520 (by decide +kernel) rfl, tb_in 521 (by decide +kernel) rfl⟩
theorem mcX10_net : zMc yX10_net cX10_net 1 (some .int) 0 := ⟨tb_in 582 (by decide +kernel) rfl, tb_in 47 (by decide +kernel) rfl, by decide +kernel⟩
theorem miX10_net : Cond.instanceMethod yX10_net ∈ TB ∧ Cond.selects yX10_net.cls yX10_net yX10_net ∈ TB := ⟨tb_in 580 (by decide +kernel) rfl, tb_in 581 (by decide +kernel) rfl⟩
theorem mcX10_joined : zMc yX10_joined cX10_joined 4 (some .int) 2 := ⟨tb_in 586 (by decide +kernel) rfl, tb_in 47 (by decide +kernel) rfl, by decide +kernel⟩
theorem miX10_joined : Cond.instanceMethod yX10_joined ∈ TB ∧ Cond.selects yX10_joined.cls yX10_joined yX10_joined ∈ TB := ⟨tb_in 584 (by decide +kernel) rfl, tb_in 585 (by decide +kernel) rfl⟩
theorem mcX10_narrow : zMc yX10_narrow cX10_narrow 5 (some .long) 4 := ⟨tb_in 595 (by decide +kernel) rfl, tb_in 47 (by decide +kernel) rfl, by decide +kernel⟩
theorem miX10_narrow : Cond.instanceMethod yX10_narrow ∈ TB ∧ Cond.selects yX10_narrow.cls yX10_narrow yX10_narrow ∈ TB := ⟨tb_in 593 (by decide +kernel) rfl, tb_in 594 (by decide +kernel) rfl⟩
theorem mcX10_wide : zMc yX10_wide cX10_wide 5 (some .int) 3 := ⟨tb_in 602 (by decide +kernel) rfl, tb_in 47 (by decide +kernel) rfl, by decide +kernel⟩
theorem miX10_wide : Cond.instanceMethod yX10_wide ∈ TB ∧ Cond.selects yX10_wide.cls yX10_wide yX10_wide ∈ TB := ⟨tb_in 600 (by decide +kernel) rfl, tb_in 601 (by decide +kernel) rfl⟩
theorem mcX10_slit : zMc yX10_slit cX10_slit 5 (some .int) 2 := ⟨tb_in 606 (by decide +kernel) rfl, tb_in 47 (by decide +kernel) rfl, by decide +kernel⟩
theorem miX10_slit : Cond.instanceMethod yX10_slit ∈ TB ∧ Cond.selects yX10_slit.cls yX10_slit yX10_slit ∈ TB := ⟨tb_in 604 (by decide +kernel) rfl, tb_in 605 (by decide +kernel) rfl⟩
theorem mcX10_order : zMc yX10_order cX10_order 5 (some .int) 2 := ⟨tb_in 613 (by decide +kernel) rfl, tb_in 47 (by decide +kernel) rfl, by decide +kernel⟩
theorem miX10_order : Cond.instanceMethod yX10_order ∈ TB ∧ Cond.selects yX10_order.cls yX10_order yX10_order ∈ TB := ⟨tb_in 611 (by decide +kernel) rfl, tb_in 612 (by decide +kernel) rfl⟩
theorem mcX10_orders : zMc yX10_orders cX10_orders 4 (some .int) 1 := ⟨tb_in 651 (by decide +kernel) rfl, tb_in 47 (by decide +kernel) rfl, by decide +kernel⟩
theorem miX10_orders : Cond.instanceMethod yX10_orders ∈ TB ∧ Cond.selects yX10_orders.cls yX10_orders yX10_orders ∈ TB := ⟨tb_in 649 (by decide +kernel) rfl, tb_in 650 (by decide +kernel) rfl⟩
theorem mcX10_missing : zMc yX10_missing cX10_missing 5 (some .int) 2 := ⟨tb_in 659 (by decide +kernel) rfl, tb_in 47 (by decide +kernel) rfl, by decide +kernel⟩
theorem miX10_missing : Cond.instanceMethod yX10_missing ∈ TB ∧ Cond.selects yX10_missing.cls yX10_missing yX10_missing ∈ TB := ⟨tb_in 657 (by decide +kernel) rfl, tb_in 658 (by decide +kernel) rfl⟩
theorem mcX10_half : zMc yX10_half cX10_half 5 (some .int) 3 := ⟨tb_in 676 (by decide +kernel) rfl, tb_in 47 (by decide +kernel) rfl, by decide +kernel⟩
theorem miX10_half : Cond.instanceMethod yX10_half ∈ TB ∧ Cond.selects yX10_half.cls yX10_half yX10_half ∈ TB := ⟨tb_in 674 (by decide +kernel) rfl, tb_in 675 (by decide +kernel) rfl⟩
theorem mcX10_few : zMc yX10_few cX10_few 4 (some .int) 2 := ⟨tb_in 681 (by decide +kernel) rfl, tb_in 47 (by decide +kernel) rfl, by decide +kernel⟩
theorem miX10_few : Cond.instanceMethod yX10_few ∈ TB ∧ Cond.selects yX10_few.cls yX10_few yX10_few ∈ TB := ⟨tb_in 679 (by decide +kernel) rfl, tb_in 680 (by decide +kernel) rfl⟩
theorem mcX10_tries : zMc yX10_tries cX10_tries 4 (some .int) 3 := ⟨tb_in 698 (by decide +kernel) rfl, tb_in 47 (by decide +kernel) rfl, by decide +kernel⟩
theorem miX10_tries : Cond.instanceMethod yX10_tries ∈ TB ∧ Cond.selects yX10_tries.cls yX10_tries yX10_tries ∈ TB := ⟨tb_in 696 (by decide +kernel) rfl, tb_in 697 (by decide +kernel) rfl⟩
theorem mcX10_wrong : zMc yX10_wrong cX10_wrong 3 (some .int) 2 := ⟨tb_in 706 (by decide +kernel) rfl, tb_in 47 (by decide +kernel) rfl, by decide +kernel⟩
theorem miX10_wrong : Cond.instanceMethod yX10_wrong ∈ TB ∧ Cond.selects yX10_wrong.cls yX10_wrong yX10_wrong ∈ TB := ⟨tb_in 704 (by decide +kernel) rfl, tb_in 705 (by decide +kernel) rfl⟩
theorem mcX10_line : zMc yX10_line cX10_line 2 (some .int) 1 := ⟨tb_in 714 (by decide +kernel) rfl, tb_in 47 (by decide +kernel) rfl, by decide +kernel⟩
theorem miX10_line : Cond.instanceMethod yX10_line ∈ TB ∧ Cond.selects yX10_line.cls yX10_line yX10_line ∈ TB := ⟨tb_in 712 (by decide +kernel) rfl, tb_in 713 (by decide +kernel) rfl⟩
theorem mcX10_bent : zMc yX10_bent cX10_bent 4 (some .int) 2 := ⟨tb_in 723 (by decide +kernel) rfl, tb_in 47 (by decide +kernel) rfl, by decide +kernel⟩
theorem miX10_bent : Cond.instanceMethod yX10_bent ∈ TB ∧ Cond.selects yX10_bent.cls yX10_bent yX10_bent ∈ TB := ⟨tb_in 721 (by decide +kernel) rfl, tb_in 722 (by decide +kernel) rfl⟩
theorem mcX10_sheet : zMc yX10_sheet cX10_sheet 5 (some .int) 3 := ⟨tb_in 754 (by decide +kernel) rfl, tb_in 47 (by decide +kernel) rfl, by decide +kernel⟩
theorem miX10_sheet : Cond.instanceMethod yX10_sheet ∈ TB ∧ Cond.selects yX10_sheet.cls yX10_sheet yX10_sheet ∈ TB := ⟨tb_in 752 (by decide +kernel) rfl, tb_in 753 (by decide +kernel) rfl⟩
theorem mcX10_lose : zMc yX10_lose cX10_lose 3 (some .int) 1 := ⟨tb_in 767 (by decide +kernel) rfl, tb_in 47 (by decide +kernel) rfl, by decide +kernel⟩
theorem miX10_lose : Cond.instanceMethod yX10_lose ∈ TB ∧ Cond.selects yX10_lose.cls yX10_lose yX10_lose ∈ TB := ⟨tb_in 765 (by decide +kernel) rfl, tb_in 766 (by decide +kernel) rfl⟩
theorem mcX10_put : zMc yX10_put cX10_put 7 (some .int) 4 := ⟨tb_in 771 (by decide +kernel) rfl, tb_in 47 (by decide +kernel) rfl, by decide +kernel⟩
theorem miX10_put : Cond.instanceMethod yX10_put ∈ TB ∧ Cond.selects yX10_put.cls yX10_put yX10_put ∈ TB := ⟨tb_in 769 (by decide +kernel) rfl, tb_in 770 (by decide +kernel) rfl⟩
theorem mcX10_get : zMc yX10_get cX10_get 6 (some .int) 3 := ⟨tb_in 783 (by decide +kernel) rfl, tb_in 47 (by decide +kernel) rfl, by decide +kernel⟩
theorem miX10_get : Cond.instanceMethod yX10_get ∈ TB ∧ Cond.selects yX10_get.cls yX10_get yX10_get ∈ TB := ⟨tb_in 781 (by decide +kernel) rfl, tb_in 782 (by decide +kernel) rfl⟩
theorem mcX10_copy : zMc yX10_copy cX10_copy 8 (some .int) 5 := ⟨tb_in 788 (by decide +kernel) rfl, tb_in 47 (by decide +kernel) rfl, by decide +kernel⟩
theorem miX10_copy : Cond.instanceMethod yX10_copy ∈ TB ∧ Cond.selects yX10_copy.cls yX10_copy yX10_copy ∈ TB := ⟨tb_in 786 (by decide +kernel) rfl, tb_in 787 (by decide +kernel) rfl⟩
theorem mcX10_write : zMc yX10_write cX10_write 7 (some .int) 3 := ⟨tb_in 799 (by decide +kernel) rfl, tb_in 47 (by decide +kernel) rfl, by decide +kernel⟩
theorem miX10_write : Cond.instanceMethod yX10_write ∈ TB ∧ Cond.selects yX10_write.cls yX10_write yX10_write ∈ TB := ⟨tb_in 797 (by decide +kernel) rfl, tb_in 798 (by decide +kernel) rfl⟩
theorem mcX10_count : zMc yX10_count cX10_count 2 (some .int) 1 := ⟨tb_in 803 (by decide +kernel) rfl, tb_in 47 (by decide +kernel) rfl, by decide +kernel⟩
theorem miX10_count : Cond.instanceMethod yX10_count ∈ TB ∧ Cond.selects yX10_count.cls yX10_count yX10_count ∈ TB := ⟨tb_in 801 (by decide +kernel) rfl, tb_in 802 (by decide +kernel) rfl⟩
theorem mcX10_digest : zMc yX10_digest cX10_digest 4 (some .long) 0 := ⟨tb_in 807 (by decide +kernel) rfl, tb_in 47 (by decide +kernel) rfl, by decide +kernel⟩
theorem miX10_digest : Cond.instanceMethod yX10_digest ∈ TB ∧ Cond.selects yX10_digest.cls yX10_digest yX10_digest ∈ TB := ⟨tb_in 805 (by decide +kernel) rfl, tb_in 806 (by decide +kernel) rfl⟩
theorem mcX10_mixedStrip : zMc yX10_mixedStrip cX10_mixedStrip 8 (some .long) 2 := ⟨tb_in 817 (by decide +kernel) rfl, tb_in 47 (by decide +kernel) rfl, by decide +kernel⟩
theorem miX10_mixedStrip : Cond.instanceMethod yX10_mixedStrip ∈ TB ∧ Cond.selects yX10_mixedStrip.cls yX10_mixedStrip yX10_mixedStrip ∈ TB := ⟨tb_in 816 (by decide +kernel) rfl, tb_in 21 (by decide +kernel) rfl⟩
theorem mcX10_mixedLook : zMc yX10_mixedLook cX10_mixedLook 7 (some .long) 2 := ⟨tb_in 830 (by decide +kernel) rfl, tb_in 47 (by decide +kernel) rfl, by decide +kernel⟩
theorem miX10_mixedLook : Cond.instanceMethod yX10_mixedLook ∈ TB ∧ Cond.selects yX10_mixedLook.cls yX10_mixedLook yX10_mixedLook ∈ TB := ⟨tb_in 829 (by decide +kernel) rfl, tb_in 22 (by decide +kernel) rfl⟩
theorem mcX10_mixed : zMc yX10_mixed cX10_mixed 4 (some .long) 2 := ⟨tb_in 812 (by decide +kernel) rfl, tb_in 47 (by decide +kernel) rfl, by decide +kernel⟩
theorem msX10_mixed : Cond.static yX10_mixed ∈ TB := tb_in 811 (by decide +kernel) rfl
theorem mcX10_within : zMc yX10_within cX10_within 3 (some .boolean) 3 := ⟨tb_in 308 (by decide +kernel) rfl, tb_in 47 (by decide +kernel) rfl, by decide +kernel⟩
theorem msX10_within : Cond.static yX10_within ∈ TB := tb_in 307 (by decide +kernel) rfl
theorem mcX10_asLong : zMc yX10_asLong cX10_asLong 1 (some .long) 1 := ⟨tb_in 414 (by decide +kernel) rfl, tb_in 47 (by decide +kernel) rfl, by decide +kernel⟩
theorem msX10_asLong : Cond.static yX10_asLong ∈ TB := tb_in 413 (by decide +kernel) rfl
theorem mcX10_finding : zMc yX10_finding cX10_finding 2 (some .int) 1 := ⟨tb_in 505 (by decide +kernel) rfl, tb_in 47 (by decide +kernel) rfl, by decide +kernel⟩
theorem miX10_finding : Cond.instanceMethod yX10_finding ∈ TB ∧ Cond.selects yX10_finding.cls yX10_finding yX10_finding ∈ TB := ⟨tb_in 504 (by decide +kernel) rfl, tb_in 6 (by decide +kernel) rfl⟩
theorem mcX10_stripAt : zMc yX10_stripAt cX10_stripAt 2 (some (.object "DrumSlits$Strip")) 1 := ⟨tb_in 305 (by decide +kernel) rfl, tb_in 47 (by decide +kernel) rfl, by decide +kernel⟩
theorem miX10_stripAt : Cond.instanceMethod yX10_stripAt ∈ TB ∧ Cond.selects yX10_stripAt.cls yX10_stripAt yX10_stripAt ∈ TB := ⟨tb_in 304 (by decide +kernel) rfl, tb_in 0 (by decide +kernel) rfl⟩
theorem mcX10_lookAt : zMc yX10_lookAt cX10_lookAt 2 (some (.object "DrumSlits$Look")) 1 := ⟨tb_in 488 (by decide +kernel) rfl, tb_in 47 (by decide +kernel) rfl, by decide +kernel⟩
theorem miX10_lookAt : Cond.instanceMethod yX10_lookAt ∈ TB ∧ Cond.selects yX10_lookAt.cls yX10_lookAt yX10_lookAt ∈ TB := ⟨tb_in 487 (by decide +kernel) rfl, tb_in 4 (by decide +kernel) rfl⟩
theorem mcX10_sheetAt : zMc yX10_sheetAt cX10_sheetAt 2 (some (.object "DrumSlits$Sheet")) 1 := ⟨tb_in 501 (by decide +kernel) rfl, tb_in 47 (by decide +kernel) rfl, by decide +kernel⟩
theorem miX10_sheetAt : Cond.instanceMethod yX10_sheetAt ∈ TB ∧ Cond.selects yX10_sheetAt.cls yX10_sheetAt yX10_sheetAt ∈ TB := ⟨tb_in 500 (by decide +kernel) rfl, tb_in 5 (by decide +kernel) rfl⟩
theorem mcX10_looseRefusal : zMc yX10_looseRefusal cX10_looseRefusal 1 (some .int) 1 := ⟨tb_in 616 (by decide +kernel) rfl, tb_in 47 (by decide +kernel) rfl, by decide +kernel⟩
theorem msX10_looseRefusal : Cond.static yX10_looseRefusal ∈ TB := tb_in 615 (by decide +kernel) rfl
theorem mcX10_isDrawing : zMc yX10_isDrawing cX10_isDrawing 2 (some .boolean) 2 := ⟨tb_in 598 (by decide +kernel) rfl, tb_in 47 (by decide +kernel) rfl, by decide +kernel⟩
theorem msX10_isDrawing : Cond.static yX10_isDrawing ∈ TB := tb_in 597 (by decide +kernel) rfl
theorem mcX10_slitWorth : zMc yX10_slitWorth cX10_slitWorth 3 (some .int) 3 := ⟨tb_in 609 (by decide +kernel) rfl, tb_in 47 (by decide +kernel) rfl, by decide +kernel⟩
theorem msX10_slitWorth : Cond.static yX10_slitWorth ∈ TB := tb_in 608 (by decide +kernel) rfl
theorem mcX11_init : zMc yX11_init cX11_init 1 none 0 := ⟨tb_in 838 (by decide +kernel) rfl, tb_in 55 (by decide +kernel) rfl, by decide +kernel⟩
theorem miX11_init : Cond.instanceMethod yX11_init ∈ TB := tb_in 837 (by decide +kernel) rfl
theorem mcX11_in : zMc yX11_in cX11_in 3 (some .boolean) 3 := ⟨tb_in 923 (by decide +kernel) rfl, tb_in 55 (by decide +kernel) rfl, by decide +kernel⟩
theorem msX11_in : Cond.static yX11_in ∈ TB := tb_in 922 (by decide +kernel) rfl
theorem mcX11_isIn : zMc yX11_isIn cX11_isIn 2 (some .boolean) 2 := ⟨tb_in 1073 (by decide +kernel) rfl, tb_in 55 (by decide +kernel) rfl, by decide +kernel⟩
theorem msX11_isIn : Cond.static yX11_isIn ∈ TB := tb_in 1072 (by decide +kernel) rfl
theorem mcX11_ones : zMc yX11_ones cX11_ones 3 (some .int) 1 := ⟨tb_in 1154 (by decide +kernel) rfl, tb_in 55 (by decide +kernel) rfl, by decide +kernel⟩
theorem msX11_ones : Cond.static yX11_ones ∈ TB := tb_in 1153 (by decide +kernel) rfl
theorem mcX11_amount : zMc yX11_amount cX11_amount 1 (some .int) 1 := ⟨tb_in 962 (by decide +kernel) rfl, tb_in 55 (by decide +kernel) rfl, by decide +kernel⟩
theorem msX11_amount : Cond.static yX11_amount ∈ TB := tb_in 961 (by decide +kernel) rfl
theorem mcX11_no : zMc yX11_no cX11_no 1 (some .long) 1 := ⟨tb_in 994 (by decide +kernel) rfl, tb_in 55 (by decide +kernel) rfl, by decide +kernel⟩
theorem msX11_no : Cond.static yX11_no ∈ TB := tb_in 993 (by decide +kernel) rfl
theorem mcX11_common : zMc yX11_common cX11_common 5 (some .int) 2 := ⟨tb_in 1001 (by decide +kernel) rfl, tb_in 55 (by decide +kernel) rfl, by decide +kernel⟩
theorem msX11_common : Cond.static yX11_common ∈ TB := tb_in 1000 (by decide +kernel) rfl
theorem mcX11_lowest : zMc yX11_lowest cX11_lowest 4 (some .long) 3 := ⟨tb_in 998 (by decide +kernel) rfl, tb_in 55 (by decide +kernel) rfl, by decide +kernel⟩
theorem msX11_lowest : Cond.static yX11_lowest ∈ TB := tb_in 997 (by decide +kernel) rfl
theorem mcX11_nearest : zMc yX11_nearest cX11_nearest 2 (some .int) 2 := ⟨tb_in 984 (by decide +kernel) rfl, tb_in 55 (by decide +kernel) rfl, by decide +kernel⟩
theorem msX11_nearest : Cond.static yX11_nearest ∈ TB := tb_in 983 (by decide +kernel) rfl
theorem mcX11_isStrip : zMc yX11_isStrip cX11_isStrip 1 (some .boolean) 1 := ⟨tb_in 920 (by decide +kernel) rfl, tb_in 55 (by decide +kernel) rfl, by decide +kernel⟩
theorem msX11_isStrip : Cond.static yX11_isStrip ∈ TB := tb_in 919 (by decide +kernel) rfl
theorem mcX11_type : zMc yX11_type cX11_type 3 (some .int) 2 := ⟨tb_in 917 (by decide +kernel) rfl, tb_in 55 (by decide +kernel) rfl, by decide +kernel⟩
theorem miX11_type : Cond.instanceMethod yX11_type ∈ TB ∧ Cond.selects yX11_type.cls yX11_type yX11_type ∈ TB := ⟨tb_in 915 (by decide +kernel) rfl, tb_in 916 (by decide +kernel) rfl⟩
theorem mcX11_wipe : zMc yX11_wipe cX11_wipe 3 (some .int) 1 := ⟨tb_in 927 (by decide +kernel) rfl, tb_in 55 (by decide +kernel) rfl, by decide +kernel⟩
theorem miX11_wipe : Cond.instanceMethod yX11_wipe ∈ TB ∧ Cond.selects yX11_wipe.cls yX11_wipe yX11_wipe ∈ TB := ⟨tb_in 925 (by decide +kernel) rfl, tb_in 926 (by decide +kernel) rfl⟩
theorem mcX11_byteAt : zMc yX11_byteAt cX11_byteAt 3 (some .int) 2 := ⟨tb_in 939 (by decide +kernel) rfl, tb_in 55 (by decide +kernel) rfl, by decide +kernel⟩
theorem miX11_byteAt : Cond.instanceMethod yX11_byteAt ∈ TB ∧ Cond.selects yX11_byteAt.cls yX11_byteAt yX11_byteAt ∈ TB := ⟨tb_in 938 (by decide +kernel) rfl, tb_in 24 (by decide +kernel) rfl⟩
theorem mcX11_faultNow : zMc yX11_faultNow cX11_faultNow 6 (some .int) 1 := ⟨tb_in 935 (by decide +kernel) rfl, tb_in 55 (by decide +kernel) rfl, by decide +kernel⟩
theorem miX11_faultNow : Cond.instanceMethod yX11_faultNow ∈ TB ∧ Cond.selects yX11_faultNow.cls yX11_faultNow yX11_faultNow ∈ TB := ⟨tb_in 934 (by decide +kernel) rfl, tb_in 23 (by decide +kernel) rfl⟩
theorem mcX11_fault : zMc yX11_fault cX11_fault 2 (some .int) 1 := ⟨tb_in 931 (by decide +kernel) rfl, tb_in 55 (by decide +kernel) rfl, by decide +kernel⟩
theorem miX11_fault : Cond.instanceMethod yX11_fault ∈ TB ∧ Cond.selects yX11_fault.cls yX11_fault yX11_fault ∈ TB := ⟨tb_in 929 (by decide +kernel) rfl, tb_in 930 (by decide +kernel) rfl⟩
theorem mcX11_pictures : zMc yX11_pictures cX11_pictures 3 (some .int) 1 := ⟨tb_in 947 (by decide +kernel) rfl, tb_in 55 (by decide +kernel) rfl, by decide +kernel⟩
theorem miX11_pictures : Cond.instanceMethod yX11_pictures ∈ TB ∧ Cond.selects yX11_pictures.cls yX11_pictures yX11_pictures ∈ TB := ⟨tb_in 946 (by decide +kernel) rfl, tb_in 25 (by decide +kernel) rfl⟩
theorem mcX11_place : zMc yX11_place cX11_place 4 (some .int) 3 := ⟨tb_in 943 (by decide +kernel) rfl, tb_in 55 (by decide +kernel) rfl, by decide +kernel⟩
theorem miX11_place : Cond.instanceMethod yX11_place ∈ TB ∧ Cond.selects yX11_place.cls yX11_place yX11_place ∈ TB := ⟨tb_in 941 (by decide +kernel) rfl, tb_in 942 (by decide +kernel) rfl⟩
theorem mcX11_stepBy : zMc yX11_stepBy cX11_stepBy 7 (some .int) 2 := ⟨tb_in 959 (by decide +kernel) rfl, tb_in 55 (by decide +kernel) rfl, by decide +kernel⟩
theorem miX11_stepBy : Cond.instanceMethod yX11_stepBy ∈ TB ∧ Cond.selects yX11_stepBy.cls yX11_stepBy yX11_stepBy ∈ TB := ⟨tb_in 958 (by decide +kernel) rfl, tb_in 27 (by decide +kernel) rfl⟩
theorem mcX11_stepOf : zMc yX11_stepOf cX11_stepOf 4 (some .int) 3 := ⟨tb_in 955 (by decide +kernel) rfl, tb_in 55 (by decide +kernel) rfl, by decide +kernel⟩
theorem miX11_stepOf : Cond.instanceMethod yX11_stepOf ∈ TB ∧ Cond.selects yX11_stepOf.cls yX11_stepOf yX11_stepOf ∈ TB := ⟨tb_in 954 (by decide +kernel) rfl, tb_in 26 (by decide +kernel) rfl⟩
theorem mcX11_step : zMc yX11_step cX11_step 5 (some .int) 3 := ⟨tb_in 951 (by decide +kernel) rfl, tb_in 55 (by decide +kernel) rfl, by decide +kernel⟩
theorem miX11_step : Cond.instanceMethod yX11_step ∈ TB ∧ Cond.selects yX11_step.cls yX11_step yX11_step ∈ TB := ⟨tb_in 949 (by decide +kernel) rfl, tb_in 950 (by decide +kernel) rfl⟩
theorem mcX11_wholeNow : zMc yX11_wholeNow cX11_wholeNow 5 (some .int) 1 := ⟨tb_in 970 (by decide +kernel) rfl, tb_in 55 (by decide +kernel) rfl, by decide +kernel⟩
theorem miX11_wholeNow : Cond.instanceMethod yX11_wholeNow ∈ TB ∧ Cond.selects yX11_wholeNow.cls yX11_wholeNow yX11_wholeNow ∈ TB := ⟨tb_in 969 (by decide +kernel) rfl, tb_in 28 (by decide +kernel) rfl⟩
theorem mcX11_whole : zMc yX11_whole cX11_whole 2 (some .int) 1 := ⟨tb_in 966 (by decide +kernel) rfl, tb_in 55 (by decide +kernel) rfl, by decide +kernel⟩
theorem miX11_whole : Cond.instanceMethod yX11_whole ∈ TB ∧ Cond.selects yX11_whole.cls yX11_whole yX11_whole ∈ TB := ⟨tb_in 964 (by decide +kernel) rfl, tb_in 965 (by decide +kernel) rfl⟩
theorem mcX11_set : zMc yX11_set cX11_set 4 (some .int) 2 := ⟨tb_in 974 (by decide +kernel) rfl, tb_in 55 (by decide +kernel) rfl, by decide +kernel⟩
theorem miX11_set : Cond.instanceMethod yX11_set ∈ TB ∧ Cond.selects yX11_set.cls yX11_set yX11_set ∈ TB := ⟨tb_in 972 (by decide +kernel) rfl, tb_in 973 (by decide +kernel) rfl⟩
theorem mcX11_isDrum : zMc yX11_isDrum cX11_isDrum 1 (some .boolean) 1 := ⟨tb_in 981 (by decide +kernel) rfl, tb_in 55 (by decide +kernel) rfl, by decide +kernel⟩
theorem msX11_isDrum : Cond.static yX11_isDrum ∈ TB := tb_in 980 (by decide +kernel) rfl
theorem mcX11_seeming : zMc yX11_seeming cX11_seeming 4 (some .int) 2 := ⟨tb_in 987 (by decide +kernel) rfl, tb_in 55 (by decide +kernel) rfl, by decide +kernel⟩
theorem msX11_seeming : Cond.static yX11_seeming ∈ TB := tb_in 986 (by decide +kernel) rfl
theorem mcX11_drum : zMc yX11_drum cX11_drum 4 (some .int) 3 := ⟨tb_in 978 (by decide +kernel) rfl, tb_in 55 (by decide +kernel) rfl, by decide +kernel⟩
theorem miX11_drum : Cond.instanceMethod yX11_drum ∈ TB ∧ Cond.selects yX11_drum.cls yX11_drum yX11_drum ∈ TB := ⟨tb_in 976 (by decide +kernel) rfl, tb_in 977 (by decide +kernel) rfl⟩
theorem mcX11_drift : zMc yX11_drift cX11_drift 4 (some .long) 3 := ⟨tb_in 991 (by decide +kernel) rfl, tb_in 55 (by decide +kernel) rfl, by decide +kernel⟩
theorem miX11_drift : Cond.instanceMethod yX11_drift ∈ TB ∧ Cond.selects yX11_drift.cls yX11_drift yX11_drift ∈ TB := ⟨tb_in 989 (by decide +kernel) rfl, tb_in 990 (by decide +kernel) rfl⟩
theorem mcX11_seenNow : zMc yX11_seenNow cX11_seenNow 6 (some .int) 3 := ⟨tb_in 1009 (by decide +kernel) rfl, tb_in 55 (by decide +kernel) rfl, by decide +kernel⟩
theorem miX11_seenNow : Cond.instanceMethod yX11_seenNow ∈ TB ∧ Cond.selects yX11_seenNow.cls yX11_seenNow yX11_seenNow ∈ TB := ⟨tb_in 1008 (by decide +kernel) rfl, tb_in 29 (by decide +kernel) rfl⟩
theorem mcX11_seen : zMc yX11_seen cX11_seen 4 (some .int) 3 := ⟨tb_in 1005 (by decide +kernel) rfl, tb_in 55 (by decide +kernel) rfl, by decide +kernel⟩
theorem miX11_seen : Cond.instanceMethod yX11_seen ∈ TB ∧ Cond.selects yX11_seen.cls yX11_seen yX11_seen ∈ TB := ⟨tb_in 1003 (by decide +kernel) rfl, tb_in 1004 (by decide +kernel) rfl⟩
theorem mcX11_numbersOf : zMc yX11_numbersOf cX11_numbersOf 6 (some .int) 3 := ⟨tb_in 1016 (by decide +kernel) rfl, tb_in 55 (by decide +kernel) rfl, by decide +kernel⟩
theorem msX11_numbersOf : Cond.static yX11_numbersOf ∈ TB := tb_in 1015 (by decide +kernel) rfl
theorem mcX11_numbers : zMc yX11_numbers cX11_numbers 4 (some .int) 3 := ⟨tb_in 1013 (by decide +kernel) rfl, tb_in 55 (by decide +kernel) rfl, by decide +kernel⟩
theorem miX11_numbers : Cond.instanceMethod yX11_numbers ∈ TB ∧ Cond.selects yX11_numbers.cls yX11_numbers yX11_numbers ∈ TB := ⟨tb_in 1011 (by decide +kernel) rfl, tb_in 1012 (by decide +kernel) rfl⟩
theorem mcX11_isWheel : zMc yX11_isWheel cX11_isWheel 3 (some .boolean) 3 := ⟨tb_in 1023 (by decide +kernel) rfl, tb_in 55 (by decide +kernel) rfl, by decide +kernel⟩
theorem msX11_isWheel : Cond.static yX11_isWheel ∈ TB := tb_in 1022 (by decide +kernel) rfl
theorem mcX11_wheel : zMc yX11_wheel cX11_wheel 7 (some .long) 4 := ⟨tb_in 1020 (by decide +kernel) rfl, tb_in 55 (by decide +kernel) rfl, by decide +kernel⟩
theorem miX11_wheel : Cond.instanceMethod yX11_wheel ∈ TB ∧ Cond.selects yX11_wheel.cls yX11_wheel yX11_wheel ∈ TB := ⟨tb_in 1018 (by decide +kernel) rfl, tb_in 1019 (by decide +kernel) rfl⟩
theorem mcX11_fitsBy : zMc yX11_fitsBy cX11_fitsBy 4 (some .boolean) 4 := ⟨tb_in 1030 (by decide +kernel) rfl, tb_in 55 (by decide +kernel) rfl, by decide +kernel⟩
theorem msX11_fitsBy : Cond.static yX11_fitsBy ∈ TB := tb_in 1029 (by decide +kernel) rfl
theorem mcX11_fits : zMc yX11_fits cX11_fits 8 (some .int) 5 := ⟨tb_in 1027 (by decide +kernel) rfl, tb_in 55 (by decide +kernel) rfl, by decide +kernel⟩
theorem miX11_fits : Cond.instanceMethod yX11_fits ∈ TB ∧ Cond.selects yX11_fits.cls yX11_fits yX11_fits ∈ TB := ⟨tb_in 1025 (by decide +kernel) rfl, tb_in 1026 (by decide +kernel) rfl⟩
theorem mcX11_upTo : zMc yX11_upTo cX11_upTo 8 (some .int) 5 := ⟨tb_in 1034 (by decide +kernel) rfl, tb_in 55 (by decide +kernel) rfl, by decide +kernel⟩
theorem miX11_upTo : Cond.instanceMethod yX11_upTo ∈ TB ∧ Cond.selects yX11_upTo.cls yX11_upTo yX11_upTo ∈ TB := ⟨tb_in 1032 (by decide +kernel) rfl, tb_in 1033 (by decide +kernel) rfl⟩
theorem mcX11_dotMore : zMc yX11_dotMore cX11_dotMore 4 (some .int) 3 := ⟨tb_in 1042 (by decide +kernel) rfl, tb_in 55 (by decide +kernel) rfl, by decide +kernel⟩
theorem miX11_dotMore : Cond.instanceMethod yX11_dotMore ∈ TB ∧ Cond.selects yX11_dotMore.cls yX11_dotMore yX11_dotMore ∈ TB := ⟨tb_in 1041 (by decide +kernel) rfl, tb_in 30 (by decide +kernel) rfl⟩
theorem mcX11_dot : zMc yX11_dot cX11_dot 4 (some .int) 3 := ⟨tb_in 1038 (by decide +kernel) rfl, tb_in 55 (by decide +kernel) rfl, by decide +kernel⟩
theorem miX11_dot : Cond.instanceMethod yX11_dot ∈ TB ∧ Cond.selects yX11_dot.cls yX11_dot yX11_dot ∈ TB := ⟨tb_in 1036 (by decide +kernel) rfl, tb_in 1037 (by decide +kernel) rfl⟩
theorem mcX11_read : zMc yX11_read cX11_read 4 (some .int) 2 := ⟨tb_in 1046 (by decide +kernel) rfl, tb_in 55 (by decide +kernel) rfl, by decide +kernel⟩
theorem miX11_read : Cond.instanceMethod yX11_read ∈ TB ∧ Cond.selects yX11_read.cls yX11_read yX11_read ∈ TB := ⟨tb_in 1044 (by decide +kernel) rfl, tb_in 1045 (by decide +kernel) rfl⟩
theorem mcX11_blink : zMc yX11_blink cX11_blink 3 (some .int) 1 := ⟨tb_in 1057 (by decide +kernel) rfl, tb_in 55 (by decide +kernel) rfl, by decide +kernel⟩
theorem miX11_blink : Cond.instanceMethod yX11_blink ∈ TB ∧ Cond.selects yX11_blink.cls yX11_blink yX11_blink ∈ TB := ⟨tb_in 1055 (by decide +kernel) rfl, tb_in 1056 (by decide +kernel) rfl⟩
theorem mcX11_way : zMc yX11_way cX11_way 3 (some .int) 2 := ⟨tb_in 1076 (by decide +kernel) rfl, tb_in 55 (by decide +kernel) rfl, by decide +kernel⟩
theorem msX11_way : Cond.static yX11_way ∈ TB := tb_in 1075 (by decide +kernel) rfl
theorem mcX11_joins : zMc yX11_joins cX11_joins 15 none 0 := ⟨tb_in 1069 (by decide +kernel) rfl, tb_in 55 (by decide +kernel) rfl, by decide +kernel⟩
theorem miX11_joins : Cond.instanceMethod yX11_joins ∈ TB ∧ Cond.selects yX11_joins.cls yX11_joins yX11_joins ∈ TB := ⟨tb_in 1068 (by decide +kernel) rfl, tb_in 33 (by decide +kernel) rfl⟩
theorem mcX11_joinNow : zMc yX11_joinNow cX11_joinNow 2 (some .int) 1 := ⟨tb_in 1065 (by decide +kernel) rfl, tb_in 55 (by decide +kernel) rfl, by decide +kernel⟩
theorem miX11_joinNow : Cond.instanceMethod yX11_joinNow ∈ TB ∧ Cond.selects yX11_joinNow.cls yX11_joinNow yX11_joinNow ∈ TB := ⟨tb_in 1064 (by decide +kernel) rfl, tb_in 32 (by decide +kernel) rfl⟩
theorem mcX11_join : zMc yX11_join cX11_join 2 (some .int) 1 := ⟨tb_in 1061 (by decide +kernel) rfl, tb_in 55 (by decide +kernel) rfl, by decide +kernel⟩
theorem miX11_join : Cond.instanceMethod yX11_join ∈ TB ∧ Cond.selects yX11_join.cls yX11_join yX11_join ∈ TB := ⟨tb_in 1059 (by decide +kernel) rfl, tb_in 1060 (by decide +kernel) rfl⟩
theorem mcX11_netNow : zMc yX11_netNow cX11_netNow 1 (some .int) 0 := ⟨tb_in 1084 (by decide +kernel) rfl, tb_in 55 (by decide +kernel) rfl, by decide +kernel⟩
theorem miX11_netNow : Cond.instanceMethod yX11_netNow ∈ TB ∧ Cond.selects yX11_netNow.cls yX11_netNow yX11_netNow ∈ TB := ⟨tb_in 1083 (by decide +kernel) rfl, tb_in 34 (by decide +kernel) rfl⟩
theorem mcX11_net : zMc yX11_net cX11_net 1 (some .int) 0 := ⟨tb_in 1080 (by decide +kernel) rfl, tb_in 55 (by decide +kernel) rfl, by decide +kernel⟩
theorem miX11_net : Cond.instanceMethod yX11_net ∈ TB ∧ Cond.selects yX11_net.cls yX11_net yX11_net ∈ TB := ⟨tb_in 1078 (by decide +kernel) rfl, tb_in 1079 (by decide +kernel) rfl⟩
theorem mcX11_joinedNow : zMc yX11_joinedNow cX11_joinedNow 5 (some .int) 2 := ⟨tb_in 1092 (by decide +kernel) rfl, tb_in 55 (by decide +kernel) rfl, by decide +kernel⟩
theorem miX11_joinedNow : Cond.instanceMethod yX11_joinedNow ∈ TB ∧ Cond.selects yX11_joinedNow.cls yX11_joinedNow yX11_joinedNow ∈ TB := ⟨tb_in 1091 (by decide +kernel) rfl, tb_in 35 (by decide +kernel) rfl⟩
theorem mcX11_joined : zMc yX11_joined cX11_joined 3 (some .int) 2 := ⟨tb_in 1088 (by decide +kernel) rfl, tb_in 55 (by decide +kernel) rfl, by decide +kernel⟩
theorem miX11_joined : Cond.instanceMethod yX11_joined ∈ TB ∧ Cond.selects yX11_joined.cls yX11_joined yX11_joined ∈ TB := ⟨tb_in 1086 (by decide +kernel) rfl, tb_in 1087 (by decide +kernel) rfl⟩
theorem mcX11_isFar : zMc yX11_isFar cX11_isFar 1 (some .boolean) 1 := ⟨tb_in 1099 (by decide +kernel) rfl, tb_in 55 (by decide +kernel) rfl, by decide +kernel⟩
theorem msX11_isFar : Cond.static yX11_isFar ∈ TB := tb_in 1098 (by decide +kernel) rfl
theorem mcX11_narrow : zMc yX11_narrow cX11_narrow 5 (some .long) 4 := ⟨tb_in 1096 (by decide +kernel) rfl, tb_in 55 (by decide +kernel) rfl, by decide +kernel⟩
theorem miX11_narrow : Cond.instanceMethod yX11_narrow ∈ TB ∧ Cond.selects yX11_narrow.cls yX11_narrow yX11_narrow ∈ TB := ⟨tb_in 1094 (by decide +kernel) rfl, tb_in 1095 (by decide +kernel) rfl⟩
theorem mcX11_wide : zMc yX11_wide cX11_wide 5 (some .int) 3 := ⟨tb_in 1103 (by decide +kernel) rfl, tb_in 55 (by decide +kernel) rfl, by decide +kernel⟩
theorem miX11_wide : Cond.instanceMethod yX11_wide ∈ TB ∧ Cond.selects yX11_wide.cls yX11_wide yX11_wide ∈ TB := ⟨tb_in 1101 (by decide +kernel) rfl, tb_in 1102 (by decide +kernel) rfl⟩
theorem mcX11_slit : zMc yX11_slit cX11_slit 5 (some .int) 2 := ⟨tb_in 1107 (by decide +kernel) rfl, tb_in 55 (by decide +kernel) rfl, by decide +kernel⟩
theorem miX11_slit : Cond.instanceMethod yX11_slit ∈ TB ∧ Cond.selects yX11_slit.cls yX11_slit yX11_slit ∈ TB := ⟨tb_in 1105 (by decide +kernel) rfl, tb_in 1106 (by decide +kernel) rfl⟩
theorem mcX11_turns : zMc yX11_turns cX11_turns 7 (some .boolean) 1 := ⟨tb_in 1119 (by decide +kernel) rfl, tb_in 55 (by decide +kernel) rfl, by decide +kernel⟩
theorem miX11_turns : Cond.instanceMethod yX11_turns ∈ TB ∧ Cond.selects yX11_turns.cls yX11_turns yX11_turns ∈ TB := ⟨tb_in 1118 (by decide +kernel) rfl, tb_in 37 (by decide +kernel) rfl⟩
theorem mcX11_puts : zMc yX11_puts cX11_puts 6 (some .int) 1 := ⟨tb_in 1115 (by decide +kernel) rfl, tb_in 55 (by decide +kernel) rfl, by decide +kernel⟩
theorem miX11_puts : Cond.instanceMethod yX11_puts ∈ TB ∧ Cond.selects yX11_puts.cls yX11_puts yX11_puts ∈ TB := ⟨tb_in 1114 (by decide +kernel) rfl, tb_in 36 (by decide +kernel) rfl⟩
theorem mcX11_order : zMc yX11_order cX11_order 4 (some .int) 2 := ⟨tb_in 1111 (by decide +kernel) rfl, tb_in 55 (by decide +kernel) rfl, by decide +kernel⟩
theorem miX11_order : Cond.instanceMethod yX11_order ∈ TB ∧ Cond.selects yX11_order.cls yX11_order yX11_order ∈ TB := ⟨tb_in 1109 (by decide +kernel) rfl, tb_in 1110 (by decide +kernel) rfl⟩
theorem mcX11_ordersNow : zMc yX11_ordersNow cX11_ordersNow 3 (some .int) 1 := ⟨tb_in 1127 (by decide +kernel) rfl, tb_in 55 (by decide +kernel) rfl, by decide +kernel⟩
theorem miX11_ordersNow : Cond.instanceMethod yX11_ordersNow ∈ TB ∧ Cond.selects yX11_ordersNow.cls yX11_ordersNow yX11_ordersNow ∈ TB := ⟨tb_in 1126 (by decide +kernel) rfl, tb_in 38 (by decide +kernel) rfl⟩
theorem mcX11_orders : zMc yX11_orders cX11_orders 2 (some .int) 1 := ⟨tb_in 1123 (by decide +kernel) rfl, tb_in 55 (by decide +kernel) rfl, by decide +kernel⟩
theorem miX11_orders : Cond.instanceMethod yX11_orders ∈ TB ∧ Cond.selects yX11_orders.cls yX11_orders yX11_orders ∈ TB := ⟨tb_in 1121 (by decide +kernel) rfl, tb_in 1122 (by decide +kernel) rfl⟩
theorem mcX11_halves : zMc yX11_halves cX11_halves 8 none 2 := ⟨tb_in 1139 (by decide +kernel) rfl, tb_in 55 (by decide +kernel) rfl, by decide +kernel⟩
theorem miX11_halves : Cond.instanceMethod yX11_halves ∈ TB ∧ Cond.selects yX11_halves.cls yX11_halves yX11_halves ∈ TB := ⟨tb_in 1138 (by decide +kernel) rfl, tb_in 40 (by decide +kernel) rfl⟩
theorem mcX11_missingNow : zMc yX11_missingNow cX11_missingNow 10 (some .int) 2 := ⟨tb_in 1135 (by decide +kernel) rfl, tb_in 55 (by decide +kernel) rfl, by decide +kernel⟩
theorem miX11_missingNow : Cond.instanceMethod yX11_missingNow ∈ TB ∧ Cond.selects yX11_missingNow.cls yX11_missingNow yX11_missingNow ∈ TB := ⟨tb_in 1134 (by decide +kernel) rfl, tb_in 39 (by decide +kernel) rfl⟩
theorem mcX11_missing : zMc yX11_missing cX11_missing 3 (some .int) 2 := ⟨tb_in 1131 (by decide +kernel) rfl, tb_in 55 (by decide +kernel) rfl, by decide +kernel⟩
theorem miX11_missing : Cond.instanceMethod yX11_missing ∈ TB ∧ Cond.selects yX11_missing.cls yX11_missing yX11_missing ∈ TB := ⟨tb_in 1129 (by decide +kernel) rfl, tb_in 1130 (by decide +kernel) rfl⟩
theorem mcX11_half : zMc yX11_half cX11_half 4 (some .int) 3 := ⟨tb_in 1143 (by decide +kernel) rfl, tb_in 55 (by decide +kernel) rfl, by decide +kernel⟩
theorem miX11_half : Cond.instanceMethod yX11_half ∈ TB ∧ Cond.selects yX11_half.cls yX11_half yX11_half ∈ TB := ⟨tb_in 1141 (by decide +kernel) rfl, tb_in 1142 (by decide +kernel) rfl⟩
theorem mcX11_fewNow : zMc yX11_fewNow cX11_fewNow 10 (some .int) 2 := ⟨tb_in 1151 (by decide +kernel) rfl, tb_in 55 (by decide +kernel) rfl, by decide +kernel⟩
theorem miX11_fewNow : Cond.instanceMethod yX11_fewNow ∈ TB ∧ Cond.selects yX11_fewNow.cls yX11_fewNow yX11_fewNow ∈ TB := ⟨tb_in 1150 (by decide +kernel) rfl, tb_in 41 (by decide +kernel) rfl⟩
theorem mcX11_few : zMc yX11_few cX11_few 3 (some .int) 2 := ⟨tb_in 1147 (by decide +kernel) rfl, tb_in 55 (by decide +kernel) rfl, by decide +kernel⟩
theorem miX11_few : Cond.instanceMethod yX11_few ∈ TB ∧ Cond.selects yX11_few.cls yX11_few yX11_few ∈ TB := ⟨tb_in 1145 (by decide +kernel) rfl, tb_in 1146 (by decide +kernel) rfl⟩
theorem mcX11_tries : zMc yX11_tries cX11_tries 4 (some .int) 3 := ⟨tb_in 1158 (by decide +kernel) rfl, tb_in 55 (by decide +kernel) rfl, by decide +kernel⟩
theorem miX11_tries : Cond.instanceMethod yX11_tries ∈ TB ∧ Cond.selects yX11_tries.cls yX11_tries yX11_tries ∈ TB := ⟨tb_in 1156 (by decide +kernel) rfl, tb_in 1157 (by decide +kernel) rfl⟩
theorem mcX11_wrongOf : zMc yX11_wrongOf cX11_wrongOf 6 (some .int) 2 := ⟨tb_in 1166 (by decide +kernel) rfl, tb_in 55 (by decide +kernel) rfl, by decide +kernel⟩
theorem miX11_wrongOf : Cond.instanceMethod yX11_wrongOf ∈ TB ∧ Cond.selects yX11_wrongOf.cls yX11_wrongOf yX11_wrongOf ∈ TB := ⟨tb_in 1165 (by decide +kernel) rfl, tb_in 42 (by decide +kernel) rfl⟩
theorem mcX11_wrong : zMc yX11_wrong cX11_wrong 3 (some .int) 2 := ⟨tb_in 1162 (by decide +kernel) rfl, tb_in 55 (by decide +kernel) rfl, by decide +kernel⟩
theorem miX11_wrong : Cond.instanceMethod yX11_wrong ∈ TB ∧ Cond.selects yX11_wrong.cls yX11_wrong yX11_wrong ∈ TB := ⟨tb_in 1160 (by decide +kernel) rfl, tb_in 1161 (by decide +kernel) rfl⟩
theorem mcX11_lineNow : zMc yX11_lineNow cX11_lineNow 6 (some .int) 1 := ⟨tb_in 1174 (by decide +kernel) rfl, tb_in 55 (by decide +kernel) rfl, by decide +kernel⟩
theorem miX11_lineNow : Cond.instanceMethod yX11_lineNow ∈ TB ∧ Cond.selects yX11_lineNow.cls yX11_lineNow yX11_lineNow ∈ TB := ⟨tb_in 1173 (by decide +kernel) rfl, tb_in 43 (by decide +kernel) rfl⟩
theorem mcX11_line : zMc yX11_line cX11_line 2 (some .int) 1 := ⟨tb_in 1170 (by decide +kernel) rfl, tb_in 55 (by decide +kernel) rfl, by decide +kernel⟩
theorem miX11_line : Cond.instanceMethod yX11_line ∈ TB ∧ Cond.selects yX11_line.cls yX11_line yX11_line ∈ TB := ⟨tb_in 1168 (by decide +kernel) rfl, tb_in 1169 (by decide +kernel) rfl⟩
theorem mcX11_bent : zMc yX11_bent cX11_bent 9 (some .int) 2 := ⟨tb_in 1178 (by decide +kernel) rfl, tb_in 55 (by decide +kernel) rfl, by decide +kernel⟩
theorem miX11_bent : Cond.instanceMethod yX11_bent ∈ TB ∧ Cond.selects yX11_bent.cls yX11_bent yX11_bent ∈ TB := ⟨tb_in 1176 (by decide +kernel) rfl, tb_in 1177 (by decide +kernel) rfl⟩
theorem mcX11_meets : zMc yX11_meets cX11_meets 2 (some .int) 1 := ⟨tb_in 1053 (by decide +kernel) rfl, tb_in 55 (by decide +kernel) rfl, by decide +kernel⟩
theorem miX11_meets : Cond.instanceMethod yX11_meets ∈ TB ∧ Cond.selects yX11_meets.cls yX11_meets yX11_meets ∈ TB := ⟨tb_in 1052 (by decide +kernel) rfl, tb_in 31 (by decide +kernel) rfl⟩
theorem mcX11_isSheet : zMc yX11_isSheet cX11_isSheet 1 (some .boolean) 1 := ⟨tb_in 1049 (by decide +kernel) rfl, tb_in 55 (by decide +kernel) rfl, by decide +kernel⟩
theorem msX11_isSheet : Cond.static yX11_isSheet ∈ TB := tb_in 1048 (by decide +kernel) rfl
theorem mcX11_sheet : zMc yX11_sheet cX11_sheet 5 (some .int) 3 := ⟨tb_in 1182 (by decide +kernel) rfl, tb_in 55 (by decide +kernel) rfl, by decide +kernel⟩
theorem miX11_sheet : Cond.instanceMethod yX11_sheet ∈ TB ∧ Cond.selects yX11_sheet.cls yX11_sheet yX11_sheet ∈ TB := ⟨tb_in 1180 (by decide +kernel) rfl, tb_in 1181 (by decide +kernel) rfl⟩
theorem mcX11_lose : zMc yX11_lose cX11_lose 2 (some .int) 1 := ⟨tb_in 1186 (by decide +kernel) rfl, tb_in 55 (by decide +kernel) rfl, by decide +kernel⟩
theorem miX11_lose : Cond.instanceMethod yX11_lose ∈ TB ∧ Cond.selects yX11_lose.cls yX11_lose yX11_lose ∈ TB := ⟨tb_in 1184 (by decide +kernel) rfl, tb_in 1185 (by decide +kernel) rfl⟩
theorem mcX11_lacks : zMc yX11_lacks cX11_lacks 4 (some .int) 3 := ⟨tb_in 1194 (by decide +kernel) rfl, tb_in 55 (by decide +kernel) rfl, by decide +kernel⟩
theorem miX11_lacks : Cond.instanceMethod yX11_lacks ∈ TB ∧ Cond.selects yX11_lacks.cls yX11_lacks yX11_lacks ∈ TB := ⟨tb_in 1193 (by decide +kernel) rfl, tb_in 44 (by decide +kernel) rfl⟩
theorem mcX11_keep : zMc yX11_keep cX11_keep 4 none 3 := ⟨tb_in 1198 (by decide +kernel) rfl, tb_in 55 (by decide +kernel) rfl, by decide +kernel⟩
theorem miX11_keep : Cond.instanceMethod yX11_keep ∈ TB ∧ Cond.selects yX11_keep.cls yX11_keep yX11_keep ∈ TB := ⟨tb_in 1197 (by decide +kernel) rfl, tb_in 45 (by decide +kernel) rfl⟩
theorem mcX11_put : zMc yX11_put cX11_put 6 (some .int) 4 := ⟨tb_in 1190 (by decide +kernel) rfl, tb_in 55 (by decide +kernel) rfl, by decide +kernel⟩
theorem miX11_put : Cond.instanceMethod yX11_put ∈ TB ∧ Cond.selects yX11_put.cls yX11_put yX11_put ∈ TB := ⟨tb_in 1188 (by decide +kernel) rfl, tb_in 1189 (by decide +kernel) rfl⟩
theorem mcX11_get : zMc yX11_get cX11_get 5 (some .int) 3 := ⟨tb_in 1202 (by decide +kernel) rfl, tb_in 55 (by decide +kernel) rfl, by decide +kernel⟩
theorem miX11_get : Cond.instanceMethod yX11_get ∈ TB ∧ Cond.selects yX11_get.cls yX11_get yX11_get ∈ TB := ⟨tb_in 1200 (by decide +kernel) rfl, tb_in 1201 (by decide +kernel) rfl⟩
theorem mcX11_copy : zMc yX11_copy cX11_copy 7 (some .int) 5 := ⟨tb_in 1207 (by decide +kernel) rfl, tb_in 55 (by decide +kernel) rfl, by decide +kernel⟩
theorem miX11_copy : Cond.instanceMethod yX11_copy ∈ TB ∧ Cond.selects yX11_copy.cls yX11_copy yX11_copy ∈ TB := ⟨tb_in 1205 (by decide +kernel) rfl, tb_in 1206 (by decide +kernel) rfl⟩
theorem mcX11_write : zMc yX11_write cX11_write 5 (some .int) 3 := ⟨tb_in 1211 (by decide +kernel) rfl, tb_in 55 (by decide +kernel) rfl, by decide +kernel⟩
theorem miX11_write : Cond.instanceMethod yX11_write ∈ TB ∧ Cond.selects yX11_write.cls yX11_write yX11_write ∈ TB := ⟨tb_in 1209 (by decide +kernel) rfl, tb_in 1210 (by decide +kernel) rfl⟩
theorem mcX11_count : zMc yX11_count cX11_count 2 (some .int) 1 := ⟨tb_in 1215 (by decide +kernel) rfl, tb_in 55 (by decide +kernel) rfl, by decide +kernel⟩
theorem miX11_count : Cond.instanceMethod yX11_count ∈ TB ∧ Cond.selects yX11_count.cls yX11_count yX11_count ∈ TB := ⟨tb_in 1213 (by decide +kernel) rfl, tb_in 1214 (by decide +kernel) rfl⟩
theorem mcX11_digest : zMc yX11_digest cX11_digest 5 (some .long) 0 := ⟨tb_in 1219 (by decide +kernel) rfl, tb_in 55 (by decide +kernel) rfl, by decide +kernel⟩
theorem miX11_digest : Cond.instanceMethod yX11_digest ∈ TB ∧ Cond.selects yX11_digest.cls yX11_digest yX11_digest ∈ TB := ⟨tb_in 1217 (by decide +kernel) rfl, tb_in 1218 (by decide +kernel) rfl⟩
theorem mcJ6_bitCount_0f7a4 : zMc yJ6_bitCount_0f7a4 cJ6_bitCount_0f7a4 1 (some .int) 1 := ⟨tb_in 551 (by decide +kernel) rfl, tb_in 60 (by decide +kernel) rfl, by decide +kernel⟩
theorem msJ6_bitCount_0f7a4 : Cond.static yJ6_bitCount_0f7a4 ∈ TB := tb_in 550 (by decide +kernel) rfl
theorem mcJ9_floorDiv_7cf53 : zMc yJ9_floorDiv_7cf53 cJ9_floorDiv_7cf53 3 (some .int) 2 := ⟨tb_in 397 (by decide +kernel) rfl, tb_in 56 (by decide +kernel) rfl, by decide +kernel⟩
theorem msJ9_floorDiv_7cf53 : Cond.static yJ9_floorDiv_7cf53 ∈ TB := tb_in 396 (by decide +kernel) rfl
theorem mcJ9_floorMod_7cf53 : zMc yJ9_floorMod_7cf53 cJ9_floorMod_7cf53 3 (some .int) 2 := ⟨tb_in 539 (by decide +kernel) rfl, tb_in 56 (by decide +kernel) rfl, by decide +kernel⟩
theorem msJ9_floorMod_7cf53 : Cond.static yJ9_floorMod_7cf53 ∈ TB := tb_in 538 (by decide +kernel) rfl
theorem mcJ9_abs_0f7a4 : zMc yJ9_abs_0f7a4 cJ9_abs_0f7a4 1 (some .int) 1 := ⟨tb_in 363 (by decide +kernel) rfl, tb_in 56 (by decide +kernel) rfl, by decide +kernel⟩
theorem msJ9_abs_0f7a4 : Cond.static yJ9_abs_0f7a4 ∈ TB := tb_in 362 (by decide +kernel) rfl
theorem mcJ9_max_7cf53 : zMc yJ9_max_7cf53 cJ9_max_7cf53 2 (some .int) 2 := ⟨tb_in 532 (by decide +kernel) rfl, tb_in 56 (by decide +kernel) rfl, by decide +kernel⟩
theorem msJ9_max_7cf53 : Cond.static yJ9_max_7cf53 ∈ TB := tb_in 531 (by decide +kernel) rfl
theorem mcJ9_min_7cf53 : zMc yJ9_min_7cf53 cJ9_min_7cf53 2 (some .int) 2 := ⟨tb_in 529 (by decide +kernel) rfl, tb_in 56 (by decide +kernel) rfl, by decide +kernel⟩
theorem msJ9_min_7cf53 : Cond.static yJ9_min_7cf53 ∈ TB := tb_in 528 (by decide +kernel) rfl
theorem mcJ7_fill_53178 : zMc yJ7_fill_53178 cJ7_fill_53178 4 none 2 := ⟨tb_in 735 (by decide +kernel) rfl, tb_in 61 (by decide +kernel) rfl, by decide +kernel⟩
theorem msJ7_fill_53178 : Cond.static yJ7_fill_53178 ∈ TB := tb_in 734 (by decide +kernel) rfl
theorem mlX10_9 : zMl RX10 9 yX7_init := Or.inr ⟨"DrumSlits", nb_in 73 (by decide +kernel) rfl⟩
theorem mlX10_21 : zMl RX10 21 yX4_init := Or.inr ⟨"DrumSlits", nb_in 103 (by decide +kernel) rfl⟩
theorem mlX10_31 : zMl RX10 31 yX6_init := Or.inr ⟨"DrumSlits", nb_in 122 (by decide +kernel) rfl⟩
theorem mlX10_38 : zMl RX10 38 yX3_init := Or.inr ⟨"DrumSlits", nb_in 146 (by decide +kernel) rfl⟩
theorem mlX10_45 : zMl RX10 45 yX5_init := Or.inr ⟨"DrumSlits", nb_in 187 (by decide +kernel) rfl⟩
theorem mlX10_52 : zMl RX10 52 yX8_init := Or.inr ⟨"DrumSlits", nb_in 209 (by decide +kernel) rfl⟩
theorem mlX10_59 : zMl RX10 59 yX0_init := Or.inr ⟨"DrumSlits", nb_in 241 (by decide +kernel) rfl⟩
theorem mlX10_71 : zMl RX10 71 yX10_stripAt := Or.inl (tb_in 302 (by decide +kernel) rfl)
theorem mlX10_75 : zMl RX10 75 yX10_within := Or.inl (tb_in 306 (by decide +kernel) rfl)
theorem mlX10_79 : zMl RX10 79 yX7_append := Or.inl (tb_in 309 (by decide +kernel) rfl)
theorem mlX10_83 : zMl RX10 83 yX7_clear := Or.inl (tb_in 329 (by decide +kernel) rfl)
theorem mlX10_90 : zMl RX10 90 yX7_has := Or.inl (tb_in 341 (by decide +kernel) rfl)
theorem mlX10_94 : zMl RX10 94 yX7_placeAt := Or.inl (tb_in 345 (by decide +kernel) rfl)
theorem mlX10_98 : zMl RX10 98 yX7_stepBetween := Or.inl (tb_in 353 (by decide +kernel) rfl)
theorem mlX10_102 : zMl RX10 102 yX7_stepsRound := Or.inl (tb_in 368 (by decide +kernel) rfl)
theorem mlX10_105 : zMl RX10 105 yX1_stands := Or.inl (tb_in 385 (by decide +kernel) rfl)
theorem mlX10_111 : zMl RX10 111 yX1_advanceOf := Or.inl (tb_in 389 (by decide +kernel) rfl)
theorem mlX10_114 : zMl RX10 114 yX1_seemingOf := Or.inl (tb_in 398 (by decide +kernel) rfl)
theorem mlX10_117 : zMl RX10 117 yX10_asLong := Or.inl (tb_in 412 (by decide +kernel) rfl)
theorem mlX10_121 : zMl RX10 121 yX1_driftAbove := Or.inl (tb_in 416 (by decide +kernel) rfl)
theorem mlX10_124 : zMl RX10 124 yX2_told := Or.inl (tb_in 417 (by decide +kernel) rfl)
theorem mlX10_132 : zMl RX10 132 yX1_looksRound := Or.inl (tb_in 428 (by decide +kernel) rfl)
theorem mlX10_135 : zMl RX10 135 yX1_pictureAt := Or.inl (tb_in 432 (by decide +kernel) rfl)
theorem mlX10_138 : zMl RX10 138 yX1_pairs := Or.inl (tb_in 437 (by decide +kernel) rfl)
theorem mlX10_141 : zMl RX10 141 yX9_stands := Or.inl (tb_in 445 (by decide +kernel) rfl)
theorem mlX10_145 : zMl RX10 145 yX9_seemsAbove := Or.inl (tb_in 449 (by decide +kernel) rfl)
theorem mlX10_148 : zMl RX10 148 yX9_seemsBelow := Or.inl (tb_in 456 (by decide +kernel) rfl)
theorem mlX10_151 : zMl RX10 151 yX9_isSecond := Or.inl (tb_in 461 (by decide +kernel) rfl)
theorem mlX10_154 : zMl RX10 154 yX9_howManyFit := Or.inl (tb_in 464 (by decide +kernel) rfl)
theorem mlX10_158 : zMl RX10 158 yX9_fitting := Or.inl (tb_in 474 (by decide +kernel) rfl)
theorem mlX10_161 : zMl RX10 161 yX10_lookAt := Or.inl (tb_in 485 (by decide +kernel) rfl)
theorem mlX10_165 : zMl RX10 165 yX4_add := Or.inl (tb_in 489 (by decide +kernel) rfl)
theorem mlX10_168 : zMl RX10 168 yX10_sheetAt := Or.inl (tb_in 498 (by decide +kernel) rfl)
theorem mlX10_176 : zMl RX10 176 yX10_finding := Or.inl (tb_in 502 (by decide +kernel) rfl)
theorem mlX10_182 : zMl RX10 182 yX6_itemAt := Or.inl (tb_in 506 (by decide +kernel) rfl)
theorem mlX10_185 : zMl RX10 185 yX4_clear := Or.inl (tb_in 515 (by decide +kernel) rfl)
theorem mlX10_186 : zMl RX10 186 yX3_search := Or.inl (tb_in 523 (by decide +kernel) rfl)
theorem mlX10_190 : zMl RX10 190 yX3_sum := Or.inl (tb_in 567 (by decide +kernel) rfl)
theorem mlX10_193 : zMl RX10 193 yX3_howMany := Or.inl (tb_in 571 (by decide +kernel) rfl)
theorem mlX10_196 : zMl RX10 196 yX3_split := Or.inl (tb_in 575 (by decide +kernel) rfl)
theorem mlX10_205 : zMl RX10 205 yX3_partnerOf := Or.inl (tb_in 587 (by decide +kernel) rfl)
theorem mlX10_209 : zMl RX10 209 yX10_isDrawing := Or.inl (tb_in 596 (by decide +kernel) rfl)
theorem mlX10_212 : zMl RX10 212 yX10_slitWorth := Or.inl (tb_in 607 (by decide +kernel) rfl)
theorem mlX10_215 : zMl RX10 215 yX10_looseRefusal := Or.inl (tb_in 614 (by decide +kernel) rfl)
theorem mlX10_219 : zMl RX10 219 yX5_search := Or.inl (tb_in 617 (by decide +kernel) rfl)
theorem mlX10_222 : zMl RX10 222 yX5_sum := Or.inl (tb_in 639 (by decide +kernel) rfl)
theorem mlX10_223 : zMl RX10 223 yX5_pictureAt := Or.inl (tb_in 643 (by decide +kernel) rfl)
theorem mlX10_225 : zMl RX10 225 yX5_howMany := Or.inl (tb_in 652 (by decide +kernel) rfl)
theorem mlX10_226 : zMl RX10 226 yX7_missingBehind := Or.inl (tb_in 660 (by decide +kernel) rfl)
theorem mlX10_229 : zMl RX10 229 yX7_lowering := Or.inl (tb_in 672 (by decide +kernel) rfl)
theorem mlX10_232 : zMl RX10 232 yX7_halfAt := Or.inl (tb_in 677 (by decide +kernel) rfl)
theorem mlX10_235 : zMl RX10 235 yX7_fewest := Or.inl (tb_in 682 (by decide +kernel) rfl)
theorem mlX10_238 : zMl RX10 238 yX8_add := Or.inl (tb_in 699 (by decide +kernel) rfl)
theorem mlX10_240 : zMl RX10 240 yX8_toldOtherwise := Or.inl (tb_in 707 (by decide +kernel) rfl)
theorem mlX10_246 : zMl RX10 246 yX8_search := Or.inl (tb_in 715 (by decide +kernel) rfl)
theorem mlX10_257 : zMl RX10 257 yX0_search := Or.inl (tb_in 724 (by decide +kernel) rfl)
theorem mlX10_267 : zMl RX10 267 yX6_isForm := Or.inl (tb_in 755 (by decide +kernel) rfl)
theorem mlX10_270 : zMl RX10 270 yX6_renew := Or.inl (tb_in 758 (by decide +kernel) rfl)
theorem mlX10_274 : zMl RX10 274 yX6_findingAt := Or.inl (tb_in 772 (by decide +kernel) rfl)
theorem mlX10_277 : zMl RX10 277 yX6_store := Or.inl (tb_in 776 (by decide +kernel) rfl)
theorem mlX10_289 : zMl RX10 289 yX6_holds := Or.inl (tb_in 789 (by decide +kernel) rfl)
theorem mlX10_307 : zMl RX10 307 yX10_count := Or.inl (tb_in 809 (by decide +kernel) rfl)
theorem mlX10_310 : zMl RX10 310 yX10_mixed := Or.inl (tb_in 810 (by decide +kernel) rfl)
theorem mlX10_314 : zMl RX10 314 yX10_mixedStrip := Or.inl (tb_in 814 (by decide +kernel) rfl)
theorem mlX10_318 : zMl RX10 318 yX10_join := Or.inl (tb_in 825 (by decide +kernel) rfl)
theorem mlX10_321 : zMl RX10 321 yX10_net := Or.inl (tb_in 826 (by decide +kernel) rfl)
theorem mlX10_324 : zMl RX10 324 yX10_mixedLook := Or.inl (tb_in 827 (by decide +kernel) rfl)
theorem mlX10_327 : zMl RX10 327 yX10_numbers := Or.inl (tb_in 832 (by decide +kernel) rfl)
theorem mlX10_330 : zMl RX10 330 yX10_line := Or.inl (tb_in 833 (by decide +kernel) rfl)
theorem mlX10_333 : zMl RX10 333 yX10_fault := Or.inl (tb_in 818 (by decide +kernel) rfl)
theorem mlX10_336 : zMl RX10 336 yX10_whole := Or.inl (tb_in 819 (by decide +kernel) rfl)
theorem mlX10_339 : zMl RX10 339 yX10_seen := Or.inl (tb_in 820 (by decide +kernel) rfl)
theorem mlX10_342 : zMl RX10 342 yX10_missing := Or.inl (tb_in 821 (by decide +kernel) rfl)
theorem mlX10_345 : zMl RX10 345 yX10_few := Or.inl (tb_in 822 (by decide +kernel) rfl)
theorem mlX10_348 : zMl RX10 348 yX10_orders := Or.inl (tb_in 823 (by decide +kernel) rfl)
theorem mlX10_351 : zMl RX10 351 yX10_place := Or.inl (tb_in 824 (by decide +kernel) rfl)
theorem mlX10_354 : zMl RX10 354 yX10_joined := Or.inl (tb_in 831 (by decide +kernel) rfl)
theorem mlX0_22 : zMl RX0 22 yX0_unbend := Or.inl (tb_in 729 (by decide +kernel) rfl)
theorem mlX0_31 : zMl RX0 31 yX0_weighStarts := Or.inl (tb_in 738 (by decide +kernel) rfl)
theorem mlX0_35 : zMl RX0 35 yJ7_fill_53178 := Or.inl (tb_in 733 (by decide +kernel) rfl)
theorem mlX0_41 : zMl RX0 41 yX6_itemAt := Or.inl (tb_in 736 (by decide +kernel) rfl)
theorem mlX0_45 : zMl RX0 45 yJ9_floorMod_7cf53 := Or.inl (tb_in 737 (by decide +kernel) rfl)
theorem mlX0_51 : zMl RX0 51 yX0_rowsAhead := Or.inl (tb_in 742 (by decide +kernel) rfl)
theorem mlX0_55 : zMl RX0 55 yX0_sumFromZero := Or.inl (tb_in 746 (by decide +kernel) rfl)
theorem mlX0_64 : zMl RX0 64 yJ9_min_7cf53 := Or.inl (tb_in 750 (by decide +kernel) rfl)
theorem mlX1_9 : zMl RX1 9 yX10_within := Or.inr ⟨"DrumSlits", nb_in 388 (by decide +kernel) rfl⟩
theorem mlX1_13 : zMl RX1 13 yX2_nearest := Or.inl (tb_in 392 (by decide +kernel) rfl)
theorem mlX1_19 : zMl RX1 19 yX1_advanceOf := Or.inl (tb_in 404 (by decide +kernel) rfl)
theorem mlX1_24 : zMl RX1 24 yX1_driftAbove := Or.inl (tb_in 401 (by decide +kernel) rfl)
theorem mlX1_27 : zMl RX1 27 yX1_pictureAt := Or.inl (tb_in 405 (by decide +kernel) rfl)
theorem mlX1_31 : zMl RX1 31 yX2_commonDivisor := Or.inl (tb_in 431 (by decide +kernel) rfl)
theorem mlX1_34 : zMl RX1 34 yX1_seemingOf := Or.inl (tb_in 440 (by decide +kernel) rfl)
theorem mlX2_7 : zMl RX2 7 yJ9_abs_0f7a4 := Or.inl (tb_in 420 (by decide +kernel) rfl)
theorem mlX2_13 : zMl RX2 13 yX2_commonDivisor := Or.inl (tb_in 421 (by decide +kernel) rfl)
theorem mlX2_19 : zMl RX2 19 yJ9_floorDiv_7cf53 := Or.inl (tb_in 395 (by decide +kernel) rfl)
theorem mlX3_43 : zMl RX3 43 yJ9_min_7cf53 := Or.inl (tb_in 527 (by decide +kernel) rfl)
theorem mlX3_52 : zMl RX3 52 yJ9_max_7cf53 := Or.inl (tb_in 530 (by decide +kernel) rfl)
theorem mlX3_58 : zMl RX3 58 yX4_wayTo := Or.inl (tb_in 533 (by decide +kernel) rfl)
theorem mlX3_62 : zMl RX3 62 yJ9_abs_0f7a4 := Or.inl (tb_in 540 (by decide +kernel) rfl)
theorem mlX3_66 : zMl RX3 66 yX4_sameForm := Or.inl (tb_in 541 (by decide +kernel) rfl)
theorem mlX3_70 : zMl RX3 70 yX3_settle := Or.inl (tb_in 545 (by decide +kernel) rfl)
theorem mlX3_74 : zMl RX3 74 yX3_joinRow := Or.inl (tb_in 559 (by decide +kernel) rfl)
theorem mlX3_77 : zMl RX3 77 yJ6_bitCount_0f7a4 := Or.inl (tb_in 549 (by decide +kernel) rfl)
theorem mlX3_82 : zMl RX3 82 yX3_weigh := Or.inl (tb_in 555 (by decide +kernel) rfl)
theorem mlX3_89 : zMl RX3 89 yX3_firstBest := Or.inl (tb_in 563 (by decide +kernel) rfl)
theorem mlX3_92 : zMl RX3 92 yX10_within := Or.inr ⟨"DrumSlits", nb_in 591 (by decide +kernel) rfl⟩
theorem mlX4_18 : zMl RX4 18 yX10_within := Or.inr ⟨"DrumSlits", nb_in 493 (by decide +kernel) rfl⟩
theorem mlX4_26 : zMl RX4 26 yJ9_floorMod_7cf53 := Or.inl (tb_in 537 (by decide +kernel) rfl)
theorem mlX5_30 : zMl RX5 30 yJ9_min_7cf53 := Or.inl (tb_in 621 (by decide +kernel) rfl)
theorem mlX5_37 : zMl RX5 37 yX7_stepBetween := Or.inl (tb_in 622 (by decide +kernel) rfl)
theorem mlX5_41 : zMl RX5 41 yX5_settle := Or.inl (tb_in 623 (by decide +kernel) rfl)
theorem mlX5_45 : zMl RX5 45 yX5_layRow := Or.inl (tb_in 631 (by decide +kernel) rfl)
theorem mlX5_48 : zMl RX5 48 yX5_sumBy := Or.inl (tb_in 627 (by decide +kernel) rfl)
theorem mlX5_51 : zMl RX5 51 yX5_firstBest := Or.inl (tb_in 635 (by decide +kernel) rfl)
theorem mlX5_54 : zMl RX5 54 yX10_within := Or.inr ⟨"DrumSlits", nb_in 647 (by decide +kernel) rfl⟩
theorem mlX6_19 : zMl RX6 19 yX10_within := Or.inr ⟨"DrumSlits", nb_in 510 (by decide +kernel) rfl⟩
theorem mlX6_27 : zMl RX6 27 yJ9_min_7cf53 := Or.inl (tb_in 762 (by decide +kernel) rfl)
theorem mlX6_36 : zMl RX6 36 yJ7_fill_53178 := Or.inl (tb_in 763 (by decide +kernel) rfl)
theorem mlX7_28 : zMl RX7 28 yX7_parse := Or.inl (tb_in 313 (by decide +kernel) rfl)
theorem mlX7_31 : zMl RX7 31 yX7_firstFault := Or.inl (tb_in 317 (by decide +kernel) rfl)
theorem mlX7_38 : zMl RX7 38 yX7_goesOn := Or.inl (tb_in 321 (by decide +kernel) rfl)
theorem mlX7_42 : zMl RX7 42 yX10_within := Or.inr ⟨"DrumSlits", nb_in 324 (by decide +kernel) rfl⟩
theorem mlX7_46 : zMl RX7 46 yX7_placeAt := Or.inl (tb_in 357 (by decide +kernel) rfl)
theorem mlX7_50 : zMl RX7 50 yX7_partStep := Or.inl (tb_in 358 (by decide +kernel) rfl)
theorem mlX7_54 : zMl RX7 54 yJ9_abs_0f7a4 := Or.inl (tb_in 361 (by decide +kernel) rfl)
theorem mlX7_60 : zMl RX7 60 yX7_behind := Or.inl (tb_in 372 (by decide +kernel) rfl)
theorem mlX7_63 : zMl RX7 63 yX7_stepBetween := Or.inl (tb_in 376 (by decide +kernel) rfl)
theorem mlX7_66 : zMl RX7 66 yX7_halfAt := Or.inl (tb_in 668 (by decide +kernel) rfl)
theorem mlX7_69 : zMl RX7 69 yX7_lowering := Or.inl (tb_in 664 (by decide +kernel) rfl)
theorem mlX7_72 : zMl RX7 72 yX7_findNear := Or.inl (tb_in 686 (by decide +kernel) rfl)
theorem mlX7_76 : zMl RX7 76 yJ6_bitCount_0f7a4 := Or.inl (tb_in 690 (by decide +kernel) rfl)
theorem mlX7_81 : zMl RX7 81 yX7_reaches := Or.inl (tb_in 691 (by decide +kernel) rfl)
theorem mlX8_28 : zMl RX8 28 yX8_toldOtherwise := Or.inl (tb_in 719 (by decide +kernel) rfl)
theorem mlX9_9 : zMl RX9 9 yX10_within := Or.inr ⟨"DrumSlits", nb_in 448 (by decide +kernel) rfl⟩
theorem mlX9_13 : zMl RX9 13 yX9_seemsBelow := Or.inl (tb_in 452 (by decide +kernel) rfl)
theorem mlX9_19 : zMl RX9 19 yX2_nearest := Or.inl (tb_in 455 (by decide +kernel) rfl)
theorem mlX9_25 : zMl RX9 25 yX9_seemsAbove := Or.inl (tb_in 473 (by decide +kernel) rfl)
theorem mlX9_29 : zMl RX9 29 yX9_alike := Or.inl (tb_in 470 (by decide +kernel) rfl)
theorem mlX9_33 : zMl RX9 33 yX9_fit := Or.inl (tb_in 467 (by decide +kernel) rfl)
theorem mlL_9 : zMl RL 9 yX10_init := Or.inl (tb_in 65 (by decide +kernel) rfl)
theorem mlL_12 : zMl RL 12 yX11_init := Or.inl (tb_in 836 (by decide +kernel) rfl)
theorem mlL_13 : zMl RL 13 yX10_type := Or.inl (tb_in 298 (by decide +kernel) rfl)
theorem mlL_17 : zMl RL 17 yX11_type := Or.inl (tb_in 914 (by decide +kernel) rfl)
theorem mlL_18 : zMl RL 18 yX10_wipe := Or.inl (tb_in 325 (by decide +kernel) rfl)
theorem mlL_22 : zMl RL 22 yX11_wipe := Or.inl (tb_in 924 (by decide +kernel) rfl)
theorem mlL_23 : zMl RL 23 yX10_fault := Or.inl (tb_in 333 (by decide +kernel) rfl)
theorem mlL_26 : zMl RL 26 yX11_fault := Or.inl (tb_in 928 (by decide +kernel) rfl)
theorem mlL_27 : zMl RL 27 yX10_place := Or.inl (tb_in 337 (by decide +kernel) rfl)
theorem mlL_31 : zMl RL 31 yX11_place := Or.inl (tb_in 940 (by decide +kernel) rfl)
theorem mlL_32 : zMl RL 32 yX10_step := Or.inl (tb_in 349 (by decide +kernel) rfl)
theorem mlL_35 : zMl RL 35 yX11_step := Or.inl (tb_in 948 (by decide +kernel) rfl)
theorem mlL_36 : zMl RL 36 yX10_whole := Or.inl (tb_in 364 (by decide +kernel) rfl)
theorem mlL_39 : zMl RL 39 yX11_whole := Or.inl (tb_in 963 (by decide +kernel) rfl)
theorem mlL_40 : zMl RL 40 yX10_set := Or.inl (tb_in 377 (by decide +kernel) rfl)
theorem mlL_43 : zMl RL 43 yX11_set := Or.inl (tb_in 971 (by decide +kernel) rfl)
theorem mlL_44 : zMl RL 44 yX10_drum := Or.inl (tb_in 381 (by decide +kernel) rfl)
theorem mlL_47 : zMl RL 47 yX11_drum := Or.inl (tb_in 975 (by decide +kernel) rfl)
theorem mlL_48 : zMl RL 48 yX10_drift := Or.inl (tb_in 408 (by decide +kernel) rfl)
theorem mlL_52 : zMl RL 52 yX11_drift := Or.inl (tb_in 988 (by decide +kernel) rfl)
theorem mlL_53 : zMl RL 53 yX10_seen := Or.inl (tb_in 424 (by decide +kernel) rfl)
theorem mlL_56 : zMl RL 56 yX11_seen := Or.inl (tb_in 1002 (by decide +kernel) rfl)
theorem mlL_57 : zMl RL 57 yX10_numbers := Or.inl (tb_in 433 (by decide +kernel) rfl)
theorem mlL_60 : zMl RL 60 yX11_numbers := Or.inl (tb_in 1010 (by decide +kernel) rfl)
theorem mlL_61 : zMl RL 61 yX10_wheel := Or.inl (tb_in 441 (by decide +kernel) rfl)
theorem mlL_65 : zMl RL 65 yX11_wheel := Or.inl (tb_in 1017 (by decide +kernel) rfl)
theorem mlL_66 : zMl RL 66 yX10_fits := Or.inl (tb_in 457 (by decide +kernel) rfl)
theorem mlL_70 : zMl RL 70 yX11_fits := Or.inl (tb_in 1024 (by decide +kernel) rfl)
theorem mlL_71 : zMl RL 71 yX10_upTo := Or.inl (tb_in 477 (by decide +kernel) rfl)
theorem mlL_74 : zMl RL 74 yX11_upTo := Or.inl (tb_in 1031 (by decide +kernel) rfl)
theorem mlL_75 : zMl RL 75 yX10_dot := Or.inl (tb_in 481 (by decide +kernel) rfl)
theorem mlL_78 : zMl RL 78 yX11_dot := Or.inl (tb_in 1035 (by decide +kernel) rfl)
theorem mlL_79 : zMl RL 79 yX10_read := Or.inl (tb_in 494 (by decide +kernel) rfl)
theorem mlL_82 : zMl RL 82 yX11_read := Or.inl (tb_in 1043 (by decide +kernel) rfl)
theorem mlL_83 : zMl RL 83 yX10_blink := Or.inl (tb_in 511 (by decide +kernel) rfl)
theorem mlL_86 : zMl RL 86 yX11_blink := Or.inl (tb_in 1054 (by decide +kernel) rfl)
theorem mlL_87 : zMl RL 87 yX10_join := Or.inl (tb_in 519 (by decide +kernel) rfl)
theorem mlL_90 : zMl RL 90 yX11_join := Or.inl (tb_in 1058 (by decide +kernel) rfl)
theorem mlL_91 : zMl RL 91 yX10_net := Or.inl (tb_in 579 (by decide +kernel) rfl)
theorem mlL_95 : zMl RL 95 yX11_net := Or.inl (tb_in 1077 (by decide +kernel) rfl)
theorem mlL_96 : zMl RL 96 yX10_joined := Or.inl (tb_in 583 (by decide +kernel) rfl)
theorem mlL_99 : zMl RL 99 yX11_joined := Or.inl (tb_in 1085 (by decide +kernel) rfl)
theorem mlL_100 : zMl RL 100 yX10_narrow := Or.inl (tb_in 592 (by decide +kernel) rfl)
theorem mlL_103 : zMl RL 103 yX11_narrow := Or.inl (tb_in 1093 (by decide +kernel) rfl)
theorem mlL_104 : zMl RL 104 yX10_wide := Or.inl (tb_in 599 (by decide +kernel) rfl)
theorem mlL_107 : zMl RL 107 yX11_wide := Or.inl (tb_in 1100 (by decide +kernel) rfl)
theorem mlL_108 : zMl RL 108 yX10_slit := Or.inl (tb_in 603 (by decide +kernel) rfl)
theorem mlL_111 : zMl RL 111 yX11_slit := Or.inl (tb_in 1104 (by decide +kernel) rfl)
theorem mlL_112 : zMl RL 112 yX10_order := Or.inl (tb_in 610 (by decide +kernel) rfl)
theorem mlL_115 : zMl RL 115 yX11_order := Or.inl (tb_in 1108 (by decide +kernel) rfl)
theorem mlL_116 : zMl RL 116 yX10_orders := Or.inl (tb_in 648 (by decide +kernel) rfl)
theorem mlL_119 : zMl RL 119 yX11_orders := Or.inl (tb_in 1120 (by decide +kernel) rfl)
theorem mlL_120 : zMl RL 120 yX10_missing := Or.inl (tb_in 656 (by decide +kernel) rfl)
theorem mlL_123 : zMl RL 123 yX11_missing := Or.inl (tb_in 1128 (by decide +kernel) rfl)
theorem mlL_124 : zMl RL 124 yX10_half := Or.inl (tb_in 673 (by decide +kernel) rfl)
theorem mlL_127 : zMl RL 127 yX11_half := Or.inl (tb_in 1140 (by decide +kernel) rfl)
theorem mlL_128 : zMl RL 128 yX10_few := Or.inl (tb_in 678 (by decide +kernel) rfl)
theorem mlL_131 : zMl RL 131 yX11_few := Or.inl (tb_in 1144 (by decide +kernel) rfl)
theorem mlL_132 : zMl RL 132 yX10_tries := Or.inl (tb_in 695 (by decide +kernel) rfl)
theorem mlL_135 : zMl RL 135 yX11_tries := Or.inl (tb_in 1155 (by decide +kernel) rfl)
theorem mlL_136 : zMl RL 136 yX10_wrong := Or.inl (tb_in 703 (by decide +kernel) rfl)
theorem mlL_139 : zMl RL 139 yX11_wrong := Or.inl (tb_in 1159 (by decide +kernel) rfl)
theorem mlL_140 : zMl RL 140 yX10_line := Or.inl (tb_in 711 (by decide +kernel) rfl)
theorem mlL_143 : zMl RL 143 yX11_line := Or.inl (tb_in 1167 (by decide +kernel) rfl)
theorem mlL_144 : zMl RL 144 yX10_bent := Or.inl (tb_in 720 (by decide +kernel) rfl)
theorem mlL_147 : zMl RL 147 yX11_bent := Or.inl (tb_in 1175 (by decide +kernel) rfl)
theorem mlL_148 : zMl RL 148 yX10_sheet := Or.inl (tb_in 751 (by decide +kernel) rfl)
theorem mlL_151 : zMl RL 151 yX11_sheet := Or.inl (tb_in 1179 (by decide +kernel) rfl)
theorem mlL_152 : zMl RL 152 yX10_lose := Or.inl (tb_in 764 (by decide +kernel) rfl)
theorem mlL_155 : zMl RL 155 yX11_lose := Or.inl (tb_in 1183 (by decide +kernel) rfl)
theorem mlL_156 : zMl RL 156 yX10_put := Or.inl (tb_in 768 (by decide +kernel) rfl)
theorem mlL_160 : zMl RL 160 yX11_put := Or.inl (tb_in 1187 (by decide +kernel) rfl)
theorem mlL_161 : zMl RL 161 yX10_get := Or.inl (tb_in 780 (by decide +kernel) rfl)
theorem mlL_164 : zMl RL 164 yX11_get := Or.inl (tb_in 1199 (by decide +kernel) rfl)
theorem mlL_165 : zMl RL 165 yX10_copy := Or.inl (tb_in 785 (by decide +kernel) rfl)
theorem mlL_168 : zMl RL 168 yX11_copy := Or.inl (tb_in 1204 (by decide +kernel) rfl)
theorem mlL_169 : zMl RL 169 yX10_write := Or.inl (tb_in 796 (by decide +kernel) rfl)
theorem mlL_172 : zMl RL 172 yX11_write := Or.inl (tb_in 1208 (by decide +kernel) rfl)
theorem mlL_173 : zMl RL 173 yX10_count := Or.inl (tb_in 800 (by decide +kernel) rfl)
theorem mlL_176 : zMl RL 176 yX11_count := Or.inl (tb_in 1212 (by decide +kernel) rfl)
theorem mlL_177 : zMl RL 177 yX10_digest := Or.inl (tb_in 804 (by decide +kernel) rfl)
theorem mlL_181 : zMl RL 181 yX11_digest := Or.inl (tb_in 1216 (by decide +kernel) rfl)
theorem mlX11_67 : zMl RX11 67 yX11_amount := Or.inl (tb_in 960 (by decide +kernel) rfl)
theorem mlX11_71 : zMl RX11 71 yX11_common := Or.inl (tb_in 999 (by decide +kernel) rfl)
theorem mlX11_75 : zMl RX11 75 yX11_in := Or.inl (tb_in 921 (by decide +kernel) rfl)
theorem mlX11_79 : zMl RX11 79 yX11_isStrip := Or.inl (tb_in 918 (by decide +kernel) rfl)
theorem mlX11_83 : zMl RX11 83 yX11_byteAt := Or.inl (tb_in 936 (by decide +kernel) rfl)
theorem mlX11_86 : zMl RX11 86 yX11_faultNow := Or.inl (tb_in 932 (by decide +kernel) rfl)
theorem mlX11_89 : zMl RX11 89 yX11_pictures := Or.inl (tb_in 944 (by decide +kernel) rfl)
theorem mlX11_92 : zMl RX11 92 yX11_stepBy := Or.inl (tb_in 956 (by decide +kernel) rfl)
theorem mlX11_95 : zMl RX11 95 yX11_stepOf := Or.inl (tb_in 952 (by decide +kernel) rfl)
theorem mlX11_99 : zMl RX11 99 yX11_wholeNow := Or.inl (tb_in 967 (by decide +kernel) rfl)
theorem mlX11_102 : zMl RX11 102 yX11_nearest := Or.inl (tb_in 982 (by decide +kernel) rfl)
theorem mlX11_105 : zMl RX11 105 yX11_isDrum := Or.inl (tb_in 979 (by decide +kernel) rfl)
theorem mlX11_108 : zMl RX11 108 yX11_seeming := Or.inl (tb_in 985 (by decide +kernel) rfl)
theorem mlX11_111 : zMl RX11 111 yX11_no := Or.inl (tb_in 992 (by decide +kernel) rfl)
theorem mlX11_115 : zMl RX11 115 yX11_lowest := Or.inl (tb_in 996 (by decide +kernel) rfl)
theorem mlX11_119 : zMl RX11 119 yX11_seenNow := Or.inl (tb_in 1006 (by decide +kernel) rfl)
theorem mlX11_122 : zMl RX11 122 yX11_numbersOf := Or.inl (tb_in 1014 (by decide +kernel) rfl)
theorem mlX11_125 : zMl RX11 125 yX11_isWheel := Or.inl (tb_in 1021 (by decide +kernel) rfl)
theorem mlX11_128 : zMl RX11 128 yX11_fitsBy := Or.inl (tb_in 1028 (by decide +kernel) rfl)
theorem mlX11_132 : zMl RX11 132 yX11_dotMore := Or.inl (tb_in 1039 (by decide +kernel) rfl)
theorem mlX11_135 : zMl RX11 135 yX11_isSheet := Or.inl (tb_in 1047 (by decide +kernel) rfl)
theorem mlX11_138 : zMl RX11 138 yX11_meets := Or.inl (tb_in 1050 (by decide +kernel) rfl)
theorem mlX11_155 : zMl RX11 155 yX11_isIn := Or.inl (tb_in 1071 (by decide +kernel) rfl)
theorem mlX11_159 : zMl RX11 159 yX11_way := Or.inl (tb_in 1074 (by decide +kernel) rfl)
theorem mlX11_162 : zMl RX11 162 yX11_joins := Or.inl (tb_in 1066 (by decide +kernel) rfl)
theorem mlX11_165 : zMl RX11 165 yX11_joinNow := Or.inl (tb_in 1062 (by decide +kernel) rfl)
theorem mlX11_168 : zMl RX11 168 yX11_netNow := Or.inl (tb_in 1081 (by decide +kernel) rfl)
theorem mlX11_172 : zMl RX11 172 yX11_joinedNow := Or.inl (tb_in 1089 (by decide +kernel) rfl)
theorem mlX11_175 : zMl RX11 175 yX11_isFar := Or.inl (tb_in 1097 (by decide +kernel) rfl)
theorem mlX11_178 : zMl RX11 178 yX11_turns := Or.inl (tb_in 1116 (by decide +kernel) rfl)
theorem mlX11_181 : zMl RX11 181 yX11_puts := Or.inl (tb_in 1112 (by decide +kernel) rfl)
theorem mlX11_184 : zMl RX11 184 yX11_ordersNow := Or.inl (tb_in 1124 (by decide +kernel) rfl)
theorem mlX11_187 : zMl RX11 187 yX11_halves := Or.inl (tb_in 1136 (by decide +kernel) rfl)
theorem mlX11_191 : zMl RX11 191 yX11_missingNow := Or.inl (tb_in 1132 (by decide +kernel) rfl)
theorem mlX11_194 : zMl RX11 194 yX11_ones := Or.inl (tb_in 1152 (by decide +kernel) rfl)
theorem mlX11_197 : zMl RX11 197 yX11_fewNow := Or.inl (tb_in 1148 (by decide +kernel) rfl)
theorem mlX11_203 : zMl RX11 203 yX11_wrongOf := Or.inl (tb_in 1163 (by decide +kernel) rfl)
theorem mlX11_206 : zMl RX11 206 yX11_lineNow := Or.inl (tb_in 1171 (by decide +kernel) rfl)
theorem mlX11_212 : zMl RX11 212 yX11_lacks := Or.inl (tb_in 1191 (by decide +kernel) rfl)
theorem mlX11_215 : zMl RX11 215 yX11_keep := Or.inl (tb_in 1195 (by decide +kernel) rfl)
theorem mlX11_224 : zMl RX11 224 yX11_count := Or.inl (tb_in 1222 (by decide +kernel) rfl)
theorem kcX10_282 : Cond.constant RX10 282 (-2147483648) ∈ TB := tb_in 784 (by decide +kernel) rfl
theorem kcX0_17 : Cond.constant RX0 17 (2147483647) ∈ TB := tb_in 728 (by decide +kernel) rfl
theorem kcX11_141 : Cond.constant RX11 141 (1000000) ∈ TB := tb_in 1070 (by decide +kernel) rfl
theorem kcX11_219 : Cond.constant RX11 219 (-2147483648) ∈ TB := tb_in 1203 (by decide +kernel) rfl
theorem kcJ6_265 : Cond.constant RJ6 265 (1431655765) ∈ TB := tb_in 552 (by decide +kernel) rfl
theorem kcJ6_266 : Cond.constant RJ6 266 (858993459) ∈ TB := tb_in 553 (by decide +kernel) rfl
theorem kcJ6_267 : Cond.constant RJ6 267 (252645135) ∈ TB := tb_in 554 (by decide +kernel) rfl
theorem kcX10_305 : Cond.constantLong RX10 305 (17) ∈ TB := tb_in 808 (by decide +kernel) rfl
theorem kcX10_357 : Cond.constantLong RX10 357 (31) ∈ TB := tb_in 813 (by decide +kernel) rfl
theorem kcX10_361 : Cond.constantLong RX10 361 (-9223372036854775808) ∈ TB := tb_in 415 (by decide +kernel) rfl
theorem kcX11_65 : Cond.constantLong RX11 65 (-9223372036854775808) ∈ TB := tb_in 995 (by decide +kernel) rfl
theorem kcX11_220 : Cond.constantLong RX11 220 (17) ∈ TB := tb_in 1220 (by decide +kernel) rfl
theorem kcX11_222 : Cond.constantLong RX11 222 (31) ∈ TB := tb_in 1221 (by decide +kernel) rfl
end
section
/-! a layer over the kit: a side's cells are numbered; ints are whole numbers; one row an instruction -/
abbrev zV : Type := Int ⊕ (Int ⊕ Option Nat)
abbrev zi (a : Int) : zV := Sum.inl a
abbrev zl (a : Int) : zV := Sum.inr (Sum.inl a)
abbrev zr (k : Nat) : zV := Sum.inr (Sum.inr (some k))
abbrev zn : zV := Sum.inr (Sum.inr none)
def cv (ad : Nat → Nat) (v : zV) : Value := match v with
  | .inl a => .int (Int32.ofInt a)
  | .inr (.inl a) => .long (Int64.ofInt a)
  | .inr (.inr (some k)) => .ref (ad k)
  | .inr (.inr none) => .null
abbrev SS : Type := Nat → Nat → Int
abbrev LY : Type := Nat × Nat × List Nat
def fE (ad : Nat → Nat) (S : SS) (k j kd : Nat) : Value := match kd with
  | 0 => .int (Int32.ofInt (S k j))
  | 1 => if S k j < 0 then .null else .ref (ad (S k j).toNat)
  | c + 2 => .ref (ad c)
def flds (ad : Nat → Nat) (S : SS) (k : Nat) (ks : List Nat) : List Value := ks.mapIdx (fun j kd => fE ad S k j kd)
abbrev zT : Type := ClassId × ClassId × ClassId
def cE (ad : Nat → Nat) (T : zT) (S : SS) (k : Nat) (le : LY) : va_E := match le with
  | (0, ci, ks) => .inr (ci, flds ad S k ks)
  | (1, n, _) => .inl (T.1, n, .inl (fun j => Int32.ofInt (S k j)))
  | (2, n, _) => .inl (T.2.1, n, .inl (fun j => Int32.ofInt (S k j)))
  | (_ + 3, _, ks) => .inl (T.2.2, ks.length, .inr (.inr (.inr (.inr (fun j => (ks[j]?).map ad)))))
def wd (ad : Nat → Nat) (T : zT) (L : List LY) (S : SS) : va_W := L.mapIdx (fun k le => (ad k, cE ad T S k le))
def up2 (S : SS) (k j : Nat) (a : Int) : SS := fun x y => if x = k ∧ y = j then a else S x y
theorem up2_s (S : SS) (k j : Nat) (a : Int) : up2 S k j a k j = a := if_pos ⟨rfl, rfl⟩
theorem up2_k (S : SS) {k j x y : Nat} (a : Int) (h : x ≠ k) : up2 S k j a x y = S x y := if_neg (fun q => h q.1)
theorem up2_j (S : SS) {k j x y : Nat} (a : Int) (h : y ≠ j) : up2 S k j a x y = S x y := if_neg (fun q => h q.2)
theorem up2_e (S : SS) (k j x y : Nat) (a : Int) : up2 S k j a x y = if x = k ∧ y = j then a else S x y := rfl
theorem wd_at {ad : Nat → Nat} {T : zT} {L : List LY} {S : SS} {k : Nat} {le : LY} (h : L[k]? = some le) : (wd ad T L S)[k]? = some (ad k, cE ad T S k le) := by
  simp [wd, List.getElem?_mapIdx, h]
theorem wd_inv {ad : Nat → Nat} {T : zT} {L : List LY} {S : SS} {k : Nat} {q : Nat × va_E} (h : (wd ad T L S)[k]? = some q) : k < L.length ∧ q.1 = ad k := by
  have h1 := (List.getElem?_eq_some_iff.mp h).1
  have h2 : (wd ad T L S).length = L.length := by simp [wd]
  rw [h2] at h1
  refine ⟨h1, ?_⟩
  rw [wd_at (List.getElem?_eq_getElem h1)] at h
  cases h
  rfl
theorem wd_set {ad : Nat → Nat} {T : zT} {L : List LY} {S S' : SS} {k : Nat} {le : LY} {e : va_E} (h : L[k]? = some le) (he : cE ad T S' k le = e) (ho : ∀ a, a ≠ k → ∀ j, S' a j = S a j) : (wd ad T L S).set k (ad k, e) = wd ad T L S' := by
  apply List.ext_getElem?
  intro i
  have hk := (List.getElem?_eq_some_iff.mp h).1
  by_cases hi : i = k
  · subst hi
    rw [List.getElem?_set_self (by simp [wd]; exact hk), wd_at h, he]
  · rw [List.getElem?_set_ne (fun q => hi q.symm)]
    cases hL : L[i]? with
    | none =>
      have : L.length ≤ i := by simpa using hL
      rw [List.getElem?_eq_none (by simp [wd]; exact this), List.getElem?_eq_none (by simp [wd]; exact this)]
    | some l2 =>
      rw [wd_at hL, wd_at hL]
      have : S i = S' i := funext fun j => (ho i hi j).symm
      have hE : cE ad T S i l2 = cE ad T S' i l2 := by
        obtain ⟨t, n, ks⟩ := l2
        match t with
        | 0 => simp only [cE, flds, fE, this]
        | 1 => simp only [cE, this]
        | 2 => simp only [cE, this]
        | _ + 3 => rfl
      rw [hE]
theorem fld_at {ad : Nat → Nat} {S : SS} {k j kd : Nat} {ks : List Nat} (h : ks[j]? = some kd) : (flds ad S k ks)[j]? = some (fE ad S k j kd) := by
  simp [flds, List.getElem?_mapIdx, h]
theorem fld_set {ad : Nat → Nat} {S S' : SS} {k j kd : Nat} {ks : List Nat} {v : Value} (h : ks[j]? = some kd) (hv : fE ad S' k j kd = v) (ho : ∀ i, i ≠ j → S' k i = S k i) : flds ad S' k ks = (flds ad S k ks).set j v := by
  apply List.ext_getElem?
  intro i
  have hj := (List.getElem?_eq_some_iff.mp h).1
  by_cases hi : i = j
  · subst hi
    rw [List.getElem?_set_self (by simp [flds]; exact hj), fld_at h, hv]
  · rw [List.getElem?_set_ne (fun q => hi q.symm)]
    cases hL : ks[i]? with
    | none =>
      have : ks.length ≤ i := by simpa using hL
      rw [List.getElem?_eq_none (by simp [flds]; exact this), List.getElem?_eq_none (by simp [flds]; exact this)]
    | some k2 =>
      rw [fld_at hL, fld_at hL]
      match k2 with
      | 0 => simp only [fE, ho i hi]
      | 1 => simp only [fE, ho i hi]
      | _ + 2 => rfl
def zA (ad : Nat → Nat) (L : List LY) : Nat → Prop := fun q => ∃ k, k < L.length ∧ q = ad k
def zInj (ad : Nat → Nat) (n : Nat) : Prop := ∀ i j, i < n → j < n → ad i = ad j → i = j
theorem wd_D {ad : Nat → Nat} {T : zT} {L : List LY} {S : SS} (h : zInj ad L.length) : va_D (zA ad L) (wd ad T L S) := by
  refine ⟨fun i j a b hi hj e => ?_, fun k q hk => ?_⟩
  · obtain ⟨h1, h2⟩ := wd_inv hi
    obtain ⟨h3, h4⟩ := wd_inv hj
    exact h i j h1 h3 (by rw [← h2, ← h4, e])
  · obtain ⟨h1, h2⟩ := wd_inv hk
    exact ⟨k, h1, h2⟩
/-! the frame's variables -/
def prs (ad : Nat → Nat) : Nat → List (Option zV) → List (Nat × Value)
  | _, [] => []
  | i, none :: r => prs ad (i + 1) r
  | i, some v :: r => (i, cv ad v) :: prs ad (i + 1) r
theorem prs_mem {ad : Nat → Nat} {q : Nat × Value} : ∀ {loc : List (Option zV)} {b : Nat}, q ∈ prs ad b loc ↔ ∃ i v, loc[i]? = some (some v) ∧ q = (b + i, cv ad v)
  | [], b => by simp [prs]
  | none :: r, b => by
    rw [prs, prs_mem]
    constructor
    · rintro ⟨i, v, h, rfl⟩
      exact ⟨i + 1, v, by simpa using h, by rw [Nat.add_assoc, Nat.add_comm 1 i]⟩
    · rintro ⟨i, v, h, rfl⟩
      cases i with
      | zero => simp at h
      | succ i => exact ⟨i, v, by simpa using h, by rw [Nat.add_assoc, Nat.add_comm 1 i]⟩
  | some w :: r, b => by
    rw [prs, List.mem_cons, prs_mem]
    constructor
    · rintro (rfl | ⟨i, v, h, rfl⟩)
      · exact ⟨0, w, rfl, rfl⟩
      · exact ⟨i + 1, v, by simpa using h, by rw [Nat.add_assoc, Nat.add_comm 1 i]⟩
    · rintro ⟨i, v, h, rfl⟩
      cases i with
      | zero =>
        left
        simp at h
        subst h
        rfl
      | succ i => exact Or.inr ⟨i, v, by simpa using h, by rw [Nat.add_assoc, Nat.add_comm 1 i]⟩
def zL (ad : Nat → Nat) (ls : Array Slot) (loc : List (Option zV)) : Prop := lv_has ls loc.length (prs ad 0 loc)
theorem zL_at {ad : Nat → Nat} {ls : Array Slot} {loc : List (Option zV)} (h : zL ad ls loc) {i : Nat} {v : zV} (hv : loc[i]? = some (some v)) : ls[i]? = some (.val (cv ad v)) :=
  h.2.2 (i, cv ad v) (prs_mem.mpr ⟨i, v, hv, by rw [Nat.zero_add]⟩)
def zok (loc : List (Option zV)) (i : Nat) : Bool := match i with
  | 0 => true
  | k + 1 => match loc[k]? with
    | some (some (.inr (.inl _))) => false
    | _ => true
theorem cv_cat {ad : Nat → Nat} {v : zV} (h : (cv ad v).category = 2) : ∃ a, v = zl a := by
  match v with
  | .inl a => simp [cv, Value.category] at h
  | .inr (.inl a) => exact ⟨a, rfl⟩
  | .inr (.inr (some k)) => simp [cv, Value.category] at h
  | .inr (.inr none) => simp [cv, Value.category] at h
theorem zL_set1 {ad : Nat → Nat} {ls : Array Slot} {loc : List (Option zV)} {i : Nat} {v : zV} (hi : i < loc.length) (hok : zok loc i = true)
    (h : lv_has ls loc.length ((i, cv ad v) :: (prs ad 0 loc).filter (fun q => !(q.1 == i) && !(q.1 + 1 == i && q.2.category == 2)))) : zL ad ls (loc.set i (some v)) := by
  refine ⟨by rw [List.length_set]; exact h.1, h.2.1, fun q hq => ?_⟩
  obtain ⟨j, w, hj, rfl⟩ := prs_mem.mp hq
  rw [Nat.zero_add]
  by_cases hji : j = i
  · subst hji
    rw [List.getElem?_set_self hi] at hj
    cases hj
    exact h.2.2 _ List.mem_cons_self
  · rw [List.getElem?_set_ne (fun z => hji z.symm)] at hj
    refine h.2.2 (j, cv ad w) (List.mem_cons_of_mem _ (List.mem_filter.mpr ⟨prs_mem.mpr ⟨j, w, hj, by rw [Nat.zero_add]⟩, ?_⟩))
    have h1 : (j == i) = false := by simpa using hji
    by_cases hs : j + 1 = i
    · have h2 : ((cv ad w).category == 2) = false := by
        cases hc : (cv ad w).category == 2 with
        | false => rfl
        | true =>
          obtain ⟨a, rfl⟩ := cv_cat (by simpa using hc)
          subst hs
          simp [zok, hj] at hok
      simp [h1, h2]
    · have h2 : (j + 1 == i) = false := by simpa using hs
      simp [h1, h2]
theorem zL_set2 {ad : Nat → Nat} {ls : Array Slot} {loc : List (Option zV)} {i : Nat} {v : zV} (hi : i + 1 < loc.length) (hok : zok loc i = true)
    (h : lv_has ls loc.length ((i, cv ad v) :: (prs ad 0 loc).filter (fun q => !(q.1 == i) && (!(q.1 == i + 1) && !(q.1 + 1 == i && q.2.category == 2))))) : zL ad ls ((loc.set i (some v)).set (i + 1) none) := by
  refine ⟨by rw [List.length_set, List.length_set]; exact h.1, h.2.1, fun q hq => ?_⟩
  obtain ⟨j, w, hj, rfl⟩ := prs_mem.mp hq
  rw [Nat.zero_add]
  by_cases hj1 : j = i + 1
  · subst hj1
    rw [List.getElem?_set_self (by rw [List.length_set]; exact hi)] at hj
    cases hj
  rw [List.getElem?_set_ne (fun z => hj1 z.symm)] at hj
  by_cases hji : j = i
  · subst hji
    rw [List.getElem?_set_self (by omega)] at hj
    cases hj
    exact h.2.2 _ List.mem_cons_self
  · rw [List.getElem?_set_ne (fun z => hji z.symm)] at hj
    refine h.2.2 (j, cv ad w) (List.mem_cons_of_mem _ (List.mem_filter.mpr ⟨prs_mem.mpr ⟨j, w, hj, by rw [Nat.zero_add]⟩, ?_⟩))
    have h1 : (j == i) = false := by simpa using hji
    have h3 : (j == i + 1) = false := by simpa using hj1
    by_cases hs : j + 1 = i
    · have h2 : ((cv ad w).category == 2) = false := by
        cases hc : (cv ad w).category == 2 with
        | false => rfl
        | true =>
          obtain ⟨a, rfl⟩ := cv_cat (by simpa using hc)
          subst hs
          simp [zok, hj] at hok
      simp [h1, h2, h3]
    · have h2 : (j + 1 == i) = false := by simpa using hs
      simp [h1, h2, h3]
def zent : List zV → List (Option zV)
  | [] => []
  | v :: r => match v with
    | .inr (.inl a) => some (zl a) :: none :: zent r
    | v => some v :: zent r
theorem zent_len (ad : Nat → Nat) : ∀ av : List zV, (lg_sl (av.map (cv ad))).length = (zent av).length
  | [] => rfl
  | v :: r => by
    have ih := zent_len ad r
    match v with
    | .inl a => simpa [lg_sl, zent, cv, Value.category] using ih
    | .inr (.inl a) => simpa [lg_sl, zent, cv, Value.category] using ih
    | .inr (.inr (some k)) => simpa [lg_sl, zent, cv, Value.category] using ih
    | .inr (.inr none) => simpa [lg_sl, zent, cv, Value.category] using ih
theorem zent_prs (ad : Nat → Nat) : ∀ (av : List zV) (i : Nat), prs ad i (zent av) = lv_args i (av.map (cv ad))
  | [], i => rfl
  | v :: r, i => by
    match v with
    | .inl a => simp [zent, prs, lv_args, cv, Value.category, zent_prs ad r]
    | .inr (.inl a) => simp [zent, prs, lv_args, cv, Value.category, zent_prs ad r]
    | .inr (.inr (some k)) => simp [zent, prs, lv_args, cv, Value.category, zent_prs ad r]
    | .inr (.inr none) => simp [zent, prs, lv_args, cv, Value.category, zent_prs ad r]
theorem prs_rep (ad : Nat → Nat) (n : Nat) : ∀ (l : List (Option zV)) (i : Nat), prs ad i (l ++ List.replicate n none) = prs ad i l
  | [], i => by
    induction n generalizing i with
    | zero => rfl
    | succ n ih => simpa [List.replicate_succ, prs] using ih (i + 1)
  | none :: r, i => by simp [prs, prs_rep ad n r]
  | some v :: r, i => by simp [prs, prs_rep ad n r]
theorem zL_entry {ad : Nat → Nat} {av : List zV} {n : Nat} {loc : List (Option zV)} (hle : (zent av).length ≤ n) (hloc : zent av ++ List.replicate (n - (zent av).length) none = loc) :
    zL ad ((lg_sl (av.map (cv ad)) ++ List.replicate (n - (lg_sl (av.map (cv ad))).length) Slot.unset).toArray) loc := by
  have h := lv_entry (av.map (cv ad)) (n := n) (by rw [zent_len]; exact hle)
  subst hloc
  unfold zL
  rw [prs_rep, zent_prs]
  have : (zent av ++ List.replicate (n - (zent av).length) (none : Option zV)).length = n := by simp; omega
  rw [this]
  exact h
/-! the judgement -/
abbrev zX : Type := Program × Launch × Env × Room × State × MethodId × Array Value × List Frame × Method × Code × (State → Prop) × va_G × (Nat → Nat) × zT
def zG (x : zX) (L : List LY) (pc : Nat) (loc : List (Option zV)) (st : List zV) (S : SS) : Prop := match x with
  | (p, l, e, R, s, m, args, below, meth, c, Q, D, ad, T) => ∀ (H : Heap) (locs : List Loc) (ls : Array Slot), va_P D vwCl (wd ad T L S) H → va_S (zA ad L) s.heap H locs → zL ad ls loc → W p l e R s m args below meth c H locs 0 0 Q (F0 m pc ls (st.map (cv ad)))
def zQ (L : List LY) (ad : Nat → Nat) (T : zT) (D : va_G) (Post : Option zV → SS → Prop) : Array Value → State → Outcome → State → Prop := fun _ st o t => (∃ (r : Option zV) (S' : SS), o = .returned (r.map (cv ad)) ∧ Post r S' ∧ va_P D vwCl (wd ad T L S') t.heap) ∧ va_F (zA ad L) st t
def zTy (T : zT) : List (ClassId × FieldType) := [(T.1, .int), (T.2.1, .boolean), (T.2.2, .object "DrumSlits$Sheet")]
def zOK (x : zX) (L : List LY) (cc : ByteArray) (own : String) (nL : Nat) (ret : Option FieldType) (fr lc : Nat) (Post : Option zV → SS → Prop) : Prop := match x with
  | (p, l, e, R, s, m, args, below, meth, c, Q, D, ad, T) => p.tables.exec = Jvm.exec ∧ c.code = cc ∧ c.maxLocals = nL ∧ s.vm.findClass own = some m.cls ∧ (∀ w ∈ TB, w.before args s = true) ∧ va_K D vwCl (zTy T) s ∧ zN s ∧ zInj ad L.length ∧ meth.locks = false ∧ meth.sig.returnType = ret ∧ R.frames = fr ∧ R.locals = lc ∧ Q = MQ below (zQ L ad T D Post) args s 0 0 (zA ad L)
def zM (L : List LY) (y : MethodName) (cc : ByteArray) (nL : Nat) (ret : Option FieldType) (fr lc : Nat) (av : List zV) (S : SS) (Post : Option zV → SS → Prop) : Prop :=
  ∀ (l : Launch) (D : va_G) (ad : Nat → Nat) (T : zT), zInj ad L.length → Met l y (Cond.code y cc nL ret :: TB) ({ frames := fr, cells := 0, slots := 0, locals := lc }) (va_Pc (av.map (cv ad)) (fun U => va_P D vwCl (wd ad T L S) U.heap ∧ va_K D vwCl (zTy T) U ∧ zN U)) (zQ L ad T D Post) 0 0 (zA ad L)
theorem zM_of {L : List LY} {y : MethodName} {cc : ByteArray} {nL : Nat} {ret : Option FieldType} {fr lc : Nat} {av : List zV} {S : SS} {Post : Option zV → SS → Prop} (own : String) (ho : y.cls = own) (hy : plainName own = true) (loc : List (Option zV)) (hle : (zent av).length ≤ nL) (hloc : zent av ++ List.replicate (nL - (zent av).length) none = loc)
    (body : ∀ x : zX, zOK x L cc own nL ret fr lc Post → zG x L 0 loc [] S) : zM L y cc nL ret fr lc av S Post := by
  subst ho
  intro l D ad T hinj
  refine Met.ofW (cc := cc) (maxL := nL) (ret := ret) hy rfl ?_
  intro p e s m args below meth c s₁ B hml hv
  obtain ⟨rfl, hP, hK, hN⟩ := hv
  have hts := atoms_spec (ws := Cond.code y cc nL ret :: TB) B.pre
  rw [lg_entry_eq]
  have hG := body (p, l, e, (headSpec (Cond.code y cc nL ret :: TB) ({ frames := fr, cells := 0, slots := 0, locals := lc })).room, s, m, (av.map (cv ad)).toArray, below, meth, c, MQ below (zQ L ad T D Post) (av.map (cv ad)).toArray s 0 0 (zA ad L), D, ad, T) ⟨B.exec, B.bytes, hml, findClass_of_methodNamed B.named, fun w hw => hts w (List.mem_cons_of_mem _ hw), hK, hN, hinj, B.notSynchronized, B.returns, rfl, rfl, rfl⟩
  exact hG s.heap [] _ hP va_S.rf (zL_entry hle hloc)
theorem zM_ofF {L : List LY} {y : MethodName} {cc : ByteArray} {nL : Nat} {ret : Option FieldType} {fr lc : Nat} {av : List zV} {S : SS} {Post : Option zV → SS → Prop} (own : String) (ho : y.cls = own) (hy : plainFor y = true) (loc : List (Option zV)) (hle : (zent av).length ≤ nL) (hloc : zent av ++ List.replicate (nL - (zent av).length) none = loc)
    (body : ∀ x : zX, zOK x L cc own nL ret fr lc Post → zG x L 0 loc [] S) : zM L y cc nL ret fr lc av S Post := by
  subst ho
  intro l D ad T hinj
  refine va_MetF (cc := cc) (maxL := nL) (ret := ret) hy rfl ?_
  intro p e s m args below meth c s₁ B hml hv
  obtain ⟨rfl, hP, hK, hN⟩ := hv
  have hts := atoms_spec (ws := Cond.code y cc nL ret :: TB) B.pre
  rw [lg_entry_eq]
  have hG := body (p, l, e, (headSpec (Cond.code y cc nL ret :: TB) ({ frames := fr, cells := 0, slots := 0, locals := lc })).room, s, m, (av.map (cv ad)).toArray, below, meth, c, MQ below (zQ L ad T D Post) (av.map (cv ad)).toArray s 0 0 (zA ad L), D, ad, T) ⟨B.exec, B.bytes, hml, findClass_of_methodNamed B.named, fun w hw => hts w (List.mem_cons_of_mem _ hw), hK, hN, hinj, B.notSynchronized, B.returns, rfl, rfl, rfl⟩
  exact hG s.heap [] _ hP va_S.rf (zL_entry hle hloc)
theorem zG_eq {x : zX} {L : List LY} {pc pc' : Nat} {loc loc' : List (Option zV)} {st st' : List zV} {S S' : SS} (k : zG x L pc' loc' st' S') (h1 : pc = pc') (h2 : loc = loc') (h3 : st = st') (h4 : S = S') : zG x L pc loc st S := by subst h1; subst h2; subst h3; subst h4; exact k
theorem zM_post {L : List LY} {y : MethodName} {cc : ByteArray} {nL : Nat} {ret : Option FieldType} {fr lc : Nat} {av : List zV} {S : SS} {Post Post2 : Option zV → SS → Prop} (h : zM L y cc nL ret fr lc av S Post) (hp : ∀ r S', Post r S' → Post2 r S') : zM L y cc nL ret fr lc av S Post2 := by
  intro l D ad T hinj p e ha hc hk s m args below hf hfit hheap happ
  obtain ⟨n, o, h1, h2, h3, ⟨⟨r, S', hr, hq, hP⟩, hF⟩, h4⟩ := h l D ad T hinj p e ha hc hk s m args below hf hfit hheap happ
  exact ⟨n, o, h1, h2, h3, ⟨⟨r, S', hr, hp r S' hq, hP⟩, hF⟩, h4⟩

abbrev r32 (a : Int) : Prop := -2147483648 ≤ a ∧ a ≤ 2147483647
theorem i32_t {a : Int} (h : r32 a) : (Int32.ofInt a).toInt = a := Int32.toInt_ofInt_of_le (by have := h.1; omega) (by have := h.2; omega)
theorem i32_e {a b : Int} (ha : r32 a) (hb : r32 b) : Int32.ofInt a = Int32.ofInt b ↔ a = b := ⟨fun h => by rw [← i32_t ha, ← i32_t hb, h], fun h => by rw [h]⟩
theorem i32_l {a b : Int} (ha : r32 a) (hb : r32 b) : Int32.ofInt a < Int32.ofInt b ↔ a < b := by rw [Int32.lt_iff_toInt_lt, i32_t ha, i32_t hb]
theorem i32_le {a b : Int} (ha : r32 a) (hb : r32 b) : Int32.ofInt a ≤ Int32.ofInt b ↔ a ≤ b := by rw [Int32.le_iff_toInt_le, i32_t ha, i32_t hb]
theorem i32_c {a : Int} {n : Nat} (h0 : 0 ≤ a) (h1 : a < n) (hn : n ≤ 2147483647) : vp_in (Int32.ofInt a) n ∧ (Int32.ofInt a).toNatClampNeg = a.toNat := by
  have h : (Int32.ofInt a).toInt = a := i32_t ⟨by omega, by omega⟩
  refine ⟨vp_in_iff.mpr ⟨by rw [h]; exact h0, by rw [h]; exact h1⟩, ?_⟩
  show (Int32.ofInt a).toInt.toNat = a.toNat
  rw [h]
theorem i64_t {a : Int} (h : -9223372036854775808 ≤ a ∧ a ≤ 9223372036854775807) : (Int64.ofInt a).toInt = a := Int64.toInt_ofInt_of_le (by have := h.1; omega) (by have := h.2; omega)
theorem i32_0 : Int32.ofInt 0 = 0 := rfl
theorem i32_n0 {b : Int} (hb : r32 b) (h : b ≠ 0) : ¬ Int32.ofInt b = 0 := fun q => h ((i32_e hb ⟨by decide, by decide⟩).mp q)
theorem i32_div {a b : Int} (ha : r32 a) (hb : r32 b) : Int32.ofInt (a.tdiv b) = Int32.ofInt a / Int32.ofInt b := Int32.ofInt_tdiv (by have := ha.1; exact this) (by have := ha.2; exact this) (by have := hb.1; exact this) (by have := hb.2; exact this)
theorem i32_rem {a b : Int} (ha : r32 a) (hb : r32 b) : Int32.ofInt (a.tmod b) = Int32.ofInt a - Int32.ofInt a / Int32.ofInt b * Int32.ofInt b := by
  rw [← i32_div ha hb, ← Int32.ofInt_mul, ← Int32.ofInt_sub]
  congr 1
  have := Int.tmod_def a b
  rw [this, Int.mul_comm]
theorem i32_l64 {a : Int} (ha : r32 a) : (Int32.ofInt a).toInt64 = Int64.ofInt a := Int32.toInt64_ofInt (by have := ha.1; exact this) (by have := ha.2; exact this)
theorem i32_b (a : Int) : (Int32.ofInt a).toInt8.toInt32 = Int32.ofInt (a.bmod 256) := by
  rw [Int32.toInt8_ofInt]
  rw [show (Int8.ofInt a).toInt32 = Int32.ofInt (Int8.ofInt a).toInt from (Int32.ofInt_int8ToInt _).symm, Int8.toInt_ofInt]
theorem i32_s (a : Int) : (Int32.ofInt a).toInt16.toInt32 = Int32.ofInt (a.bmod 65536) := by
  rw [show (Int32.ofInt a).toInt16 = Int16.ofInt a from Int16.toInt_inj.mp (by simp)]
  rw [show (Int16.ofInt a).toInt32 = Int32.ofInt (Int16.ofInt a).toInt from (Int32.ofInt_int16ToInt _).symm, Int16.toInt_ofInt]
theorem i32_nat {a : Int} (h : 0 ≤ a) : Int32.ofInt a = Int32.ofNat a.toNat := by
  obtain ⟨n, rfl⟩ := Int.eq_ofNat_of_zero_le h
  exact (Int32.ofInt_eq_ofNat).trans rfl
theorem i32_sh : ∀ n : Nat, n < 32 → (((Int32.ofNat n) &&& 31).toBitVec.smod 32).toNat = n := by decide +kernel
theorem i32_shl (a : Int) {b : Int} (hb : 0 ≤ b ∧ b < 32) : Int32.ofInt a <<< (Int32.ofInt b &&& 31) = Int32.ofInt (a * 2 ^ b.toNat) := by
  obtain ⟨n, rfl⟩ := Int.eq_ofNat_of_zero_le hb.1
  have hn : n < 32 := by omega
  have hs := i32_sh n hn
  rw [i32_nat hb.1, Int.toNat_natCast]
  apply Int32.toBitVec_inj.mp
  apply BitVec.eq_of_toNat_eq
  rw [pk_shl _ _ n hs]
  show (BitVec.ofInt 32 a).toNat * 2 ^ n % 2 ^ 32 = (BitVec.ofInt 32 (a * 2 ^ n)).toNat
  rw [BitVec.toNat_ofInt, BitVec.toNat_ofInt]
  apply Int.ofNat.inj
  show (((a % ((2 ^ 32 : Nat) : Int)).toNat * 2 ^ n % 2 ^ 32 : Nat) : Int) = (((a * 2 ^ n) % ((2 ^ 32 : Nat) : Int)).toNat : Int)
  rw [Int.natCast_emod, Int.natCast_mul, Int.toNat_of_nonneg (Int.emod_nonneg _ (by decide)), Int.toNat_of_nonneg (Int.emod_nonneg _ (by decide)), Int.natCast_pow, Int.mul_emod, Int.emod_emod, ← Int.mul_emod]
  rfl
theorem i32_shr {a : Int} (ha : r32 a) {b : Int} (hb : 0 ≤ b ∧ b < 32) : Int32.ofInt a >>> (Int32.ofInt b &&& 31) = Int32.ofInt (a / 2 ^ b.toNat) := by
  obtain ⟨n, rfl⟩ := Int.eq_ofNat_of_zero_le hb.1
  have hn : n < 32 := by omega
  have hs := i32_sh n hn
  rw [i32_nat hb.1, Int.toNat_natCast]
  apply Int32.toInt_inj.mp
  have hp : (0 : Int) < 2 ^ n := Int.pow_pos (by decide)
  have hr : r32 (a / 2 ^ n) := by
    refine ⟨Int.le_ediv_of_mul_le hp ?_, Int.ediv_le_of_le_mul hp ?_⟩
    · have h1 : (2147483648 : Int) * 1 ≤ 2147483648 * 2 ^ n := Int.mul_le_mul_of_nonneg_left hp (by decide)
      have := ha.1
      omega
    · have h1 : (2147483647 : Int) * 1 ≤ 2147483647 * 2 ^ n := Int.mul_le_mul_of_nonneg_left hp (by decide)
      have := ha.2
      omega
  rw [pk_shr _ _ n hs, i32_t ha, i32_t hr, Int.shiftRight_eq_div_pow]
  rw [Int.natCast_pow]
  rfl
theorem i32_and {a b : Int} (ha : 0 ≤ a ∧ a ≤ 2147483647) (hb : 0 ≤ b ∧ b ≤ 2147483647) : Int32.ofInt a &&& Int32.ofInt b = Int32.ofInt ((a.toNat &&& b.toNat : Nat) : Int) := by
  rw [i32_nat ha.1, i32_nat hb.1]
  apply Int32.toBitVec_inj.mp
  show BitVec.ofNat 32 a.toNat &&& BitVec.ofNat 32 b.toNat = BitVec.ofInt 32 ((a.toNat &&& b.toNat : Nat) : Int)
  rw [BitVec.ofInt_natCast]
  apply BitVec.eq_of_toNat_eq
  have h1 : a.toNat < 2 ^ 32 := by omega
  have h2 : b.toNat < 2 ^ 32 := by omega
  rw [BitVec.toNat_and, BitVec.toNat_ofNat, BitVec.toNat_ofNat, BitVec.toNat_ofNat, Nat.mod_eq_of_lt h1, Nat.mod_eq_of_lt h2, Nat.mod_eq_of_lt]
  exact Nat.lt_of_le_of_lt Nat.and_le_left h1
theorem i32_or {a b : Int} (ha : 0 ≤ a ∧ a ≤ 2147483647) (hb : 0 ≤ b ∧ b ≤ 2147483647) : Int32.ofInt a ||| Int32.ofInt b = Int32.ofInt ((a.toNat ||| b.toNat : Nat) : Int) := by
  rw [i32_nat ha.1, i32_nat hb.1]
  apply Int32.toBitVec_inj.mp
  show BitVec.ofNat 32 a.toNat ||| BitVec.ofNat 32 b.toNat = BitVec.ofInt 32 ((a.toNat ||| b.toNat : Nat) : Int)
  rw [BitVec.ofInt_natCast]
  apply BitVec.eq_of_toNat_eq
  have h1 : a.toNat < 2 ^ 32 := by omega
  have h2 : b.toNat < 2 ^ 32 := by omega
  rw [BitVec.toNat_or, BitVec.toNat_ofNat, BitVec.toNat_ofNat, BitVec.toNat_ofNat, Nat.mod_eq_of_lt h1, Nat.mod_eq_of_lt h2, Nat.mod_eq_of_lt]
  exact Nat.or_lt_two_pow h1 h2
theorem cv_c1 {ad : Nat → Nat} {v : zV} (h : (match v with | .inr (.inl _) => false | _ => true) = true) : (cv ad v).category = 1 := by
  match v with
  | .inl a => rfl
  | .inr (.inl a) => cases h
  | .inr (.inr (some k)) => rfl
  | .inr (.inr none) => rfl
theorem i32_eqT {a b : Int} (ha : r32 a) (hb : r32 b) (h : Int32.ofInt a = Int32.ofInt b) : a = b := (i32_e ha hb).mp h
theorem i32_eqF {a b : Int} (ha : r32 a) (hb : r32 b) (h : ¬ Int32.ofInt a = Int32.ofInt b) : ¬ a = b := fun q => h (by rw [q])
theorem i32_neT {a b : Int} (ha : r32 a) (hb : r32 b) (h : Int32.ofInt a ≠ Int32.ofInt b) : ¬ a = b := fun q => h (by rw [q])
theorem i32_neF {a b : Int} (ha : r32 a) (hb : r32 b) (h : Int32.ofInt a = Int32.ofInt b) : a = b := (i32_e ha hb).mp h
theorem i32_ltT {a b : Int} (ha : r32 a) (hb : r32 b) (h : Int32.ofInt a < Int32.ofInt b) : a < b := (i32_l ha hb).mp h
theorem i32_ltF {a b : Int} (ha : r32 a) (hb : r32 b) (h : ¬ Int32.ofInt a < Int32.ofInt b) : b ≤ a := Int.not_lt.mp (fun q => h ((i32_l ha hb).mpr q))
theorem i32_geT {a b : Int} (ha : r32 a) (hb : r32 b) (h : Int32.ofInt b ≤ Int32.ofInt a) : b ≤ a := (i32_le hb ha).mp h
theorem i32_geF {a b : Int} (ha : r32 a) (hb : r32 b) (h : ¬ Int32.ofInt b ≤ Int32.ofInt a) : a < b := Int.not_le.mp (fun q => h ((i32_le hb ha).mpr q))
theorem i32_gtT {a b : Int} (ha : r32 a) (hb : r32 b) (h : Int32.ofInt b < Int32.ofInt a) : b < a := (i32_l hb ha).mp h
theorem i32_gtF {a b : Int} (ha : r32 a) (hb : r32 b) (h : ¬ Int32.ofInt b < Int32.ofInt a) : a ≤ b := Int.not_lt.mp (fun q => h ((i32_l hb ha).mpr q))
theorem i32_leT {a b : Int} (ha : r32 a) (hb : r32 b) (h : Int32.ofInt a ≤ Int32.ofInt b) : a ≤ b := (i32_le ha hb).mp h
theorem i32_leF {a b : Int} (ha : r32 a) (hb : r32 b) (h : ¬ Int32.ofInt a ≤ Int32.ofInt b) : b < a := Int.not_le.mp (fun q => h ((i32_le ha hb).mpr q))
section
variable {x : zX} {L : List LY} {cc : ByteArray} {own : String} {nL : Nat} {ret : Option FieldType} {fr lc : Nat} {Post : Option zV → SS → Prop} {pc : Nat} {loc loc' : List (Option zV)} {st : List zV} {S : SS}
theorem z_iconst (h : zOK x L cc own nL ret fr lc Post) {n : Int} (hd : decode cc pc = .ok (.iconst n, 1)) (k : zG x L (pc + 1) loc (zi n :: st) S) : zG x L pc loc (st) S := by
  obtain ⟨p, l, e, R, s, m, args, below, meth, c, Q, D, ad, T⟩ := x
  obtain ⟨hx, hb, hml, hown, hts, hK, hN, hinj, hlk, hret, hfr, hlc, hQ⟩ := h
  intro H locs ls hP hS hL
  exact lv_iconst hx hb hd rfl (k H locs ls hP hS hL)
theorem z_bipush (h : zOK x L cc own nL ret fr lc Post) {n : Int} (hd : decode cc pc = .ok (.bipush n, 2)) (hn : (Int8.ofInt n).toInt32 = Int32.ofInt n) (k : zG x L (pc + 2) loc (zi n :: st) S) : zG x L pc loc (st) S := by
  obtain ⟨p, l, e, R, s, m, args, below, meth, c, Q, D, ad, T⟩ := x
  obtain ⟨hx, hb, hml, hown, hts, hK, hN, hinj, hlk, hret, hfr, hlc, hQ⟩ := h
  intro H locs ls hP hS hL
  exact lv_bipush hx hb hd hn (k H locs ls hP hS hL)
theorem z_sipush (h : zOK x L cc own nL ret fr lc Post) {n : Int} (hd : decode cc pc = .ok (.sipush n, 3)) (hn : (Int16.ofInt n).toInt32 = Int32.ofInt n) (k : zG x L (pc + 3) loc (zi n :: st) S) : zG x L pc loc (st) S := by
  obtain ⟨p, l, e, R, s, m, args, below, meth, c, Q, D, ad, T⟩ := x
  obtain ⟨hx, hb, hml, hown, hts, hK, hN, hinj, hlk, hret, hfr, hlc, hQ⟩ := h
  intro H locs ls hP hS hL
  exact lv_sipush hx hb hd hn (k H locs ls hP hS hL)
theorem z_lconst (h : zOK x L cc own nL ret fr lc Post) {n : Fin 2} {a : Int} (hd : decode cc pc = .ok (.lconst n, 1)) (hn : Int64.ofNat (n : Nat) = Int64.ofInt a) (k : zG x L (pc + 1) loc (zl a :: st) S) : zG x L pc loc (st) S := by
  obtain ⟨p, l, e, R, s, m, args, below, meth, c, Q, D, ad, T⟩ := x
  obtain ⟨hx, hb, hml, hown, hts, hK, hN, hinj, hlk, hret, hfr, hlc, hQ⟩ := h
  intro H locs ls hP hS hL
  exact lv_lconst hx hb hd hn (k H locs ls hP hS hL)
theorem z_ldc (h : zOK x L cc own nL ret fr lc Post) {index : Nat} {v : Int32} {a : Int} (hc : Cond.constant own index v ∈ TB) (hd : decode cc pc = .ok (.ldc index, 2)) (hn : v = Int32.ofInt a) (k : zG x L (pc + 2) loc (zi a :: st) S) : zG x L pc loc (st) S := by
  obtain ⟨p, l, e, R, s, m, args, below, meth, c, Q, D, ad, T⟩ := x
  obtain ⟨hx, hb, hml, hown, hts, hK, hN, hinj, hlk, hret, hfr, hlc, hQ⟩ := h
  intro H locs ls hP hS hL
  subst hn
  exact lv_ldc hx hb hown (hts _ hc) hd (k H locs ls hP hS hL)
theorem z_ldcw (h : zOK x L cc own nL ret fr lc Post) {index : Nat} {v : Int32} {a : Int} (hc : Cond.constant own index v ∈ TB) (hd : decode cc pc = .ok (.ldc_w index, 3)) (hn : v = Int32.ofInt a) (k : zG x L (pc + 3) loc (zi a :: st) S) : zG x L pc loc (st) S := by
  obtain ⟨p, l, e, R, s, m, args, below, meth, c, Q, D, ad, T⟩ := x
  obtain ⟨hx, hb, hml, hown, hts, hK, hN, hinj, hlk, hret, hfr, hlc, hQ⟩ := h
  intro H locs ls hP hS hL
  subst hn
  exact lv_ldcw hx hb hown (hts _ hc) hd (k H locs ls hP hS hL)
theorem z_ldc2 (h : zOK x L cc own nL ret fr lc Post) {index : Nat} {v : Int64} {a : Int} (hc : Cond.constantLong own index v ∈ TB) (hd : decode cc pc = .ok (.ldc2_w index, 3)) (hn : v = Int64.ofInt a) (k : zG x L (pc + 3) loc (zl a :: st) S) : zG x L pc loc (st) S := by
  obtain ⟨p, l, e, R, s, m, args, below, meth, c, Q, D, ad, T⟩ := x
  obtain ⟨hx, hb, hml, hown, hts, hK, hN, hinj, hlk, hret, hfr, hlc, hQ⟩ := h
  intro H locs ls hP hS hL
  subst hn
  exact lv_ldc2 hx hb hown (hts _ hc) hd (k H locs ls hP hS hL)
theorem z_null (h : zOK x L cc own nL ret fr lc Post) (hd : decode cc pc = .ok (.aconst_null, 1)) (k : zG x L (pc + 1) loc (zn :: st) S) : zG x L pc loc (st) S := by
  obtain ⟨p, l, e, R, s, m, args, below, meth, c, Q, D, ad, T⟩ := x
  obtain ⟨hx, hb, hml, hown, hts, hK, hN, hinj, hlk, hret, hfr, hlc, hQ⟩ := h
  intro H locs ls hP hS hL
  exact lv_null hx hb hd (k H locs ls hP hS hL)
theorem z_iload_n (h : zOK x L cc own nL ret fr lc Post) {n : Fin 4} {a : Int} (hd : decode cc pc = .ok (.iload_n n, 1)) (hv : loc[(n : Nat)]? = some (some (zi a))) (k : zG x L (pc + 1) loc (zi a :: st) S) : zG x L pc loc (st) S := by
  obtain ⟨p, l, e, R, s, m, args, below, meth, c, Q, D, ad, T⟩ := x
  obtain ⟨hx, hb, hml, hown, hts, hK, hN, hinj, hlk, hret, hfr, hlc, hQ⟩ := h
  intro H locs ls hP hS hL
  exact lv_iload_n hx hb hd rfl (zL_at hL hv) (k H locs ls hP hS hL)
theorem z_iload (h : zOK x L cc own nL ret fr lc Post) {i : Nat} {a : Int} (hd : decode cc pc = .ok (.iload i, 2)) (hv : loc[i]? = some (some (zi a))) (k : zG x L (pc + 2) loc (zi a :: st) S) : zG x L pc loc (st) S := by
  obtain ⟨p, l, e, R, s, m, args, below, meth, c, Q, D, ad, T⟩ := x
  obtain ⟨hx, hb, hml, hown, hts, hK, hN, hinj, hlk, hret, hfr, hlc, hQ⟩ := h
  intro H locs ls hP hS hL
  exact lv_iload hx hb hd (zL_at hL hv) (k H locs ls hP hS hL)
theorem z_istore_n (h : zOK x L cc own nL ret fr lc Post) {n : Fin 4} {i : Nat} {a : Int} (hd : decode cc pc = .ok (.istore_n n, 1)) (hi : (n : Nat) = i) (hn : i < loc.length) (hok : zok loc i = true) (hl : loc.set i (some (zi a)) = loc') (k : zG x L (pc + 1) loc' st S) : zG x L pc loc (zi a :: st) S := by
  obtain ⟨p, l, e, R, s, m, args, below, meth, c, Q, D, ad, T⟩ := x
  obtain ⟨hx, hb, hml, hown, hts, hK, hN, hinj, hlk, hret, hfr, hlc, hQ⟩ := h
  intro H locs ls hP hS hL
  subst hl
  refine lv_istore_n hx hb hd hi hL hn rfl (fun ls' h' => ?_)
  exact k H locs ls' hP hS (zL_set1 (v := zi a) hn hok h')
theorem z_istore (h : zOK x L cc own nL ret fr lc Post) {i : Nat} {a : Int} (hd : decode cc pc = .ok (.istore i, 2)) (hn : i < loc.length) (hok : zok loc i = true) (hl : loc.set i (some (zi a)) = loc') (k : zG x L (pc + 2) loc' st S) : zG x L pc loc (zi a :: st) S := by
  obtain ⟨p, l, e, R, s, m, args, below, meth, c, Q, D, ad, T⟩ := x
  obtain ⟨hx, hb, hml, hown, hts, hK, hN, hinj, hlk, hret, hfr, hlc, hQ⟩ := h
  intro H locs ls hP hS hL
  subst hl
  refine lv_istore hx hb hd hL hn rfl (fun ls' h' => ?_)
  exact k H locs ls' hP hS (zL_set1 (v := zi a) hn hok h')
theorem z_lload_n (h : zOK x L cc own nL ret fr lc Post) {n : Fin 4} {a : Int} (hd : decode cc pc = .ok (.lload_n n, 1)) (hv : loc[(n : Nat)]? = some (some (zl a))) (k : zG x L (pc + 1) loc (zl a :: st) S) : zG x L pc loc (st) S := by
  obtain ⟨p, l, e, R, s, m, args, below, meth, c, Q, D, ad, T⟩ := x
  obtain ⟨hx, hb, hml, hown, hts, hK, hN, hinj, hlk, hret, hfr, hlc, hQ⟩ := h
  intro H locs ls hP hS hL
  exact lv_lload_n hx hb hd rfl (zL_at hL hv) (k H locs ls hP hS hL)
theorem z_lload (h : zOK x L cc own nL ret fr lc Post) {i : Nat} {a : Int} (hd : decode cc pc = .ok (.lload i, 2)) (hv : loc[i]? = some (some (zl a))) (k : zG x L (pc + 2) loc (zl a :: st) S) : zG x L pc loc (st) S := by
  obtain ⟨p, l, e, R, s, m, args, below, meth, c, Q, D, ad, T⟩ := x
  obtain ⟨hx, hb, hml, hown, hts, hK, hN, hinj, hlk, hret, hfr, hlc, hQ⟩ := h
  intro H locs ls hP hS hL
  exact lv_lload hx hb hd (zL_at hL hv) (k H locs ls hP hS hL)
theorem z_lstore_n (h : zOK x L cc own nL ret fr lc Post) {n : Fin 4} {i : Nat} {a : Int} (hd : decode cc pc = .ok (.lstore_n n, 1)) (hi : (n : Nat) = i) (hn : i + 1 < loc.length) (hok : zok loc i = true) (hl : (loc.set i (some (zl a))).set (i + 1) none = loc') (k : zG x L (pc + 1) loc' st S) : zG x L pc loc (zl a :: st) S := by
  obtain ⟨p, l, e, R, s, m, args, below, meth, c, Q, D, ad, T⟩ := x
  obtain ⟨hx, hb, hml, hown, hts, hK, hN, hinj, hlk, hret, hfr, hlc, hQ⟩ := h
  intro H locs ls hP hS hL
  subst hl
  refine lv_lstore_n hx hb hd hi hL hn rfl (fun ls' h' => ?_)
  exact k H locs ls' hP hS (zL_set2 (v := zl a) hn hok h')
theorem z_lstore (h : zOK x L cc own nL ret fr lc Post) {i : Nat} {a : Int} (hd : decode cc pc = .ok (.lstore i, 2)) (hn : i + 1 < loc.length) (hok : zok loc i = true) (hl : (loc.set i (some (zl a))).set (i + 1) none = loc') (k : zG x L (pc + 2) loc' st S) : zG x L pc loc (zl a :: st) S := by
  obtain ⟨p, l, e, R, s, m, args, below, meth, c, Q, D, ad, T⟩ := x
  obtain ⟨hx, hb, hml, hown, hts, hK, hN, hinj, hlk, hret, hfr, hlc, hQ⟩ := h
  intro H locs ls hP hS hL
  subst hl
  refine lv_lstore hx hb hd hL hn rfl (fun ls' h' => ?_)
  exact k H locs ls' hP hS (zL_set2 (v := zl a) hn hok h')
theorem z_aload_n (h : zOK x L cc own nL ret fr lc Post) {n : Fin 4} {a : Nat} (hd : decode cc pc = .ok (.aload_n n, 1)) (hv : loc[(n : Nat)]? = some (some (zr a))) (k : zG x L (pc + 1) loc (zr a :: st) S) : zG x L pc loc (st) S := by
  obtain ⟨p, l, e, R, s, m, args, below, meth, c, Q, D, ad, T⟩ := x
  obtain ⟨hx, hb, hml, hown, hts, hK, hN, hinj, hlk, hret, hfr, hlc, hQ⟩ := h
  intro H locs ls hP hS hL
  exact lv_aload_n hx hb hd rfl (zL_at hL hv) (k H locs ls hP hS hL)
theorem z_aload (h : zOK x L cc own nL ret fr lc Post) {i : Nat} {a : Nat} (hd : decode cc pc = .ok (.aload i, 2)) (hv : loc[i]? = some (some (zr a))) (k : zG x L (pc + 2) loc (zr a :: st) S) : zG x L pc loc (st) S := by
  obtain ⟨p, l, e, R, s, m, args, below, meth, c, Q, D, ad, T⟩ := x
  obtain ⟨hx, hb, hml, hown, hts, hK, hN, hinj, hlk, hret, hfr, hlc, hQ⟩ := h
  intro H locs ls hP hS hL
  exact lv_aload hx hb hd (zL_at hL hv) (k H locs ls hP hS hL)
theorem z_astore_n (h : zOK x L cc own nL ret fr lc Post) {n : Fin 4} {i : Nat} {a : Nat} (hd : decode cc pc = .ok (.astore_n n, 1)) (hi : (n : Nat) = i) (hn : i < loc.length) (hok : zok loc i = true) (hl : loc.set i (some (zr a)) = loc') (k : zG x L (pc + 1) loc' st S) : zG x L pc loc (zr a :: st) S := by
  obtain ⟨p, l, e, R, s, m, args, below, meth, c, Q, D, ad, T⟩ := x
  obtain ⟨hx, hb, hml, hown, hts, hK, hN, hinj, hlk, hret, hfr, hlc, hQ⟩ := h
  intro H locs ls hP hS hL
  subst hl
  refine lv_astore_n hx hb hd hi hL hn rfl (fun ls' h' => ?_)
  exact k H locs ls' hP hS (zL_set1 (v := zr a) hn hok h')
theorem z_astore (h : zOK x L cc own nL ret fr lc Post) {i : Nat} {a : Nat} (hd : decode cc pc = .ok (.astore i, 2)) (hn : i < loc.length) (hok : zok loc i = true) (hl : loc.set i (some (zr a)) = loc') (k : zG x L (pc + 2) loc' st S) : zG x L pc loc (zr a :: st) S := by
  obtain ⟨p, l, e, R, s, m, args, below, meth, c, Q, D, ad, T⟩ := x
  obtain ⟨hx, hb, hml, hown, hts, hK, hN, hinj, hlk, hret, hfr, hlc, hQ⟩ := h
  intro H locs ls hP hS hL
  subst hl
  refine lv_astore hx hb hd hL hn rfl (fun ls' h' => ?_)
  exact k H locs ls' hP hS (zL_set1 (v := zr a) hn hok h')
theorem z_nload_n (h : zOK x L cc own nL ret fr lc Post) {n : Fin 4} (hd : decode cc pc = .ok (.aload_n n, 1)) (hv : loc[(n : Nat)]? = some (some zn)) (k : zG x L (pc + 1) loc (zn :: st) S) : zG x L pc loc (st) S := by
  obtain ⟨p, l, e, R, s, m, args, below, meth, c, Q, D, ad, T⟩ := x
  obtain ⟨hx, hb, hml, hown, hts, hK, hN, hinj, hlk, hret, hfr, hlc, hQ⟩ := h
  intro H locs ls hP hS hL
  exact lv_aload_nN hx hb hd rfl (zL_at hL hv) (k H locs ls hP hS hL)
theorem z_nload (h : zOK x L cc own nL ret fr lc Post) {i : Nat} (hd : decode cc pc = .ok (.aload i, 2)) (hv : loc[i]? = some (some zn)) (k : zG x L (pc + 2) loc (zn :: st) S) : zG x L pc loc (st) S := by
  obtain ⟨p, l, e, R, s, m, args, below, meth, c, Q, D, ad, T⟩ := x
  obtain ⟨hx, hb, hml, hown, hts, hK, hN, hinj, hlk, hret, hfr, hlc, hQ⟩ := h
  intro H locs ls hP hS hL
  exact lv_aloadN hx hb hd (zL_at hL hv) (k H locs ls hP hS hL)
theorem z_nstore_n (h : zOK x L cc own nL ret fr lc Post) {n : Fin 4} {i : Nat} (hd : decode cc pc = .ok (.astore_n n, 1)) (hi : (n : Nat) = i) (hn : i < loc.length) (hok : zok loc i = true) (hl : loc.set i (some zn) = loc') (k : zG x L (pc + 1) loc' st S) : zG x L pc loc (zn :: st) S := by
  obtain ⟨p, l, e, R, s, m, args, below, meth, c, Q, D, ad, T⟩ := x
  obtain ⟨hx, hb, hml, hown, hts, hK, hN, hinj, hlk, hret, hfr, hlc, hQ⟩ := h
  intro H locs ls hP hS hL
  subst hl
  refine lv_astore_nN hx hb hd hi hL hn rfl (fun ls' h' => ?_)
  exact k H locs ls' hP hS (zL_set1 (v := zn) hn hok h')
theorem z_nstore (h : zOK x L cc own nL ret fr lc Post) {i : Nat} (hd : decode cc pc = .ok (.astore i, 2)) (hn : i < loc.length) (hok : zok loc i = true) (hl : loc.set i (some zn) = loc') (k : zG x L (pc + 2) loc' st S) : zG x L pc loc (zn :: st) S := by
  obtain ⟨p, l, e, R, s, m, args, below, meth, c, Q, D, ad, T⟩ := x
  obtain ⟨hx, hb, hml, hown, hts, hK, hN, hinj, hlk, hret, hfr, hlc, hQ⟩ := h
  intro H locs ls hP hS hL
  subst hl
  refine lv_astoreN hx hb hd hL hn rfl (fun ls' h' => ?_)
  exact k H locs ls' hP hS (zL_set1 (v := zn) hn hok h')
theorem z_iinc (h : zOK x L cc own nL ret fr lc Post) {i : Nat} {n a : Int} (hd : decode cc pc = .ok (.iinc i n, 3)) (hv : loc[i]? = some (some (zi a))) (hn : i < loc.length) (hok : zok loc i = true) (hl : loc.set i (some (zi (a + n))) = loc') (k : zG x L (pc + 3) loc' st S) : zG x L pc loc (st) S := by
  obtain ⟨p, l, e, R, s, m, args, below, meth, c, Q, D, ad, T⟩ := x
  obtain ⟨hx, hb, hml, hown, hts, hK, hN, hinj, hlk, hret, hfr, hlc, hQ⟩ := h
  intro H locs ls hP hS hL
  subst hl
  obtain ⟨j, hj⟩ := List.getElem?_of_mem (prs_mem (ad := ad) (b := 0) (q := (i, cv ad (zi a))).mpr ⟨i, zi a, hv, by rw [Nat.zero_add]⟩)
  refine lv_iinc (k := j) (x := Int32.ofInt a) (v := Int32.ofInt (a + n)) hx hb hd hL hj (Int32.ofInt_add a n).symm hn rfl (fun ls' h' => ?_)
  exact k H locs ls' hP hS (zL_set1 (v := zi (a + n)) hn hok h')
theorem z_iadd (h : zOK x L cc own nL ret fr lc Post) {a b : Int} (hd : decode cc pc = .ok (.iadd, 1)) (k : zG x L (pc + 1) loc (zi (a + b) :: st) S) : zG x L pc loc (zi b :: zi a :: st) S := by
  obtain ⟨p, l, e, R, s, m, args, below, meth, c, Q, D, ad, T⟩ := x
  obtain ⟨hx, hb, hml, hown, hts, hK, hN, hinj, hlk, hret, hfr, hlc, hQ⟩ := h
  intro H locs ls hP hS hL
  have k2 := k H locs ls hP hS hL
  simp only [List.map_cons, cv, Int32.ofInt_add] at k2 ⊢
  exact lv_iadd hx hb hd k2
theorem z_isub (h : zOK x L cc own nL ret fr lc Post) {a b : Int} (hd : decode cc pc = .ok (.isub, 1)) (k : zG x L (pc + 1) loc (zi (a - b) :: st) S) : zG x L pc loc (zi b :: zi a :: st) S := by
  obtain ⟨p, l, e, R, s, m, args, below, meth, c, Q, D, ad, T⟩ := x
  obtain ⟨hx, hb, hml, hown, hts, hK, hN, hinj, hlk, hret, hfr, hlc, hQ⟩ := h
  intro H locs ls hP hS hL
  have k2 := k H locs ls hP hS hL
  simp only [List.map_cons, cv, Int32.ofInt_sub] at k2 ⊢
  exact lv_isub hx hb hd k2
theorem z_imul (h : zOK x L cc own nL ret fr lc Post) {a b : Int} (hd : decode cc pc = .ok (.imul, 1)) (k : zG x L (pc + 1) loc (zi (a * b) :: st) S) : zG x L pc loc (zi b :: zi a :: st) S := by
  obtain ⟨p, l, e, R, s, m, args, below, meth, c, Q, D, ad, T⟩ := x
  obtain ⟨hx, hb, hml, hown, hts, hK, hN, hinj, hlk, hret, hfr, hlc, hQ⟩ := h
  intro H locs ls hP hS hL
  have k2 := k H locs ls hP hS hL
  simp only [List.map_cons, cv, Int32.ofInt_mul] at k2 ⊢
  exact lv_imul hx hb hd k2
theorem z_ineg (h : zOK x L cc own nL ret fr lc Post) {a : Int} (hd : decode cc pc = .ok (.ineg, 1)) (k : zG x L (pc + 1) loc (zi (-a) :: st) S) : zG x L pc loc (zi a :: st) S := by
  obtain ⟨p, l, e, R, s, m, args, below, meth, c, Q, D, ad, T⟩ := x
  obtain ⟨hx, hb, hml, hown, hts, hK, hN, hinj, hlk, hret, hfr, hlc, hQ⟩ := h
  intro H locs ls hP hS hL
  have k2 := k H locs ls hP hS hL
  simp only [List.map_cons, cv, Int32.ofInt_neg] at k2 ⊢
  exact lv_ineg hx hb hd k2
theorem z_ladd (h : zOK x L cc own nL ret fr lc Post) {a b : Int} (hd : decode cc pc = .ok (.ladd, 1)) (k : zG x L (pc + 1) loc (zl (a + b) :: st) S) : zG x L pc loc (zl b :: zl a :: st) S := by
  obtain ⟨p, l, e, R, s, m, args, below, meth, c, Q, D, ad, T⟩ := x
  obtain ⟨hx, hb, hml, hown, hts, hK, hN, hinj, hlk, hret, hfr, hlc, hQ⟩ := h
  intro H locs ls hP hS hL
  have k2 := k H locs ls hP hS hL
  simp only [List.map_cons, cv, Int64.ofInt_add] at k2 ⊢
  exact lv_ladd hx hb hd k2
theorem z_lsub (h : zOK x L cc own nL ret fr lc Post) {a b : Int} (hd : decode cc pc = .ok (.lsub, 1)) (k : zG x L (pc + 1) loc (zl (a - b) :: st) S) : zG x L pc loc (zl b :: zl a :: st) S := by
  obtain ⟨p, l, e, R, s, m, args, below, meth, c, Q, D, ad, T⟩ := x
  obtain ⟨hx, hb, hml, hown, hts, hK, hN, hinj, hlk, hret, hfr, hlc, hQ⟩ := h
  intro H locs ls hP hS hL
  have k2 := k H locs ls hP hS hL
  simp only [List.map_cons, cv, Int64.ofInt_sub] at k2 ⊢
  exact lv_lsub hx hb hd k2
theorem z_lmul (h : zOK x L cc own nL ret fr lc Post) {a b : Int} (hd : decode cc pc = .ok (.lmul, 1)) (k : zG x L (pc + 1) loc (zl (a * b) :: st) S) : zG x L pc loc (zl b :: zl a :: st) S := by
  obtain ⟨p, l, e, R, s, m, args, below, meth, c, Q, D, ad, T⟩ := x
  obtain ⟨hx, hb, hml, hown, hts, hK, hN, hinj, hlk, hret, hfr, hlc, hQ⟩ := h
  intro H locs ls hP hS hL
  have k2 := k H locs ls hP hS hL
  simp only [List.map_cons, cv, Int64.ofInt_mul] at k2 ⊢
  exact lv_lmul hx hb hd k2
theorem z_idiv (h : zOK x L cc own nL ret fr lc Post) {a b : Int} (hd : decode cc pc = .ok (.idiv, 1)) (ha : r32 a) (hbb : r32 b) (hne : b ≠ 0) (k : zG x L (pc + 1) loc (zi (a.tdiv b) :: st) S) : zG x L pc loc (zi b :: zi a :: st) S := by
  obtain ⟨p, l, e, R, s, m, args, below, meth, c, Q, D, ad, T⟩ := x
  obtain ⟨hx, hb, hml, hown, hts, hK, hN, hinj, hlk, hret, hfr, hlc, hQ⟩ := h
  intro H locs ls hP hS hL
  have k2 := k H locs ls hP hS hL
  simp only [List.map_cons, cv] at k2 ⊢
  rw [i32_div ha hbb] at k2
  exact lv_idiv hx hb hd (i32_n0 hbb hne) k2
theorem z_irem (h : zOK x L cc own nL ret fr lc Post) {a b : Int} (hd : decode cc pc = .ok (.irem, 1)) (ha : r32 a) (hbb : r32 b) (hne : b ≠ 0) (k : zG x L (pc + 1) loc (zi (a.tmod b) :: st) S) : zG x L pc loc (zi b :: zi a :: st) S := by
  obtain ⟨p, l, e, R, s, m, args, below, meth, c, Q, D, ad, T⟩ := x
  obtain ⟨hx, hb, hml, hown, hts, hK, hN, hinj, hlk, hret, hfr, hlc, hQ⟩ := h
  intro H locs ls hP hS hL
  have k2 := k H locs ls hP hS hL
  simp only [List.map_cons, cv] at k2 ⊢
  rw [i32_rem ha hbb] at k2
  exact lv_irem hx hb hd (i32_n0 hbb hne) k2
theorem z_idivN (h : zOK x L cc own nL ret fr lc Post) {a b : Int} (hd : decode cc pc = .ok (.idiv, 1)) (ha : 0 ≤ a ∧ a ≤ 2147483647) (hbb : 0 < b ∧ b ≤ 2147483647) (k : zG x L (pc + 1) loc (zi (a / b) :: st) S) : zG x L pc loc (zi b :: zi a :: st) S := by
  obtain ⟨p, l, e, R, s, m, args, below, meth, c, Q, D, ad, T⟩ := x
  obtain ⟨hx, hb, hml, hown, hts, hK, hN, hinj, hlk, hret, hfr, hlc, hQ⟩ := h
  intro H locs ls hP hS hL
  have k2 := k H locs ls hP hS hL
  simp only [List.map_cons, cv] at k2 ⊢
  rw [← Int.tdiv_eq_ediv_of_nonneg ha.1, i32_div ⟨by omega, ha.2⟩ ⟨by omega, hbb.2⟩] at k2
  exact lv_idiv hx hb hd (i32_n0 ⟨by omega, hbb.2⟩ (by omega)) k2
theorem z_iremN (h : zOK x L cc own nL ret fr lc Post) {a b : Int} (hd : decode cc pc = .ok (.irem, 1)) (ha : 0 ≤ a ∧ a ≤ 2147483647) (hbb : 0 < b ∧ b ≤ 2147483647) (k : zG x L (pc + 1) loc (zi (a % b) :: st) S) : zG x L pc loc (zi b :: zi a :: st) S := by
  obtain ⟨p, l, e, R, s, m, args, below, meth, c, Q, D, ad, T⟩ := x
  obtain ⟨hx, hb, hml, hown, hts, hK, hN, hinj, hlk, hret, hfr, hlc, hQ⟩ := h
  intro H locs ls hP hS hL
  have k2 := k H locs ls hP hS hL
  simp only [List.map_cons, cv] at k2 ⊢
  rw [← Int.tmod_eq_emod_of_nonneg ha.1, i32_rem ⟨by omega, ha.2⟩ ⟨by omega, hbb.2⟩] at k2
  exact lv_irem hx hb hd (i32_n0 ⟨by omega, hbb.2⟩ (by omega)) k2
theorem z_ishl (h : zOK x L cc own nL ret fr lc Post) {a b : Int} (hd : decode cc pc = .ok (.ishl, 1)) (hbb : 0 ≤ b ∧ b < 32) (k : zG x L (pc + 1) loc (zi (a * 2 ^ b.toNat) :: st) S) : zG x L pc loc (zi b :: zi a :: st) S := by
  obtain ⟨p, l, e, R, s, m, args, below, meth, c, Q, D, ad, T⟩ := x
  obtain ⟨hx, hb, hml, hown, hts, hK, hN, hinj, hlk, hret, hfr, hlc, hQ⟩ := h
  intro H locs ls hP hS hL
  have k2 := k H locs ls hP hS hL
  simp only [List.map_cons, cv] at k2 ⊢
  rw [← i32_shl a hbb] at k2
  exact lv_ishl hx hb hd k2
theorem z_ishr (h : zOK x L cc own nL ret fr lc Post) {a b : Int} (hd : decode cc pc = .ok (.ishr, 1)) (ha : r32 a) (hbb : 0 ≤ b ∧ b < 32) (k : zG x L (pc + 1) loc (zi (a / 2 ^ b.toNat) :: st) S) : zG x L pc loc (zi b :: zi a :: st) S := by
  obtain ⟨p, l, e, R, s, m, args, below, meth, c, Q, D, ad, T⟩ := x
  obtain ⟨hx, hb, hml, hown, hts, hK, hN, hinj, hlk, hret, hfr, hlc, hQ⟩ := h
  intro H locs ls hP hS hL
  have k2 := k H locs ls hP hS hL
  simp only [List.map_cons, cv] at k2 ⊢
  rw [← i32_shr ha hbb] at k2
  exact lv_ishr hx hb hd k2
theorem z_iand (h : zOK x L cc own nL ret fr lc Post) {a b : Int} (hd : decode cc pc = .ok (.iand, 1)) (ha : 0 ≤ a ∧ a ≤ 2147483647) (hbb : 0 ≤ b ∧ b ≤ 2147483647) (k : zG x L (pc + 1) loc (zi ((a.toNat &&& b.toNat : Nat) : Int) :: st) S) : zG x L pc loc (zi b :: zi a :: st) S := by
  obtain ⟨p, l, e, R, s, m, args, below, meth, c, Q, D, ad, T⟩ := x
  obtain ⟨hx, hb, hml, hown, hts, hK, hN, hinj, hlk, hret, hfr, hlc, hQ⟩ := h
  intro H locs ls hP hS hL
  have k2 := k H locs ls hP hS hL
  simp only [List.map_cons, cv] at k2 ⊢
  rw [← i32_and ha hbb] at k2
  exact lv_iand hx hb hd k2
theorem z_ior (h : zOK x L cc own nL ret fr lc Post) {a b : Int} (hd : decode cc pc = .ok (.ior, 1)) (ha : 0 ≤ a ∧ a ≤ 2147483647) (hbb : 0 ≤ b ∧ b ≤ 2147483647) (k : zG x L (pc + 1) loc (zi ((a.toNat ||| b.toNat : Nat) : Int) :: st) S) : zG x L pc loc (zi b :: zi a :: st) S := by
  obtain ⟨p, l, e, R, s, m, args, below, meth, c, Q, D, ad, T⟩ := x
  obtain ⟨hx, hb, hml, hown, hts, hK, hN, hinj, hlk, hret, hfr, hlc, hQ⟩ := h
  intro H locs ls hP hS hL
  have k2 := k H locs ls hP hS hL
  simp only [List.map_cons, cv] at k2 ⊢
  rw [← i32_or ha hbb] at k2
  exact lv_ior hx hb hd k2
theorem z_i2l (h : zOK x L cc own nL ret fr lc Post) {a : Int} (hd : decode cc pc = .ok (.i2l, 1)) (ha : r32 a) (k : zG x L (pc + 1) loc (zl a :: st) S) : zG x L pc loc (zi a :: st) S := by
  obtain ⟨p, l, e, R, s, m, args, below, meth, c, Q, D, ad, T⟩ := x
  obtain ⟨hx, hb, hml, hown, hts, hK, hN, hinj, hlk, hret, hfr, hlc, hQ⟩ := h
  intro H locs ls hP hS hL
  exact lv_i2l hx hb hd (i32_l64 ha) (k H locs ls hP hS hL)
theorem z_i2b (h : zOK x L cc own nL ret fr lc Post) {a : Int} (hd : decode cc pc = .ok (.i2b, 1)) (k : zG x L (pc + 1) loc (zi (a.bmod 256) :: st) S) : zG x L pc loc (zi a :: st) S := by
  obtain ⟨p, l, e, R, s, m, args, below, meth, c, Q, D, ad, T⟩ := x
  obtain ⟨hx, hb, hml, hown, hts, hK, hN, hinj, hlk, hret, hfr, hlc, hQ⟩ := h
  intro H locs ls hP hS hL
  exact lv_i2b hx hb hd (i32_b a) (k H locs ls hP hS hL)
theorem z_i2s (h : zOK x L cc own nL ret fr lc Post) {a : Int} (hd : decode cc pc = .ok (.i2s, 1)) (k : zG x L (pc + 1) loc (zi (a.bmod 65536) :: st) S) : zG x L pc loc (zi a :: st) S := by
  obtain ⟨p, l, e, R, s, m, args, below, meth, c, Q, D, ad, T⟩ := x
  obtain ⟨hx, hb, hml, hown, hts, hK, hN, hinj, hlk, hret, hfr, hlc, hQ⟩ := h
  intro H locs ls hP hS hL
  exact lv_i2s hx hb hd (i32_s a) (k H locs ls hP hS hL)
theorem z_lcmp (h : zOK x L cc own nL ret fr lc Post) {a b : Int} (hd : decode cc pc = .ok (.lcmp, 1)) (ha : -9223372036854775808 ≤ a ∧ a ≤ 9223372036854775807) (hbb : -9223372036854775808 ≤ b ∧ b ≤ 9223372036854775807) (k1 : a < b → zG x L (pc + 1) loc (zi (-1) :: st) S) (k2 : a = b → zG x L (pc + 1) loc (zi 0 :: st) S) (k3 : b < a → zG x L (pc + 1) loc (zi 1 :: st) S) : zG x L pc loc (zl b :: zl a :: st) S := by
  obtain ⟨p, l, e, R, s, m, args, below, meth, c, Q, D, ad, T⟩ := x
  obtain ⟨hx, hb, hml, hown, hts, hK, hN, hinj, hlk, hret, hfr, hlc, hQ⟩ := h
  intro H locs ls hP hS hL
  refine W.lcmp hx hb hd ?_
  unfold lg_cmp
  rcases Int.lt_trichotomy a b with h1 | h1 | h1
  · rw [if_neg (by rw [gt_iff_lt, Int64.lt_iff_toInt_lt, i64_t ha, i64_t hbb]; omega), if_neg (by rw [← Int64.toInt_inj, i64_t ha, i64_t hbb]; omega)]
    exact k1 h1 H locs ls hP hS hL
  · subst h1
    rw [if_neg (by rw [gt_iff_lt, Int64.lt_iff_toInt_lt]; omega), if_pos rfl]
    exact k2 rfl H locs ls hP hS hL
  · rw [if_pos (by rw [gt_iff_lt, Int64.lt_iff_toInt_lt, i64_t ha, i64_t hbb]; omega)]
    exact k3 h1 H locs ls hP hS hL
theorem z_lcmp_eq (h : zOK x L cc own nL ret fr lc Post) {a : Int} (hd : decode cc pc = .ok (.lcmp, 1)) (k2 : zG x L (pc + 1) loc (zi 0 :: st) S) : zG x L pc loc (zl a :: zl a :: st) S := by
  obtain ⟨p, l, e, R, s, m, args, below, meth, c, Q, D, ad, T⟩ := x
  obtain ⟨hx, hb, hml, hown, hts, hK, hN, hinj, hlk, hret, hfr, hlc, hQ⟩ := h
  intro H locs ls hP hS hL
  refine W.lcmp hx hb hd ?_
  unfold lg_cmp
  rw [if_neg (by rw [gt_iff_lt, Int64.lt_iff_toInt_lt]; omega), if_pos rfl]
  exact k2 H locs ls hP hS hL
theorem z_dup (h : zOK x L cc own nL ret fr lc Post) {v : zV} (hd : decode cc pc = .ok (.dup, 1)) (hv : (match v with | .inr (.inl _) => false | _ => true) = true) (k : zG x L (pc + 1) loc (v :: v :: st) S) : zG x L pc loc (v :: st) S := by
  obtain ⟨p, l, e, R, s, m, args, below, meth, c, Q, D, ad, T⟩ := x
  obtain ⟨hx, hb, hml, hown, hts, hK, hN, hinj, hlk, hret, hfr, hlc, hQ⟩ := h
  intro H locs ls hP hS hL
  exact lv_dup hx hb hd (cv_c1 hv) (k H locs ls hP hS hL)
theorem z_pop (h : zOK x L cc own nL ret fr lc Post) {v : zV} (hd : decode cc pc = .ok (.pop, 1)) (hv : (match v with | .inr (.inl _) => false | _ => true) = true) (k : zG x L (pc + 1) loc st S) : zG x L pc loc (v :: st) S := by
  obtain ⟨p, l, e, R, s, m, args, below, meth, c, Q, D, ad, T⟩ := x
  obtain ⟨hx, hb, hml, hown, hts, hK, hN, hinj, hlk, hret, hfr, hlc, hQ⟩ := h
  intro H locs ls hP hS hL
  exact lv_pop hx hb hd (cv_c1 hv) (k H locs ls hP hS hL)
theorem z_dup2 (h : zOK x L cc own nL ret fr lc Post) {v w : zV} (hd : decode cc pc = .ok (.dup2, 1)) (hv : (match v with | .inr (.inl _) => false | _ => true) = true) (hw : (match w with | .inr (.inl _) => false | _ => true) = true) (k : zG x L (pc + 1) loc (v :: w :: v :: w :: st) S) : zG x L pc loc (v :: w :: st) S := by
  obtain ⟨p, l, e, R, s, m, args, below, meth, c, Q, D, ad, T⟩ := x
  obtain ⟨hx, hb, hml, hown, hts, hK, hN, hinj, hlk, hret, hfr, hlc, hQ⟩ := h
  intro H locs ls hP hS hL
  exact lv_dup2_11 hx hb hd (cv_c1 hv) (cv_c1 hw) (k H locs ls hP hS hL)
theorem z_goto (h : zOK x L cc own nL ret fr lc Post) {off : Int} {tgt : Nat} (hd : decode cc pc = .ok (.goto off, 3)) (ht : (pc : Int) + off = (tgt : Int)) (k : zG x L tgt loc st S) : zG x L pc loc (st) S := by
  obtain ⟨p, l, e, R, s, m, args, below, meth, c, Q, D, ad, T⟩ := x
  obtain ⟨hx, hb, hml, hown, hts, hK, hN, hinj, hlk, hret, hfr, hlc, hQ⟩ := h
  intro H locs ls hP hS hL
  exact lv_goto hx hb hd ht (k H locs ls hP hS hL)
theorem z_icmp_eq (h : zOK x L cc own nL ret fr lc Post) {a b : Int} {off : Int} {tgt : Nat} (hd : decode cc pc = .ok (.if_icmp .eq off, 3)) (ht : (pc : Int) + off = (tgt : Int)) (ha : r32 a) (hbb : r32 b) (kt : a = b → zG x L tgt loc st S) (kf : ¬ a = b → zG x L (pc + 3) loc st S) : zG x L pc loc (zi b :: zi a :: st) S := by
  obtain ⟨p, l, e, R, s, m, args, below, meth, c, Q, D, ad, T⟩ := x
  obtain ⟨hx, hb, hml, hown, hts, hK, hN, hinj, hlk, hret, hfr, hlc, hQ⟩ := h
  intro H locs ls hP hS hL
  exact lv_icmp_eq hx hb hd ht (fun q => kt (i32_eqT ha hbb q) H locs ls hP hS hL) (fun q => kf (i32_eqF ha hbb q) H locs ls hP hS hL)
theorem z_if_eq (h : zOK x L cc own nL ret fr lc Post) {a : Int} {off : Int} {tgt : Nat} (hd : decode cc pc = .ok (.ifCond .eq off, 3)) (ht : (pc : Int) + off = (tgt : Int)) (ha : r32 a) (kt : a = 0 → zG x L tgt loc st S) (kf : ¬ a = 0 → zG x L (pc + 3) loc st S) : zG x L pc loc (zi a :: st) S := by
  obtain ⟨p, l, e, R, s, m, args, below, meth, c, Q, D, ad, T⟩ := x
  obtain ⟨hx, hb, hml, hown, hts, hK, hN, hinj, hlk, hret, hfr, hlc, hQ⟩ := h
  intro H locs ls hP hS hL
  have hbb : r32 0 := ⟨by decide, by decide⟩
  exact lv_if_eq hx hb hd ht (fun q => kt (i32_eqT ha hbb q) H locs ls hP hS hL) (fun q => kf (i32_eqF ha hbb q) H locs ls hP hS hL)
theorem z_icmp_ne (h : zOK x L cc own nL ret fr lc Post) {a b : Int} {off : Int} {tgt : Nat} (hd : decode cc pc = .ok (.if_icmp .ne off, 3)) (ht : (pc : Int) + off = (tgt : Int)) (ha : r32 a) (hbb : r32 b) (kt : ¬ a = b → zG x L tgt loc st S) (kf : a = b → zG x L (pc + 3) loc st S) : zG x L pc loc (zi b :: zi a :: st) S := by
  obtain ⟨p, l, e, R, s, m, args, below, meth, c, Q, D, ad, T⟩ := x
  obtain ⟨hx, hb, hml, hown, hts, hK, hN, hinj, hlk, hret, hfr, hlc, hQ⟩ := h
  intro H locs ls hP hS hL
  exact lv_icmp_ne hx hb hd ht (fun q => kt (i32_neT ha hbb q) H locs ls hP hS hL) (fun q => kf (i32_neF ha hbb q) H locs ls hP hS hL)
theorem z_if_ne (h : zOK x L cc own nL ret fr lc Post) {a : Int} {off : Int} {tgt : Nat} (hd : decode cc pc = .ok (.ifCond .ne off, 3)) (ht : (pc : Int) + off = (tgt : Int)) (ha : r32 a) (kt : ¬ a = 0 → zG x L tgt loc st S) (kf : a = 0 → zG x L (pc + 3) loc st S) : zG x L pc loc (zi a :: st) S := by
  obtain ⟨p, l, e, R, s, m, args, below, meth, c, Q, D, ad, T⟩ := x
  obtain ⟨hx, hb, hml, hown, hts, hK, hN, hinj, hlk, hret, hfr, hlc, hQ⟩ := h
  intro H locs ls hP hS hL
  have hbb : r32 0 := ⟨by decide, by decide⟩
  exact lv_if_ne hx hb hd ht (fun q => kt (i32_neT ha hbb q) H locs ls hP hS hL) (fun q => kf (i32_neF ha hbb q) H locs ls hP hS hL)
theorem z_icmp_lt (h : zOK x L cc own nL ret fr lc Post) {a b : Int} {off : Int} {tgt : Nat} (hd : decode cc pc = .ok (.if_icmp .lt off, 3)) (ht : (pc : Int) + off = (tgt : Int)) (ha : r32 a) (hbb : r32 b) (kt : a < b → zG x L tgt loc st S) (kf : b ≤ a → zG x L (pc + 3) loc st S) : zG x L pc loc (zi b :: zi a :: st) S := by
  obtain ⟨p, l, e, R, s, m, args, below, meth, c, Q, D, ad, T⟩ := x
  obtain ⟨hx, hb, hml, hown, hts, hK, hN, hinj, hlk, hret, hfr, hlc, hQ⟩ := h
  intro H locs ls hP hS hL
  exact lv_icmp_lt hx hb hd ht (fun q => kt (i32_ltT ha hbb q) H locs ls hP hS hL) (fun q => kf (i32_ltF ha hbb q) H locs ls hP hS hL)
theorem z_if_lt (h : zOK x L cc own nL ret fr lc Post) {a : Int} {off : Int} {tgt : Nat} (hd : decode cc pc = .ok (.ifCond .lt off, 3)) (ht : (pc : Int) + off = (tgt : Int)) (ha : r32 a) (kt : a < 0 → zG x L tgt loc st S) (kf : 0 ≤ a → zG x L (pc + 3) loc st S) : zG x L pc loc (zi a :: st) S := by
  obtain ⟨p, l, e, R, s, m, args, below, meth, c, Q, D, ad, T⟩ := x
  obtain ⟨hx, hb, hml, hown, hts, hK, hN, hinj, hlk, hret, hfr, hlc, hQ⟩ := h
  intro H locs ls hP hS hL
  have hbb : r32 0 := ⟨by decide, by decide⟩
  exact lv_if_lt hx hb hd ht (fun q => kt (i32_ltT ha hbb q) H locs ls hP hS hL) (fun q => kf (i32_ltF ha hbb q) H locs ls hP hS hL)
theorem z_icmp_ge (h : zOK x L cc own nL ret fr lc Post) {a b : Int} {off : Int} {tgt : Nat} (hd : decode cc pc = .ok (.if_icmp .ge off, 3)) (ht : (pc : Int) + off = (tgt : Int)) (ha : r32 a) (hbb : r32 b) (kt : b ≤ a → zG x L tgt loc st S) (kf : a < b → zG x L (pc + 3) loc st S) : zG x L pc loc (zi b :: zi a :: st) S := by
  obtain ⟨p, l, e, R, s, m, args, below, meth, c, Q, D, ad, T⟩ := x
  obtain ⟨hx, hb, hml, hown, hts, hK, hN, hinj, hlk, hret, hfr, hlc, hQ⟩ := h
  intro H locs ls hP hS hL
  exact lv_icmp_ge hx hb hd ht (fun q => kt (i32_geT ha hbb q) H locs ls hP hS hL) (fun q => kf (i32_geF ha hbb q) H locs ls hP hS hL)
theorem z_if_ge (h : zOK x L cc own nL ret fr lc Post) {a : Int} {off : Int} {tgt : Nat} (hd : decode cc pc = .ok (.ifCond .ge off, 3)) (ht : (pc : Int) + off = (tgt : Int)) (ha : r32 a) (kt : 0 ≤ a → zG x L tgt loc st S) (kf : a < 0 → zG x L (pc + 3) loc st S) : zG x L pc loc (zi a :: st) S := by
  obtain ⟨p, l, e, R, s, m, args, below, meth, c, Q, D, ad, T⟩ := x
  obtain ⟨hx, hb, hml, hown, hts, hK, hN, hinj, hlk, hret, hfr, hlc, hQ⟩ := h
  intro H locs ls hP hS hL
  have hbb : r32 0 := ⟨by decide, by decide⟩
  exact lv_if_ge hx hb hd ht (fun q => kt (i32_geT ha hbb q) H locs ls hP hS hL) (fun q => kf (i32_geF ha hbb q) H locs ls hP hS hL)
theorem z_icmp_gt (h : zOK x L cc own nL ret fr lc Post) {a b : Int} {off : Int} {tgt : Nat} (hd : decode cc pc = .ok (.if_icmp .gt off, 3)) (ht : (pc : Int) + off = (tgt : Int)) (ha : r32 a) (hbb : r32 b) (kt : b < a → zG x L tgt loc st S) (kf : a ≤ b → zG x L (pc + 3) loc st S) : zG x L pc loc (zi b :: zi a :: st) S := by
  obtain ⟨p, l, e, R, s, m, args, below, meth, c, Q, D, ad, T⟩ := x
  obtain ⟨hx, hb, hml, hown, hts, hK, hN, hinj, hlk, hret, hfr, hlc, hQ⟩ := h
  intro H locs ls hP hS hL
  exact lv_icmp_gt hx hb hd ht (fun q => kt (i32_gtT ha hbb q) H locs ls hP hS hL) (fun q => kf (i32_gtF ha hbb q) H locs ls hP hS hL)
theorem z_if_gt (h : zOK x L cc own nL ret fr lc Post) {a : Int} {off : Int} {tgt : Nat} (hd : decode cc pc = .ok (.ifCond .gt off, 3)) (ht : (pc : Int) + off = (tgt : Int)) (ha : r32 a) (kt : 0 < a → zG x L tgt loc st S) (kf : a ≤ 0 → zG x L (pc + 3) loc st S) : zG x L pc loc (zi a :: st) S := by
  obtain ⟨p, l, e, R, s, m, args, below, meth, c, Q, D, ad, T⟩ := x
  obtain ⟨hx, hb, hml, hown, hts, hK, hN, hinj, hlk, hret, hfr, hlc, hQ⟩ := h
  intro H locs ls hP hS hL
  have hbb : r32 0 := ⟨by decide, by decide⟩
  exact lv_if_gt hx hb hd ht (fun q => kt (i32_gtT ha hbb q) H locs ls hP hS hL) (fun q => kf (i32_gtF ha hbb q) H locs ls hP hS hL)
theorem z_icmp_le (h : zOK x L cc own nL ret fr lc Post) {a b : Int} {off : Int} {tgt : Nat} (hd : decode cc pc = .ok (.if_icmp .le off, 3)) (ht : (pc : Int) + off = (tgt : Int)) (ha : r32 a) (hbb : r32 b) (kt : a ≤ b → zG x L tgt loc st S) (kf : b < a → zG x L (pc + 3) loc st S) : zG x L pc loc (zi b :: zi a :: st) S := by
  obtain ⟨p, l, e, R, s, m, args, below, meth, c, Q, D, ad, T⟩ := x
  obtain ⟨hx, hb, hml, hown, hts, hK, hN, hinj, hlk, hret, hfr, hlc, hQ⟩ := h
  intro H locs ls hP hS hL
  exact lv_icmp_le hx hb hd ht (fun q => kt (i32_leT ha hbb q) H locs ls hP hS hL) (fun q => kf (i32_leF ha hbb q) H locs ls hP hS hL)
theorem z_if_le (h : zOK x L cc own nL ret fr lc Post) {a : Int} {off : Int} {tgt : Nat} (hd : decode cc pc = .ok (.ifCond .le off, 3)) (ht : (pc : Int) + off = (tgt : Int)) (ha : r32 a) (kt : a ≤ 0 → zG x L tgt loc st S) (kf : 0 < a → zG x L (pc + 3) loc st S) : zG x L pc loc (zi a :: st) S := by
  obtain ⟨p, l, e, R, s, m, args, below, meth, c, Q, D, ad, T⟩ := x
  obtain ⟨hx, hb, hml, hown, hts, hK, hN, hinj, hlk, hret, hfr, hlc, hQ⟩ := h
  intro H locs ls hP hS hL
  have hbb : r32 0 := ⟨by decide, by decide⟩
  exact lv_if_le hx hb hd ht (fun q => kt (i32_leT ha hbb q) H locs ls hP hS hL) (fun q => kf (i32_leF ha hbb q) H locs ls hP hS hL)
theorem z_ifnull_r (h : zOK x L cc own nL ret fr lc Post) {a : Nat} {off : Int} (hd : decode cc pc = .ok (.ifnull off, 3)) (k : zG x L (pc + 3) loc st S) : zG x L pc loc (zr a :: st) S := by
  obtain ⟨p, l, e, R, s, m, args, below, meth, c, Q, D, ad, T⟩ := x
  obtain ⟨hx, hb, hml, hown, hts, hK, hN, hinj, hlk, hret, hfr, hlc, hQ⟩ := h
  intro H locs ls hP hS hL
  exact lv_ifnull hx hb hd (k H locs ls hP hS hL)
theorem z_ifnull_n (h : zOK x L cc own nL ret fr lc Post) {off : Int} {tgt : Nat} (hd : decode cc pc = .ok (.ifnull off, 3)) (ht : (pc : Int) + off = (tgt : Int)) (k : zG x L tgt loc st S) : zG x L pc loc (zn :: st) S := by
  obtain ⟨p, l, e, R, s, m, args, below, meth, c, Q, D, ad, T⟩ := x
  obtain ⟨hx, hb, hml, hown, hts, hK, hN, hinj, hlk, hret, hfr, hlc, hQ⟩ := h
  intro H locs ls hP hS hL
  exact lv_ifnullN hx hb hd ht (k H locs ls hP hS hL)
theorem z_ifnonnull_r (h : zOK x L cc own nL ret fr lc Post) {a : Nat} {off : Int} {tgt : Nat} (hd : decode cc pc = .ok (.ifnonnull off, 3)) (ht : (pc : Int) + off = (tgt : Int)) (k : zG x L tgt loc st S) : zG x L pc loc (zr a :: st) S := by
  obtain ⟨p, l, e, R, s, m, args, below, meth, c, Q, D, ad, T⟩ := x
  obtain ⟨hx, hb, hml, hown, hts, hK, hN, hinj, hlk, hret, hfr, hlc, hQ⟩ := h
  intro H locs ls hP hS hL
  exact lv_ifnonnull hx hb hd ht (k H locs ls hP hS hL)
theorem z_ifnonnull_n (h : zOK x L cc own nL ret fr lc Post) {off : Int} (hd : decode cc pc = .ok (.ifnonnull off, 3)) (k : zG x L (pc + 3) loc st S) : zG x L pc loc (zn :: st) S := by
  obtain ⟨p, l, e, R, s, m, args, below, meth, c, Q, D, ad, T⟩ := x
  obtain ⟨hx, hb, hml, hown, hts, hK, hN, hinj, hlk, hret, hfr, hlc, hQ⟩ := h
  intro H locs ls hP hS hL
  exact lv_ifnonnullN hx hb hd (k H locs ls hP hS hL)
theorem z_acmp_ne (h : zOK x L cc own nL ret fr lc Post) {a b : Nat} {off : Int} {tgt : Nat} (hd : decode cc pc = .ok (.if_acmp .ne off, 3)) (ht : (pc : Int) + off = (tgt : Int)) (ha : a < L.length) (hbb : b < L.length) (kt : ¬ a = b → zG x L tgt loc st S) (kf : a = b → zG x L (pc + 3) loc st S) : zG x L pc loc (zr b :: zr a :: st) S := by
  obtain ⟨p, l, e, R, s, m, args, below, meth, c, Q, D, ad, T⟩ := x
  obtain ⟨hx, hb, hml, hown, hts, hK, hN, hinj, hlk, hret, hfr, hlc, hQ⟩ := h
  intro H locs ls hP hS hL
  exact lv_acmp_ne (rx := some (ad a)) (ry := some (ad b)) hx hb hd ht (fun q => kt (fun z => q (by rw [z])) H locs ls hP hS hL) (fun q => kf (hinj a b ha hbb (Option.some.inj q)) H locs ls hP hS hL)
theorem z_tab_in (h : zOK x L cc own nL ret fr lc Post) {a : Int} {dflt lo hi : Int} {offs : Array Int} {len : Nat} {off : Int} {tgt : Nat} (hd : decode cc pc = .ok (.tableswitch dflt lo hi offs, len)) (ha : r32 a) (h1 : ¬ a < lo) (h2 : ¬ hi < a) (ho : offs[(a - lo).toNat]? = some off) (ht : (pc : Int) + off = (tgt : Int)) (k : zG x L tgt loc st S) : zG x L pc loc (zi a :: st) S := by
  obtain ⟨p, l, e, R, s, m, args, below, meth, c, Q, D, ad, T⟩ := x
  obtain ⟨hx, hb, hml, hown, hts, hK, hN, hinj, hlk, hret, hfr, hlc, hQ⟩ := h
  intro H locs ls hP hS hL
  exact lv_tableIn hx hb hd (by rw [i32_t ha]; exact h1) (by rw [i32_t ha]; exact h2) (by rw [i32_t ha]; exact ho) ht (k H locs ls hP hS hL)
theorem z_tab_out (h : zOK x L cc own nL ret fr lc Post) {a : Int} {dflt lo hi : Int} {offs : Array Int} {len : Nat} {tgt : Nat} (hd : decode cc pc = .ok (.tableswitch dflt lo hi offs, len)) (ha : r32 a) (h1 : a < lo ∨ hi < a) (ht : (pc : Int) + dflt = (tgt : Int)) (k : zG x L tgt loc st S) : zG x L pc loc (zi a :: st) S := by
  obtain ⟨p, l, e, R, s, m, args, below, meth, c, Q, D, ad, T⟩ := x
  obtain ⟨hx, hb, hml, hown, hts, hK, hN, hinj, hlk, hret, hfr, hlc, hQ⟩ := h
  intro H locs ls hP hS hL
  exact lv_tableOut hx hb hd (by rw [i32_t ha]; exact h1) ht (k H locs ls hP hS hL)
end
end
section
/-! fields, arrays, calls, ends -/
theorem zgood (y : MethodName) {bytes : ByteArray} {maxL : Nat} {rt : Option FieldType} (h : Cond.code y bytes maxL rt ∈ TB) : GoodIn TB (Cond.code y bytes maxL rt :: TB) := by
  intro w hw
  have hm : w ∈ TB := by
    rcases List.mem_cons.mp hw with rfl | h1
    · exact h
    · exact h1
  exact ⟨hm, good_of_word (tb_good w hm)⟩
def zcat (st : List zV) : Nat := (st.map fun v => match v with | .inr (.inl _) => 2 | _ => 1).sum
theorem zcat_eq (ad : Nat → Nat) : ∀ st : List zV, ((st.map (cv ad)).map fun v => v.category).sum = zcat st
  | [] => rfl
  | v :: r => by
    have ih := zcat_eq ad r
    match v with
    | .inl a => simpa [zcat, cv, Value.category] using ih
    | .inr (.inl a) => simpa [zcat, cv, Value.category] using ih
    | .inr (.inr (some k)) => simpa [zcat, cv, Value.category] using ih
    | .inr (.inr none) => simpa [zcat, cv, Value.category] using ih
section
variable {x : zX} {L : List LY} {cc : ByteArray} {own : String} {nL : Nat} {ret : Option FieldType} {fr lc : Nat} {Post : Option zV → SS → Prop} {pc : Nat} {loc loc' : List (Option zV)} {st : List zV} {S : SS}
theorem z_get (h : zOK x L cc own nL ret fr lc Post) {index k ci j kd : Nat} {ks : List Nat} {C : String} {TT : u_T} {N : Nat} {ty : Nat → FieldType} (hd : decode cc pc = .ok (.getfield index, 3)) (hc : zCl ci C TT N ty) (hl : zLk own index C TT j) (hj : j < N) (he : L[k]? = some (0, ci, ks)) (hk : ks[j]? = some kd) (v : zV) (hv : ∀ ad, fE ad S k j kd = cv ad v) (kk : zG x L (pc + 3) loc (v :: st) S) : zG x L pc loc (zr k :: st) S := by
  obtain ⟨p, l, e, R, s, m, args, below, meth, c, Q, D, ad, T⟩ := x
  obtain ⟨hx, hb, hml, hown, hts, hK, hN, hinj, hlk, hret, hfr, hlc, hQ⟩ := h
  intro H locs ls hP hS hL
  obtain ⟨c1, c2, c3, c4⟩ := hc
  obtain ⟨hl1, hl2⟩ := hl
  have hs : ∀ z, s.fieldFound? (TT j).1 (TT j).2.1 (TT j).2.2.1 = some z → s.fieldFound? C (TT j).2.1 (TT j).2.2.1 = some z := by rw [hl2]; exact fun _ z => z
  have hf := fld_at (ad := ad) (S := S) (k := k) hk
  rw [hv ad] at hf
  rcases hl1 with hl1 | ⟨host, hl1⟩
  · exact va_get (D := D) (own := own) (C := C) (T := TT) (N := N) hx hb hts c2 hown hK hP k (wd_at he) c1 j hj (hts _ hl1) hs hf hd (kk H locs ls hP hS hL)
  · exact va_getN (D := D) (own := own) (C := C) (T := TT) (N := N) hx hb hts c2 hown hK hP k (wd_at he) c1 j hj (va_Nw.use rfl (hN _ hl1)) hs hf hd (kk H locs ls hP hS hL)
theorem z_getI (h : zOK x L cc own nL ret fr lc Post) {index k ci j : Nat} {ks : List Nat} {C : String} {TT : u_T} {N : Nat} {ty : Nat → FieldType} (hd : decode cc pc = .ok (.getfield index, 3)) (hc : zCl ci C TT N ty) (hl : zLk own index C TT j) (hj : j < N) (he : L[k]? = some (0, ci, ks)) (hk : ks[j]? = some 0) (kk : zG x L (pc + 3) loc (zi (S k j) :: st) S) : zG x L pc loc (zr k :: st) S := z_get h hd hc hl hj he hk (zi (S k j)) (fun _ => rfl) kk
theorem z_getR (h : zOK x L cc own nL ret fr lc Post) {index k ci j a : Nat} {ks : List Nat} {C : String} {TT : u_T} {N : Nat} {ty : Nat → FieldType} (hd : decode cc pc = .ok (.getfield index, 3)) (hc : zCl ci C TT N ty) (hl : zLk own index C TT j) (hj : j < N) (he : L[k]? = some (0, ci, ks)) (hk : ks[j]? = some (a + 2)) (kk : zG x L (pc + 3) loc (zr a :: st) S) : zG x L pc loc (zr k :: st) S := z_get h hd hc hl hj he hk (zr a) (fun _ => rfl) kk
theorem z_getD (h : zOK x L cc own nL ret fr lc Post) {index k ci j a : Nat} {ks : List Nat} {C : String} {TT : u_T} {N : Nat} {ty : Nat → FieldType} (hd : decode cc pc = .ok (.getfield index, 3)) (hc : zCl ci C TT N ty) (hl : zLk own index C TT j) (hj : j < N) (he : L[k]? = some (0, ci, ks)) (hk : ks[j]? = some 1) (hS : S k j = (a : Int)) (kk : zG x L (pc + 3) loc (zr a :: st) S) : zG x L pc loc (zr k :: st) S := z_get h hd hc hl hj he hk (zr a) (fun ad => by rw [fE, hS, if_neg (by omega)]; rfl) kk
theorem z_put (h : zOK x L cc own nL ret fr lc Post) {index k ci j kd : Nat} {ks : List Nat} {C : String} {TT : u_T} {N : Nat} {ty : Nat → FieldType} {S' : SS} (hd : decode cc pc = .ok (.putfield index, 3)) (hc : zCl ci C TT N ty) (hl : zLk own index C TT j) (hj : j < N) (he : L[k]? = some (0, ci, ks)) (hk : ks[j]? = some kd) (hfin : (TT j).2.2.2 = false) (v : zV) (hv : ∀ ad, fE ad S' k j kd = cv ad v) (ho : ∀ a b, ¬ (a = k ∧ b = j) → S' a b = S a b) (hn : ∀ ad, narrow (ty j) (cv ad v) = cv ad v) (hfit : ∀ ad, fits (ty j) (cv ad v) = true) (kk : zG x L (pc + 3) loc st S') : zG x L pc loc (v :: zr k :: st) S := by
  obtain ⟨p, l, e, R, s, m, args, below, meth, c, Q, D, ad, T⟩ := x
  obtain ⟨hx, hb, hml, hown, hts, hK, hN, hinj, hlk, hret, hfr, hlc, hQ⟩ := h
  intro H locs ls hP hS hL
  obtain ⟨c1, c2, c3, c4⟩ := hc
  obtain ⟨hl1, hl2⟩ := hl
  have hs : ∀ z, s.fieldFound? (TT j).1 (TT j).2.1 (TT j).2.2.1 = some z → s.fieldFound? C (TT j).2.1 (TT j).2.2.1 = some z := by rw [hl2]; exact fun _ z => z
  have hlen : j < (flds ad S k ks).length := by simp [flds]; exact (List.getElem?_eq_some_iff.mp hk).1
  have hset := wd_set (T := T) he (e := .inr (ci, (flds ad S k ks).set j (cv ad v))) (show cE ad T S' k (0, ci, ks) = _ from by rw [cE, fld_set hk (hv ad) (fun i hi => ho k i (fun q => hi q.2))]) (fun a ha b => ho a b (fun q => ha q.1))
  rcases hl1 with hl1 | ⟨host, hl1⟩
  · exact va_put (D := D) (own := own) (C := C) (T := TT) (N := N) hx hb hts c2 ty c3 c4 hown hK hP (wd_D hinj) hS k (wd_at he) c1 j hj (hts _ hl1) hs hfin (c3 j hj) (hn ad) (hfit ad) hlen hd (fun H1 locs1 hP1 _ hS1 => kk H1 locs1 ls (hset ▸ hP1) hS1 hL)
  · exact va_putN (D := D) (own := own) (C := C) (T := TT) (N := N) hx hb hts c2 ty c3 c4 hown hK hP (wd_D hinj) hS k (wd_at he) c1 j hj (va_Nw.use rfl (hN _ hl1)) hs hfin (c3 j hj) (hn ad) (hfit ad) hlen hd (fun H1 locs1 hP1 _ hS1 => kk H1 locs1 ls (hset ▸ hP1) hS1 hL)
theorem z_putI (h : zOK x L cc own nL ret fr lc Post) {index k ci j : Nat} {ks : List Nat} {C : String} {TT : u_T} {N : Nat} {ty : Nat → FieldType} {a : Int} (hd : decode cc pc = .ok (.putfield index, 3)) (hc : zCl ci C TT N ty) (hl : zLk own index C TT j) (hj : j < N) (he : L[k]? = some (0, ci, ks)) (hk : ks[j]? = some 0) (hfin : (TT j).2.2.2 = false) (hty : ty j = .int) (kk : zG x L (pc + 3) loc st (up2 S k j a)) : zG x L pc loc (zi a :: zr k :: st) S := z_put (S' := up2 S k j a) h hd hc hl hj he hk hfin (zi a) (fun ad => by show Value.int (Int32.ofInt (up2 S k j a k j)) = _; rw [up2_s]; rfl) (fun a b q => if_neg q) (fun ad => by rw [hty]; rfl) (fun ad => by rw [hty]; rfl) kk
theorem z_putZ (h : zOK x L cc own nL ret fr lc Post) {index k ci j : Nat} {ks : List Nat} {C : String} {TT : u_T} {N : Nat} {ty : Nat → FieldType} {a : Int} (hd : decode cc pc = .ok (.putfield index, 3)) (hc : zCl ci C TT N ty) (hl : zLk own index C TT j) (hj : j < N) (he : L[k]? = some (0, ci, ks)) (hk : ks[j]? = some 0) (hfin : (TT j).2.2.2 = false) (hty : ty j = .boolean) (ha : a = 0 ∨ a = 1) (kk : zG x L (pc + 3) loc st (up2 S k j a)) : zG x L pc loc (zi a :: zr k :: st) S := z_put (S' := up2 S k j a) h hd hc hl hj he hk hfin (zi a) (fun ad => by show Value.int (Int32.ofInt (up2 S k j a k j)) = _; rw [up2_s]; rfl) (fun a b q => if_neg q) (fun ad => by rw [hty]; rcases ha with rfl | rfl <;> rfl) (fun ad => by rw [hty]; rcases ha with rfl | rfl <;> rfl) kk
theorem z_putD (h : zOK x L cc own nL ret fr lc Post) {index k ci j a : Nat} {ks : List Nat} {C : String} {TT : u_T} {N : Nat} {ty : Nat → FieldType} {C2 : String} (hd : decode cc pc = .ok (.putfield index, 3)) (hc : zCl ci C TT N ty) (hl : zLk own index C TT j) (hj : j < N) (he : L[k]? = some (0, ci, ks)) (hk : ks[j]? = some 1) (hfin : (TT j).2.2.2 = false) (hty : ty j = .object C2) (kk : zG x L (pc + 3) loc st (up2 S k j (a : Int))) : zG x L pc loc (zr a :: zr k :: st) S := z_put (S' := up2 S k j (a : Int)) h hd hc hl hj he hk hfin (zr a) (fun ad => by show (if up2 S k j (a : Int) k j < 0 then Value.null else Value.ref (ad (up2 S k j (a : Int) k j).toNat)) = _; rw [up2_s, if_neg (by omega)]; rfl) (fun a b q => if_neg q) (fun ad => by rw [hty]; rfl) (fun ad => by rw [hty]; rfl) kk
theorem z_iald (h : zOK x L cc own nL ret fr lc Post) {k n : Nat} {ks : List Nat} {i : Int} (hd : decode cc pc = .ok (.iaload, 1)) (he : L[k]? = some (1, n, ks)) (hn : n ≤ 2147483647) (h0 : 0 ≤ i) (h1 : i < n) (kk : zG x L (pc + 1) loc (zi (S k i.toNat) :: st) S) : zG x L pc loc (zi i :: zr k :: st) S := by
  obtain ⟨p, l, e, R, s, m, args, below, meth, c, Q, D, ad, T⟩ := x
  obtain ⟨hx, hb, hml, hown, hts, hK, hN, hinj, hlk, hret, hfr, hlc, hQ⟩ := h
  intro H locs ls hP hS hL
  obtain ⟨hi, ht⟩ := i32_c h0 h1 hn
  have k2 := kk H locs ls hP hS hL
  rw [← ht] at k2
  exact va_iald (D := D) hx hb hK hP k 0 (wd_at he) rfl hi hd k2
theorem z_zald (h : zOK x L cc own nL ret fr lc Post) {k n : Nat} {ks : List Nat} {i : Int} (hd : decode cc pc = .ok (.baload, 1)) (he : L[k]? = some (2, n, ks)) (hn : n ≤ 2147483647) (h0 : 0 ≤ i) (h1 : i < n) (kk : zG x L (pc + 1) loc (zi (S k i.toNat) :: st) S) : zG x L pc loc (zi i :: zr k :: st) S := by
  obtain ⟨p, l, e, R, s, m, args, below, meth, c, Q, D, ad, T⟩ := x
  obtain ⟨hx, hb, hml, hown, hts, hK, hN, hinj, hlk, hret, hfr, hlc, hQ⟩ := h
  intro H locs ls hP hS hL
  obtain ⟨hi, ht⟩ := i32_c h0 h1 hn
  have k2 := kk H locs ls hP hS hL
  rw [← ht] at k2
  exact va_zald (D := D) hx hb hK hP k 1 (wd_at he) rfl hi hd k2
theorem z_iast (h : zOK x L cc own nL ret fr lc Post) {k n : Nat} {ks : List Nat} {i a : Int} (hd : decode cc pc = .ok (.iastore, 1)) (he : L[k]? = some (1, n, ks)) (hn : n ≤ 2147483647) (h0 : 0 ≤ i) (h1 : i < n) (kk : zG x L (pc + 1) loc st (up2 S k i.toNat a)) : zG x L pc loc (zi a :: zi i :: zr k :: st) S := by
  obtain ⟨p, l, e, R, s, m, args, below, meth, c, Q, D, ad, T⟩ := x
  obtain ⟨hx, hb, hml, hown, hts, hK, hN, hinj, hlk, hret, hfr, hlc, hQ⟩ := h
  intro H locs ls hP hS hL
  obtain ⟨hi, ht⟩ := i32_c h0 h1 hn
  have hset := wd_set (ad := ad) (T := T) (S := S) (S' := up2 S k i.toNat a) he (e := .inl (T.1, n, .inl (upd (fun j => Int32.ofInt (S k j)) (Int32.ofInt i).toNatClampNeg (Int32.ofInt a)))) (by
    rw [ht]
    simp only [cE]
    congr 4
    funext j
    by_cases hj : j = i.toNat
    · subst hj
      rw [up2_s]
      simp [upd]
    · rw [up2_j S a hj]
      simp [upd, hj]) (fun b hb2 j => up2_k S a hb2)
  exact va_iast (D := D) hx hb hK hP (wd_D hinj) hS k 0 (wd_at he) rfl hi hd (fun H1 locs1 hP1 _ hS1 => kk H1 locs1 ls (hset ▸ hP1) hS1 hL)
theorem z_zast (h : zOK x L cc own nL ret fr lc Post) {k n : Nat} {ks : List Nat} {i a : Int} (hd : decode cc pc = .ok (.bastore, 1)) (he : L[k]? = some (2, n, ks)) (hn : n ≤ 2147483647) (h0 : 0 ≤ i) (h1 : i < n) (ha : a = 0 ∨ a = 1) (kk : zG x L (pc + 1) loc st (up2 S k i.toNat a)) : zG x L pc loc (zi a :: zi i :: zr k :: st) S := by
  obtain ⟨p, l, e, R, s, m, args, below, meth, c, Q, D, ad, T⟩ := x
  obtain ⟨hx, hb, hml, hown, hts, hK, hN, hinj, hlk, hret, hfr, hlc, hQ⟩ := h
  intro H locs ls hP hS hL
  have hv : vp_nar .boolean (Int32.ofInt a) = Int32.ofInt a := by rcases ha with rfl | rfl <;> rfl
  obtain ⟨hi, ht⟩ := i32_c h0 h1 hn
  have hset := wd_set (ad := ad) (T := T) (S := S) (S' := up2 S k i.toNat a) he (e := .inl (T.2.1, n, .inl (upd (fun j => Int32.ofInt (S k j)) (Int32.ofInt i).toNatClampNeg (vp_nar .boolean (Int32.ofInt a))))) (by
    rw [ht, hv]
    simp only [cE]
    congr 4
    funext j
    by_cases hj : j = i.toNat
    · subst hj
      rw [up2_s]
      simp [upd]
    · rw [up2_j S a hj]
      simp [upd, hj]) (fun b hb2 j => up2_k S a hb2)
  exact va_zast (D := D) hx hb hK hP (wd_D hinj) hS k 1 (wd_at he) rfl hi hd (fun H1 locs1 hP1 _ hS1 => kk H1 locs1 ls (hset ▸ hP1) hS1 hL)
theorem z_alen (h : zOK x L cc own nL ret fr lc Post) {k n : Nat} {ks : List Nat} (hd : decode cc pc = .ok (.arraylength, 1)) (he : L[k]? = some (1, n, ks)) (kk : zG x L (pc + 1) loc (zi (n : Int) :: st) S) : zG x L pc loc (zr k :: st) S := by
  obtain ⟨p, l, e, R, s, m, args, below, meth, c, Q, D, ad, T⟩ := x
  obtain ⟨hx, hb, hml, hown, hts, hK, hN, hinj, hlk, hret, hfr, hlc, hQ⟩ := h
  intro H locs ls hP hS hL
  exact va_alen (D := D) hx hb hK hP k 0 (wd_at he) rfl rfl hd (kk H locs ls hP hS hL)
theorem z_alenA (h : zOK x L cc own nL ret fr lc Post) {k n : Nat} {ks : List Nat} (hd : decode cc pc = .ok (.arraylength, 1)) (he : L[k]? = some (3, n, ks)) (kk : zG x L (pc + 1) loc (zi (ks.length : Int) :: st) S) : zG x L pc loc (zr k :: st) S := by
  obtain ⟨p, l, e, R, s, m, args, below, meth, c, Q, D, ad, T⟩ := x
  obtain ⟨hx, hb, hml, hown, hts, hK, hN, hinj, hlk, hret, hfr, hlc, hQ⟩ := h
  intro H locs ls hP hS hL
  exact va_alen (D := D) hx hb hK hP k 2 (wd_at he) rfl rfl hd (kk H locs ls hP hS hL)
theorem z_aald (h : zOK x L cc own nL ret fr lc Post) {k n a : Nat} {ks : List Nat} {i : Int} (hd : decode cc pc = .ok (.aaload, 1)) (he : L[k]? = some (3, n, ks)) (hn : ks.length ≤ 2147483647) (h0 : 0 ≤ i) (hk : ks[i.toNat]? = some a) (kk : zG x L (pc + 1) loc (zr a :: st) S) : zG x L pc loc (zi i :: zr k :: st) S := by
  obtain ⟨p, l, e, R, s, m, args, below, meth, c, Q, D, ad, T⟩ := x
  obtain ⟨hx, hb, hml, hown, hts, hK, hN, hinj, hlk, hret, hfr, hlc, hQ⟩ := h
  intro H locs ls hP hS hL
  have hlt := (List.getElem?_eq_some_iff.mp hk).1
  obtain ⟨hi, ht⟩ := i32_c (n := ks.length) h0 (by omega) hn
  have k2 := kk H locs ls hP hS hL
  refine va_aldq (D := D) hx hb hK hP k 2 (wd_at he) rfl hi hd ?_
  show W p l e R s m args below meth c H locs 0 0 Q (F0 m (pc + 1) ls (va_rf ((ks[(Int32.ofInt i).toNatClampNeg]?).map ad) :: st.map (cv ad)))
  rw [ht, hk]
  exact k2
theorem z_ixor (h : zOK x L cc own nL ret fr lc Post) {a b : Int} (hd : decode cc pc = .ok (.ixor, 1)) (ha : r32 a) (hbb : r32 b) (k : ∀ v : Int, (v < 0 ↔ ¬ (a < 0 ↔ b < 0)) → r32 v → zG x L (pc + 1) loc (zi v :: st) S) : zG x L pc loc (zi b :: zi a :: st) S := by
  obtain ⟨p, l, e, R, s, m, args, below, meth, c, Q, D, ad, T⟩ := x
  obtain ⟨hx, hb, hml, hown, hts, hK, hN, hinj, hlk, hret, hfr, hlc, hQ⟩ := h
  intro H locs ls hP hS hL
  refine lv_ixor hx hb hd ?_
  have k2 := k (Int32.ofInt a ^^^ Int32.ofInt b).toInt ?_ ⟨by have := Int32.le_toInt (Int32.ofInt a ^^^ Int32.ofInt b); omega, by have := Int32.toInt_lt (Int32.ofInt a ^^^ Int32.ofInt b); omega⟩ H locs ls hP hS hL
  · simp only [List.map_cons, cv, Int32.ofInt_toInt] at k2
    exact k2
  · have hm : ∀ z : Int32, z.toInt < 0 ↔ z.toBitVec.msb = true := fun z => by
      rw [show z.toInt = z.toBitVec.toInt from rfl, BitVec.toInt_neg_iff, BitVec.msb_eq_decide, decide_eq_true_iff]
      omega
    rw [hm, show (Int32.ofInt a ^^^ Int32.ofInt b).toBitVec = (Int32.ofInt a).toBitVec ^^^ (Int32.ofInt b).toBitVec from rfl, BitVec.msb_xor]
    have h1 := hm (Int32.ofInt a)
    have h2 := hm (Int32.ofInt b)
    rw [i32_t ha] at h1
    rw [i32_t hbb] at h2
    rw [h1, h2]
    cases (Int32.ofInt a).toBitVec.msb <;> cases (Int32.ofInt b).toBitVec.msb <;> simp
theorem z_iushr (h : zOK x L cc own nL ret fr lc Post) {a b : Int} {n : Nat} (hd : decode cc pc = .ok (.iushr, 1)) (ha : 0 ≤ a ∧ a ≤ 2147483647) (hs : (((Int32.ofInt b).toUInt32 &&& Int32.toUInt32 31).toBitVec % 32).toNat = n) (k : zG x L (pc + 1) loc (zi ((a.toNat / 2 ^ n : Nat) : Int) :: st) S) : zG x L pc loc (zi b :: zi a :: st) S := by
  obtain ⟨p, l, e, R, s, m, args, below, meth, c, Q, D, ad, T⟩ := x
  obtain ⟨hx, hb, hml, hown, hts, hK, hN, hinj, hlk, hret, hfr, hlc, hQ⟩ := h
  intro H locs ls hP hS hL
  refine lv_iushr hx hb hd (v := Int32.ofInt ((a.toNat / 2 ^ n : Nat) : Int)) ?_ (k H locs ls hP hS hL)
  rw [i32_nat ha.1, i32_nat (Int.natCast_nonneg _), Int.toNat_natCast]
  exact pk_ushrN (by omega) _ n hs
end
theorem z_back {L : List LY} {pc : Nat} {loc : List (Option zV)} {st : List zV} {p : Program} {l : Launch} {e : Env} {R : Room} {s : State} {m : MethodId} {args : Array Value} {below : List Frame} {meth : Method} {c : Code} {Q : State → Prop} {D : va_G} {ad : Nat → Nat} {T : zT} {H : Heap} {locs : List Loc} {ls : Array Slot} {st0 : List Value} {a : Array Value} {Post' : Option zV → SS → Prop}
    (hS : va_S (zA ad L) s.heap H locs) (hL : zL ad ls loc)
    (hr : va_Run p l e R s m args below meth c H locs 0 0 0 0 (F0 m pc ls st0) (st.map (cv ad)) (zQ L ad T D Post' a) (zA ad L))
    (kk : ∀ r S', Post' r S' → zG (p, l, e, R, s, m, args, below, meth, c, Q, D, ad, T) L (pc + 3) loc (r.toList ++ st) S') : W p l e R s m args below meth c H locs 0 0 Q (F0 m pc ls st0) := by
  intro U hU X
  obtain ⟨v, st₀, t, U', L', h0, X', hL', e1, e2, ⟨⟨r, S', hv, hp, hP1⟩, hz, hk⟩, stp⟩ := hr U hU X
  cases hv
  rw [h0] at hz hk
  have hS1 : va_S (zA ad L) s.heap U'.heap (locs ++ L') := ⟨Nat.le_trans hS.1 (by rw [e1]; exact hz), fun q h1 h2 => by rw [e1, hk q (Nat.lt_of_lt_of_le h1 hS.1) h2]; exact hS.2.1 q h1 h2, fun q hq => by
    rcases List.mem_append.mp hq with h | h
    · exact hS.2.2 q h
    · exact hL' q h⟩
  obtain ⟨t2, a1, b1⟩ := kk r S' hp U'.heap (locs ++ L') ls (by rw [e1]; exact hP1) hS1 hL U' rfl X'
  refine ⟨t2, stp t2 ?_, b1⟩
  have hmap : (r.map (cv ad)).toList ++ st.map (cv ad) = (r.toList ++ st).map (cv ad) := by cases r <;> simp
  rw [hmap]
  exact a1
section
variable {x : zX} {L : List LY} {cc : ByteArray} {own : String} {nL : Nat} {ret : Option FieldType} {fr lc : Nat} {Post : Option zV → SS → Prop} {pc : Nat} {loc loc' : List (Option zV)} {st : List zV} {S : SS}
theorem z_callS (h : zOK x L cc own nL ret fr lc Post) {y : MethodName} {bytes : ByteArray} {maxL : Nat} {rt : Option FieldType} {fr' lc' : Nat} {av : List zV} {Post' : Option zV → SS → Prop} {index n : Nat} (hM : zM L y bytes maxL rt fr' lc' av S Post') (hd : decode cc pc = .ok (.invokestatic index, 3)) (hc : zMc y bytes maxL rt n) (hst : Cond.static y ∈ TB) (hl : zMl own index y) (hll : loc.length = nL) (hn : av.length = n) (hR : fr' + 1 ≤ fr ∧ 8 + (maxL + 11) + lc' ≤ lc) {rest : List zV} (hs : av.reverse ++ rest = st) (hcat : zcat rest ≤ 8) (kk : ∀ r S', Post' r S' → zG x L (pc + 3) loc (r.toList ++ rest) S') : zG x L pc loc (st) S := by
  obtain ⟨p, l, e, R, s, m, args, below, meth, c, Q, D, ad, T⟩ := x
  obtain ⟨hx, hb, hml, hown, hts, hK, hN, hinj, hlk, hret, hfr, hlc, hQ⟩ := h
  intro H locs ls hP hS hL
  obtain ⟨hc1, hc2, hc3⟩ := hc
  have hsz : (F0 m pc ls (st.map (cv ad))).locals.size = nL := hL.1.trans hll
  have hstk : (F0 m pc ls (st.map (cv ad))).stack = (av.map (cv ad)).reverse ++ rest.map (cv ad) := by
    subst hs
    simp
  have hp : PreS s H (va_Pc (av.map (cv ad)) (fun U => va_P D vwCl (wd ad T L S) U.heap ∧ va_K D vwCl (zTy T) U ∧ zN U)) (av.map (cv ad)) := ⟨fun a U g mk q => by obtain ⟨q0, qP, qK, qN⟩ := q; exact ⟨q0, qP, va_K.moved (u := U) (U := U.calling g mk a) (Vm.Alike.refl U.vm) qK, zN_same (u := U) (U := U.calling g mk a) rfl qN⟩, fun U hU hW => ⟨rfl, by rw [hU]; exact hP, va_K.moved hW.alike hK, zN_warm hW hN⟩⟩
  have hroom : 2 * (F0 m pc ls (st.map (cv ad))).monitorRoom + ((rest.map (cv ad)).map fun v => v.category).sum ≤ 8 := lv_room (by rw [zcat_eq]; exact hcat)
  have hRR : ({ frames := fr', cells := 0, slots := 0, locals := lc' } : Room).frames + 1 ≤ R.frames ∧ 8 + (maxL + 11) + ({ frames := fr', cells := 0, slots := 0, locals := lc' } : Room).locals ≤ R.locals := by rw [hfr, hlc]; exact hR
  refine z_back (st := rest) (st0 := st.map (cv ad)) (a := (av.map (cv ad)).toArray) hS hL ?_ kk
  rcases hl with hl | ⟨host, hl⟩
  · exact va_runS (own := own) ⟨hx, hb, hml, hown, hts⟩ (hM l D ad T hinj) ⟨callB_of n hts (zgood y hc1) rfl rfl rfl (hts _ hc2) (hts _ hl) hc3 hRR, hts _ hst⟩ hp rfl (by simpa using hn) hsz hstk hroom hd ⟨Nat.zero_le _, Nat.zero_le _⟩
  · exact va_runSN (own := own) (host := host) ⟨hx, hb, hml, hown, hts⟩ (hM l D ad T hinj) ⟨va_cnB n hts (zgood y hc1) rfl rfl rfl (hN _ hl) (hts _ hc2) hc3 hRR, hts _ hst, trivial⟩ hp rfl (by simpa using hn) hsz hstk hroom hd ⟨Nat.zero_le _, Nat.zero_le _⟩
theorem z_callV (h : zOK x L cc own nL ret fr lc Post) {y : MethodName} {bytes : ByteArray} {maxL : Nat} {rt : Option FieldType} {fr' lc' : Nat} {av : List zV} {Post' : Option zV → SS → Prop} {index n : Nat} {k ci : Nat} {ks : List Nat} {C : String} {TT : u_T} {N : Nat} {ty : Nat → FieldType} (hM : zM L y bytes maxL rt fr' lc' (zr k :: av) S Post') (hd : decode cc pc = .ok (.invokevirtual index, 3)) (hc : zMc y bytes maxL rt n) (hst : Cond.instanceMethod y ∈ TB ∧ Cond.selects y.cls y y ∈ TB) (hl : zMl own index y) (hll : loc.length = nL) (hn : av.length = n) (hR : fr' + 1 ≤ fr ∧ 8 + (maxL + 11) + lc' ≤ lc) (hC : zCl ci C TT N ty) (he : L[k]? = some (0, ci, ks)) (hCy : y.cls = C) {rest : List zV} (hs : av.reverse ++ zr k :: rest = st) (hcat : zcat rest ≤ 8) (kk : ∀ r S', Post' r S' → zG x L (pc + 3) loc (r.toList ++ rest) S') : zG x L pc loc (st) S := by
  obtain ⟨p, l, e, R, s, m, args, below, meth, c, Q, D, ad, T⟩ := x
  obtain ⟨hx, hb, hml, hown, hts, hK, hN, hinj, hlk, hret, hfr, hlc, hQ⟩ := h
  intro H locs ls hP hS hL
  obtain ⟨hc1, hc2, hc3⟩ := hc
  have hsz : (F0 m pc ls (st.map (cv ad))).locals.size = nL := hL.1.trans hll
  have hstk : (F0 m pc ls (st.map (cv ad))).stack = (av.map (cv ad)).reverse ++ .ref (ad k) :: rest.map (cv ad) := by
    subst hs
    simp [cv]
  have hp : PreV s H y.cls (ad k) (va_Pc ((zr k :: av).map (cv ad)) (fun U => va_P D vwCl (wd ad T L S) U.heap ∧ va_K D vwCl (zTy T) U ∧ zN U)) (av.map (cv ad)) := ⟨fun a U g mk q => by obtain ⟨q0, qP, qK, qN⟩ := q; exact ⟨q0, qP, va_K.moved (u := U) (U := U.calling g mk a) (Vm.Alike.refl U.vm) qK, zN_same (u := U) (U := U.calling g mk a) rfl qN⟩, by rw [hCy]; exact va_recv hK hP hC.1 (wd_at he), fun U hU hW => ⟨rfl, by rw [hU]; exact hP, va_K.moved hW.alike hK, zN_warm hW hN⟩⟩
  have hroom : 2 * (F0 m pc ls (st.map (cv ad))).monitorRoom + ((rest.map (cv ad)).map fun v => v.category).sum ≤ 8 := lv_room (by rw [zcat_eq]; exact hcat)
  have hRR : ({ frames := fr', cells := 0, slots := 0, locals := lc' } : Room).frames + 1 ≤ R.frames ∧ 8 + (maxL + 11) + ({ frames := fr', cells := 0, slots := 0, locals := lc' } : Room).locals ≤ R.locals := by rw [hfr, hlc]; exact hR
  refine z_back (st := rest) (st0 := st.map (cv ad)) (a := (Value.ref (ad k) :: av.map (cv ad)).toArray) hS hL ?_ kk
  rcases hl with hl | ⟨host, hl⟩
  · exact va_runV (own := own) ⟨hx, hb, hml, hown, hts⟩ (hM l D ad T hinj) ⟨callB_of n hts (zgood y hc1) rfl rfl rfl (hts _ hc2) (hts _ hl) hc3 hRR, hts _ hst.1, hts _ hst.2⟩ hp rfl (by simpa using hn) hsz hstk hroom hd ⟨Nat.zero_le _, Nat.zero_le _⟩
  · exact va_runVN (own := own) (host := host) ⟨hx, hb, hml, hown, hts⟩ (hM l D ad T hinj) ⟨va_cnB n hts (zgood y hc1) rfl rfl rfl (hN _ hl) (hts _ hc2) hc3 hRR, hts _ hst.1, hts _ hst.2⟩ hp rfl (by simpa using hn) hsz hstk hroom hd ⟨Nat.zero_le _, Nat.zero_le _⟩
theorem z_iret (h : zOK x L cc own nL ret fr lc Post) {a : Int} (hd : decode cc pc = .ok (.ireturn, 1)) (hr : ret = some .int) (hp : Post (some (zi a)) S) : zG x L pc loc ([zi a]) S := by
  obtain ⟨p, l, e, R, s, m, args, below, meth, c, Q, D, ad, T⟩ := x
  obtain ⟨hx, hb, hml, hown, hts, hK, hN, hinj, hlk, hret, hfr, hlc, hQ⟩ := h
  intro H locs ls hP hS hL
  subst hQ
  exact W.iret (v := Int32.ofInt a) hx hb (by rw [hret, hr]) (fun t ht hW => ⟨⟨some (zi a), S, rfl, hp, by rw [ht]; exact hP⟩, hS.F ht⟩) hS.2.2 hd (hlocks := hlk)
theorem z_zret (h : zOK x L cc own nL ret fr lc Post) {a : Int} (hd : decode cc pc = .ok (.ireturn, 1)) (hr : ret = some .boolean) (ha : a = 0 ∨ a = 1) (hp : Post (some (zi a)) S) : zG x L pc loc ([zi a]) S := by
  obtain ⟨p, l, e, R, s, m, args, below, meth, c, Q, D, ad, T⟩ := x
  obtain ⟨hx, hb, hml, hown, hts, hK, hN, hinj, hlk, hret, hfr, hlc, hQ⟩ := h
  intro H locs ls hP hS hL
  subst hQ
  exact W.zret (v := Int32.ofInt a) hx hb (by rw [hret, hr]) (by rcases ha with rfl | rfl <;> rfl) (fun t ht hW => ⟨⟨some (zi a), S, rfl, hp, by rw [ht]; exact hP⟩, hS.F ht⟩) hS.2.2 hd (hlocks := hlk)
theorem z_lret (h : zOK x L cc own nL ret fr lc Post) {a : Int} (hd : decode cc pc = .ok (.lreturn, 1)) (hr : ret = some .long) (hp : Post (some (zl a)) S) : zG x L pc loc ([zl a]) S := by
  obtain ⟨p, l, e, R, s, m, args, below, meth, c, Q, D, ad, T⟩ := x
  obtain ⟨hx, hb, hml, hown, hts, hK, hN, hinj, hlk, hret, hfr, hlc, hQ⟩ := h
  intro H locs ls hP hS hL
  subst hQ
  exact W.lret (v := Int64.ofInt a) hx hb (by rw [hret, hr]) (fun t ht hW => ⟨⟨some (zl a), S, rfl, hp, by rw [ht]; exact hP⟩, hS.F ht⟩) hS.2.2 hd (hlocks := hlk)
theorem z_vret (h : zOK x L cc own nL ret fr lc Post) (hd : decode cc pc = .ok (.return_, 1)) (hr : ret = none) (hp : Post none S) : zG x L pc loc (([] : List zV)) S := by
  obtain ⟨p, l, e, R, s, m, args, below, meth, c, Q, D, ad, T⟩ := x
  obtain ⟨hx, hb, hml, hown, hts, hK, hN, hinj, hlk, hret, hfr, hlc, hQ⟩ := h
  intro H locs ls hP hS hL
  subst hQ
  exact W.vret hx hb (by rw [hret, hr]) (fun t ht hW => ⟨⟨none, S, rfl, hp, by rw [ht]; exact hP⟩, hS.F ht⟩) hS.2.2 hd (hlocks := hlk)
theorem z_aret (h : zOK x L cc own nL ret fr lc Post) {v : zV} {C2 : String} (hd : decode cc pc = .ok (.areturn, 1)) (hr : ret = some (.object C2)) (hv : v = zn ∨ ∃ a, v = zr a) (hp : Post (some v) S) : zG x L pc loc ([v]) S := by
  obtain ⟨p, l, e, R, s, m, args, below, meth, c, Q, D, ad, T⟩ := x
  obtain ⟨hx, hb, hml, hown, hts, hK, hN, hinj, hlk, hret, hfr, hlc, hQ⟩ := h
  intro H locs ls hP hS hL
  subst hQ
  exact W.aret (v := cv ad v) hx hb (by rw [hret, hr]) (Or.inl ⟨_, rfl⟩) (by rcases hv with rfl | ⟨a, rfl⟩; exact Or.inl rfl; exact Or.inr ⟨_, rfl⟩) (fun t ht hW => ⟨⟨some v, S, rfl, hp, by rw [ht]; exact hP⟩, hS.F ht⟩) hS.2.2 hd (hlocks := hlk)
end
theorem z_nm {x : zX} {L : List LY} {pc : Nat} {loc : List (Option zV)} {st : List zV} {S : SS} {b : Int} (k : ∀ y : Int, y = b → zG x L pc loc (zi y :: st) S) : zG x L pc loc (zi b :: st) S := k b rfl
theorem z_cv {x : zX} {L : List LY} {pc : Nat} {loc : List (Option zV)} {st : List zV} {S : SS} {a b : Int} (e : a = b) (k : zG x L pc loc (zi b :: st) S) : zG x L pc loc (zi a :: st) S := by subst e; exact k
theorem z_nmS {x : zX} {L : List LY} {pc : Nat} {loc : List (Option zV)} {st : List zV} {S : SS} (k : ∀ S1 : SS, S1 = S → zG x L pc loc st S1) : zG x L pc loc st S := k S rfl
def zkeep : List Bool → List (Option zV) → List (Option zV)
  | true :: r, v :: l => v :: zkeep r l
  | false :: r, _ :: l => none :: zkeep r l
  | _, l => l
theorem zkeep_len : ∀ (ks : List Bool) (l : List (Option zV)), (zkeep ks l).length = l.length
  | [], l => by simp [zkeep]
  | true :: r, [] => rfl
  | false :: r, [] => rfl
  | true :: r, v :: l => by simp [zkeep, zkeep_len r l]
  | false :: r, _ :: l => by simp [zkeep, zkeep_len r l]
theorem zkeep_at : ∀ (ks : List Bool) (l : List (Option zV)) (i : Nat) (v : zV), (zkeep ks l)[i]? = some (some v) → l[i]? = some (some v)
  | [], l, i, v, h => by simpa [zkeep] using h
  | true :: r, [], i, v, h => h
  | false :: r, [], i, v, h => h
  | true :: r, a :: l, 0, v, h => h
  | true :: r, a :: l, i + 1, v, h => zkeep_at r l i v h
  | false :: r, a :: l, 0, v, h => by simp [zkeep] at h
  | false :: r, a :: l, i + 1, v, h => by simpa using zkeep_at r l i v (by simpa [zkeep] using h)
theorem z_forget {x : zX} {L : List LY} {pc : Nat} {loc loc' : List (Option zV)} {st : List zV} {S : SS} (ks : List Bool) (hl : zkeep ks loc = loc') (k : zG x L pc loc' st S) : zG x L pc loc st S := by
  obtain ⟨p, l, e, R, s, m, args, below, meth, c, Q, D, ad, T⟩ := x
  intro H locs ls hP hS hL
  refine k H locs ls hP hS ?_
  subst hl
  refine ⟨by rw [zkeep_len]; exact hL.1, hL.2.1, fun q hq => ?_⟩
  obtain ⟨i, v, hi, rfl⟩ := prs_mem.mp hq
  rw [Nat.zero_add]
  exact zL_at hL (zkeep_at ks loc i v hi)
end
section
/-! the cells of the class, and of the reference -/
def LX : List LY := [(0, 7, [3, 7, 11, 14, 17, 26, 34, 39, 43, 0, 0, 0]),
  (0, 5, [4, 5, 6, 0, 0, 0]), (1, 80, []), (1, 48, []), (1, 12, []),
  (0, 5, [8, 9, 10, 0, 0, 0]), (1, 80, []), (1, 48, []), (1, 12, []),
  (0, 2, [12, 13, 0]), (1, 6, []), (1, 6, []), (0, 2, [15, 16, 0]), (1, 6, []), (1, 6, []),
  (3, 0, [16, 18, 20, 22]), (0, 4, [19, 0, 0, 0]), (1, 60, []), (0, 4, [21, 0, 0, 0]), (1, 60, []), (0, 4, [23, 0, 0, 0]), (1, 60, []), (0, 4, [25, 0, 0, 0]), (1, 60, []),
  (0, 1, [27, 28, 29, 30, 31, 32, 33, 1, 0, 0, 0]), (1, 36, []), (1, 36, []), (1, 64, []), (1, 64, []), (1, 64, []), (1, 64, []), (1, 6, []),
  (0, 3, [35, 36, 37, 38, 0]), (1, 64, []), (1, 2048, []), (1, 2048, []), (1, 8, []),
  (0, 6, [40, 41, 42, 0, 0, 0, 0]), (1, 40, []), (1, 40, []), (1, 40, []),
  (0, 0, [44, 0, 0, 0]), (1, 60, [])]
def LM : List LY := [(0, 8, [3, 4, 5, 6, 7, 8, 9, 10, 11, 12, 0, 0, 0, 0, 0, 13, 14, 15, 16, 17, 18, 19, 20, 0]),
  (1, 160, []), (1, 2, []), (1, 2, []), (1, 100, []), (1, 2, []), (1, 2, []), (1, 12, []), (1, 12, []), (1, 12, []), (1, 12, []),
  (1, 40, []), (1, 40, []), (1, 40, []), (2, 4, []), (1, 4, []), (1, 4, []), (1, 240, []), (1, 60, [])]
def isStrip (k : Nat) : Prop := LX[k]? = some (0, 5, [k + 1 + 2, k + 2 + 2, k + 3 + 2, 0, 0, 0]) ∧ LX[k + 1]? = some (1, 80, []) ∧ LX[k + 2]? = some (1, 48, []) ∧ LX[k + 3]? = some (1, 12, [])
def isLook (k : Nat) : Prop := LX[k]? = some (0, 2, [k + 1 + 2, k + 2 + 2, 0]) ∧ LX[k + 1]? = some (1, 6, []) ∧ LX[k + 2]? = some (1, 6, [])
def isSheet (k : Nat) : Prop := LX[k]? = some (0, 4, [k + 1 + 2, 0, 0, 0]) ∧ LX[k + 1]? = some (1, 60, [])
theorem isStrip1 : isStrip 1 := ⟨rfl, rfl, rfl, rfl⟩
theorem isStrip5 : isStrip 5 := ⟨rfl, rfl, rfl, rfl⟩
theorem isLook9 : isLook 9 := ⟨rfl, rfl, rfl⟩
theorem isLook12 : isLook 12 := ⟨rfl, rfl, rfl⟩
theorem isSheet16 : isSheet 16 := ⟨rfl, rfl⟩
theorem isSheet18 : isSheet 18 := ⟨rfl, rfl⟩
theorem isSheet20 : isSheet 20 := ⟨rfl, rfl⟩
theorem isSheet22 : isSheet 22 := ⟨rfl, rfl⟩
end
section
/-! small functions -/
def absI (a : Int) : Int := if a < 0 then -a else a
theorem absI_0 (a : Int) : 0 ≤ absI a := by unfold absI; split <;> omega
theorem absI_n {a : Int} (h : a < 0) : absI a = -a := if_pos h
theorem absI_p {a : Int} (h : 0 ≤ a) : absI a = a := if_neg (by omega)
def nearF (a b : Int) : Int := (2 * a + b - 1) / (2 * b)

set_option maxRecDepth 100000 in
set_option maxHeartbeats 4000000 in
theorem m_J9_abs_0f7a4 (a : Int) (S : SS) (ha : r32 a) : zM LX yJ9_abs_0f7a4 cJ9_abs_0f7a4 1 (some .int) 0 0 [zi a] S (fun r S' => S = S' ∧ r = some (zi (absI a))) := by
  refine zM_ofF (own := RJ9) rfl (by decide +kernel) [some (zi a)] (Nat.le_of_ble_eq_true rfl) rfl ?_
  intro x h
  refine z_iload_n (pc := 0) h dJ9_abs_0f7a4_0 rfl ?_
  refine z_if_ge (pc := 1) (tgt := 9) h dJ9_abs_0f7a4_1 (by decide) ⟨by omega, by omega⟩ (fun hc1 => ?_) (fun hc1 => ?_)
  ·
    refine z_iload_n (pc := 9) h dJ9_abs_0f7a4_9 rfl ?_
    exact z_iret (pc := 10) h dJ9_abs_0f7a4_10 rfl ⟨rfl, congrArg (fun z => some (zi z)) (by first | exact (absI_n (by omega)).symm | exact (absI_p (by omega)).symm)⟩
  ·
    refine z_iload_n (pc := 4) h dJ9_abs_0f7a4_4 rfl ?_
    refine z_ineg (pc := 5) h dJ9_abs_0f7a4_5 ?_
    refine z_goto (pc := 6) (tgt := 10) h dJ9_abs_0f7a4_6 (by decide) ?_
    exact z_iret (pc := 10) h dJ9_abs_0f7a4_10 rfl ⟨rfl, congrArg (fun z => some (zi z)) (by first | exact (absI_n (by omega)).symm | exact (absI_p (by omega)).symm)⟩

set_option maxRecDepth 100000 in
set_option maxHeartbeats 4000000 in
theorem m_J9_max_7cf53 (a b : Int) (S : SS) (ha : r32 a) (hb : r32 b) : zM LX yJ9_max_7cf53 cJ9_max_7cf53 2 (some .int) 0 0 [zi a, zi b] S (fun r S' => S = S' ∧ r = some (zi (max a b))) := by
  refine zM_ofF (own := RJ9) rfl (by decide +kernel) [some (zi a), some (zi b)] (Nat.le_of_ble_eq_true rfl) rfl ?_
  intro x h
  refine z_iload_n (pc := 0) h dJ9_max_7cf53_0 rfl ?_
  refine z_iload_n (pc := 1) h dJ9_max_7cf53_1 rfl ?_
  refine z_icmp_lt (pc := 2) (tgt := 9) h dJ9_max_7cf53_2 (by decide) ⟨by omega, by omega⟩ ⟨by omega, by omega⟩ (fun hc2 => ?_) (fun hc2 => ?_)
  ·
    refine z_iload_n (pc := 9) h dJ9_max_7cf53_9 rfl ?_
    exact z_iret (pc := 10) h dJ9_max_7cf53_10 rfl ⟨rfl, congrArg (fun z => some (zi z)) (by omega)⟩
  ·
    refine z_iload_n (pc := 5) h dJ9_max_7cf53_5 rfl ?_
    refine z_goto (pc := 6) (tgt := 10) h dJ9_max_7cf53_6 (by decide) ?_
    exact z_iret (pc := 10) h dJ9_max_7cf53_10 rfl ⟨rfl, congrArg (fun z => some (zi z)) (by omega)⟩

set_option maxRecDepth 100000 in
set_option maxHeartbeats 4000000 in
theorem m_J9_min_7cf53 (a b : Int) (S : SS) (ha : r32 a) (hb : r32 b) : zM LX yJ9_min_7cf53 cJ9_min_7cf53 2 (some .int) 0 0 [zi a, zi b] S (fun r S' => S = S' ∧ r = some (zi (min a b))) := by
  refine zM_ofF (own := RJ9) rfl (by decide +kernel) [some (zi a), some (zi b)] (Nat.le_of_ble_eq_true rfl) rfl ?_
  intro x h
  refine z_iload_n (pc := 0) h dJ9_min_7cf53_0 rfl ?_
  refine z_iload_n (pc := 1) h dJ9_min_7cf53_1 rfl ?_
  refine z_icmp_gt (pc := 2) (tgt := 9) h dJ9_min_7cf53_2 (by decide) ⟨by omega, by omega⟩ ⟨by omega, by omega⟩ (fun hc2 => ?_) (fun hc2 => ?_)
  ·
    refine z_iload_n (pc := 9) h dJ9_min_7cf53_9 rfl ?_
    exact z_iret (pc := 10) h dJ9_min_7cf53_10 rfl ⟨rfl, congrArg (fun z => some (zi z)) (by omega)⟩
  ·
    refine z_iload_n (pc := 5) h dJ9_min_7cf53_5 rfl ?_
    refine z_goto (pc := 6) (tgt := 10) h dJ9_min_7cf53_6 (by decide) ?_
    exact z_iret (pc := 10) h dJ9_min_7cf53_10 rfl ⟨rfl, congrArg (fun z => some (zi z)) (by omega)⟩

theorem tmod_p {a b : Int} (hb : 0 < b) : (0 ≤ a → a.tmod b = a % b) ∧ (a < 0 → a.tmod b = 0 → a % b = 0) ∧ (a < 0 → a.tmod b ≠ 0 → a.tmod b + b = a % b) ∧ (a < 0 → a.tmod b ≤ 0) ∧ a.tdiv b * b = a - a.tmod b := by
  have h := @Int.tmod_eq_emod a b
  have h1 := Int.emod_nonneg a (by omega : b ≠ 0)
  have h2 := Int.emod_lt_of_pos a hb
  refine ⟨fun h0 => Int.tmod_eq_emod_of_nonneg h0, fun h0 h3 => ?_, fun h0 h3 => ?_, fun h0 => ?_, ?_⟩
  · split at h
    · omega
    · omega
  · split at h
    · next hc =>
      rcases hc with hc | hc
      · omega
      · have := Int.emod_eq_zero_of_dvd hc
        omega
    · omega
  · split at h
    · next hc =>
      rcases hc with hc | hc
      · omega
      · have := Int.emod_eq_zero_of_dvd hc
        omega
    · omega
  · rw [Int.tmod_def, Int.mul_comm b]
    omega
theorem tdiv_p {a b : Int} (hb : 0 < b) : (0 ≤ a → a.tdiv b = a / b) ∧ (a.tdiv b * b = a → a.tdiv b = a / b) ∧ (a < 0 → a.tdiv b * b ≠ a → a.tdiv b - 1 = a / b) := by
  have h := @Int.tdiv_eq_ediv a b
  refine ⟨fun h0 => Int.tdiv_eq_ediv_of_nonneg h0, fun h3 => ?_, fun h0 h3 => ?_⟩
  · have hd : b ∣ a := ⟨a.tdiv b, by rw [Int.mul_comm]; exact h3.symm⟩
    exact Int.tdiv_eq_ediv_of_dvd hd
  · have hs : b.sign = 1 := Int.sign_eq_one_of_pos hb
    split at h
    · next hc =>
      rcases hc with hc | hc
      · omega
      · exact absurd (Int.tdiv_mul_cancel hc) h3
    · omega

set_option maxRecDepth 100000 in
set_option maxHeartbeats 4000000 in
theorem m_J9_floorMod_7cf53 (a b : Int) (S : SS) (ha : r32 a) (hb : 0 < b ∧ b ≤ 2147483647) : zM LX yJ9_floorMod_7cf53 cJ9_floorMod_7cf53 3 (some .int) 0 0 [zi a, zi b] S (fun r S' => S = S' ∧ r = some (zi (a % b))) := by
  refine zM_ofF (own := RJ9) rfl (by decide +kernel) [some (zi a), some (zi b), none] (Nat.le_of_ble_eq_true rfl) rfl ?_
  intro x h
  have ht := tmod_p (a := a) hb.1
  have hu := tmod_bounds (a := a) hb.1
  refine z_iload_n (pc := 0) h dJ9_floorMod_7cf53_0 rfl ?_
  refine z_iload_n (pc := 1) h dJ9_floorMod_7cf53_1 rfl ?_
  refine z_irem (pc := 2) h dJ9_floorMod_7cf53_2 ⟨by omega, by omega⟩ ⟨by omega, by omega⟩ (by omega) ?_
  refine z_istore_n (pc := 3) (loc' := [some (zi a), some (zi b), some (zi (a.tmod b))]) h dJ9_floorMod_7cf53_3 rfl (Nat.le_of_ble_eq_true rfl) rfl rfl ?_
  refine z_iload_n (pc := 4) h dJ9_floorMod_7cf53_4 rfl ?_
  refine z_iload_n (pc := 5) h dJ9_floorMod_7cf53_5 rfl ?_
  refine z_ixor (pc := 6) h dJ9_floorMod_7cf53_6 ⟨by omega, by omega⟩ ⟨by omega, by omega⟩ (fun v6 hx6 hxr6 => ?_)
  refine z_if_ge (pc := 7) (tgt := 18) h dJ9_floorMod_7cf53_7 (by decide) hxr6 (fun hc7 => ?_) (fun hc7 => ?_)
  ·
    refine z_iload_n (pc := 18) h dJ9_floorMod_7cf53_18 rfl ?_
    exact z_iret (pc := 19) h dJ9_floorMod_7cf53_19 rfl ⟨rfl, congrArg (fun z => some (zi z)) (by omega)⟩
  ·
    refine z_iload_n (pc := 10) h dJ9_floorMod_7cf53_10 rfl ?_
    refine z_if_eq (pc := 11) (tgt := 18) h dJ9_floorMod_7cf53_11 (by decide) ⟨by omega, by omega⟩ (fun hc11 => ?_) (fun hc11 => ?_)
    ·
      refine z_iload_n (pc := 18) h dJ9_floorMod_7cf53_18 rfl ?_
      exact z_iret (pc := 19) h dJ9_floorMod_7cf53_19 rfl ⟨rfl, congrArg (fun z => some (zi z)) (by omega)⟩
    ·
      refine z_iload_n (pc := 14) h dJ9_floorMod_7cf53_14 rfl ?_
      refine z_iload_n (pc := 15) h dJ9_floorMod_7cf53_15 rfl ?_
      refine z_iadd (pc := 16) h dJ9_floorMod_7cf53_16 ?_
      exact z_iret (pc := 17) h dJ9_floorMod_7cf53_17 rfl ⟨rfl, congrArg (fun z => some (zi z)) (by omega)⟩

set_option maxRecDepth 100000 in
set_option maxHeartbeats 4000000 in
theorem m_J9_floorDiv_7cf53 (a b : Int) (S : SS) (ha : r32 a) (hb : 0 < b ∧ b ≤ 2147483647) : zM LX yJ9_floorDiv_7cf53 cJ9_floorDiv_7cf53 3 (some .int) 0 0 [zi a, zi b] S (fun r S' => S = S' ∧ r = some (zi (a / b))) := by
  refine zM_ofF (own := RJ9) rfl (by decide +kernel) [some (zi a), some (zi b), none] (Nat.le_of_ble_eq_true rfl) rfl ?_
  intro x h
  have ht := tdiv_p (a := a) hb.1
  have ht2 := tmod_p (a := a) hb.1
  have hu := tmod_bounds (a := a) hb.1
  refine z_iload_n (pc := 0) h dJ9_floorDiv_7cf53_0 rfl ?_
  refine z_iload_n (pc := 1) h dJ9_floorDiv_7cf53_1 rfl ?_
  refine z_idiv (pc := 2) h dJ9_floorDiv_7cf53_2 ⟨by omega, by omega⟩ ⟨by omega, by omega⟩ (by omega) ?_
  refine z_istore_n (pc := 3) (loc' := [some (zi a), some (zi b), some (zi (a.tdiv b))]) h dJ9_floorDiv_7cf53_3 rfl (Nat.le_of_ble_eq_true rfl) rfl rfl ?_
  refine z_iload_n (pc := 4) h dJ9_floorDiv_7cf53_4 rfl ?_
  refine z_iload_n (pc := 5) h dJ9_floorDiv_7cf53_5 rfl ?_
  refine z_ixor (pc := 6) h dJ9_floorDiv_7cf53_6 ⟨by omega, by omega⟩ ⟨by omega, by omega⟩ (fun v6 hx6 hxr6 => ?_)
  refine z_if_ge (pc := 7) (tgt := 21) h dJ9_floorDiv_7cf53_7 (by decide) hxr6 (fun hc7 => ?_) (fun hc7 => ?_)
  ·
    refine z_iload_n (pc := 21) h dJ9_floorDiv_7cf53_21 rfl ?_
    exact z_iret (pc := 22) h dJ9_floorDiv_7cf53_22 rfl ⟨rfl, congrArg (fun z => some (zi z)) (by omega)⟩
  ·
    refine z_iload_n (pc := 10) h dJ9_floorDiv_7cf53_10 rfl ?_
    refine z_iload_n (pc := 11) h dJ9_floorDiv_7cf53_11 rfl ?_
    refine z_imul (pc := 12) h dJ9_floorDiv_7cf53_12 ?_
    refine z_iload_n (pc := 13) h dJ9_floorDiv_7cf53_13 rfl ?_
    refine z_icmp_eq (pc := 14) (tgt := 21) h dJ9_floorDiv_7cf53_14 (by decide) ⟨by omega, by omega⟩ ⟨by omega, by omega⟩ (fun hc14 => ?_) (fun hc14 => ?_)
    ·
      refine z_iload_n (pc := 21) h dJ9_floorDiv_7cf53_21 rfl ?_
      exact z_iret (pc := 22) h dJ9_floorDiv_7cf53_22 rfl ⟨rfl, congrArg (fun z => some (zi z)) (by omega)⟩
    ·
      refine z_iload_n (pc := 17) h dJ9_floorDiv_7cf53_17 rfl ?_
      refine z_iconst (pc := 18) h dJ9_floorDiv_7cf53_18 ?_
      refine z_isub (pc := 19) h dJ9_floorDiv_7cf53_19 ?_
      exact z_iret (pc := 20) h dJ9_floorDiv_7cf53_20 rfl ⟨rfl, congrArg (fun z => some (zi z)) (by omega)⟩

def popc (n : Nat) : Nat := n % 2 + n / 2 % 2 + n / 4 % 2 + n / 8 % 2 + n / 16 % 2 + n / 32 % 2 + n / 64 % 2 + n / 128 % 2 + n / 256 % 2 + n / 512 % 2 + n / 1024 % 2 + n / 2048 % 2
def bc1 (n : Nat) : Nat := n - (n / 2 ^ 1 &&& 1431655765)
def bc2 (m : Nat) : Nat := (m &&& 858993459) + (m / 2 ^ 2 &&& 858993459)
def bc3 (m : Nat) : Nat := m + m / 2 ^ 4 &&& 252645135
def bc4 (m : Nat) : Nat := m + m / 2 ^ 8
def bc5 (m : Nat) : Nat := m + m / 2 ^ 16
theorem bc_all : (List.range 4096).all (fun n => decide ((n / 2 ^ 1 &&& 1431655765) ≤ n ∧ bc1 n < 100000 ∧ bc2 (bc1 n) < 100000 ∧ bc3 (bc2 (bc1 n)) < 100000 ∧ bc4 (bc3 (bc2 (bc1 n))) < 100000 ∧ (bc5 (bc4 (bc3 (bc2 (bc1 n)))) &&& 63) = popc n ∧ bc5 (bc4 (bc3 (bc2 (bc1 n)))) < 1000000)) = true := by decide +kernel
theorem bc_key {n : Nat} (h : n < 4096) : (n / 2 ^ 1 &&& 1431655765) ≤ n ∧ bc1 n < 100000 ∧ bc2 (bc1 n) < 100000 ∧ bc3 (bc2 (bc1 n)) < 100000 ∧ bc4 (bc3 (bc2 (bc1 n))) < 100000 ∧ (bc5 (bc4 (bc3 (bc2 (bc1 n)))) &&& 63) = popc n ∧ bc5 (bc4 (bc3 (bc2 (bc1 n)))) < 1000000 :=
  of_decide_eq_true (List.all_eq_true.mp bc_all n (List.mem_range.mpr h))

set_option maxRecDepth 100000 in
set_option maxHeartbeats 4000000 in
theorem m_J6_bitCount_0f7a4 (a : Int) (S : SS) (ha : 0 ≤ a ∧ a < 4096) : zM LX yJ6_bitCount_0f7a4 cJ6_bitCount_0f7a4 1 (some .int) 0 0 [zi a] S (fun r S' => S = S' ∧ r = some (zi ((popc a.toNat : Nat)))) := by
  refine zM_of (own := RJ6) rfl (by decide +kernel) [some (zi a)] (Nat.le_of_ble_eq_true rfl) rfl ?_
  intro x h
  obtain ⟨n, rfl⟩ : ∃ n : Nat, a = (n : Int) := ⟨a.toNat, by omega⟩
  obtain ⟨k1, k2, k3, k4, k5, k6, k7⟩ := bc_key (n := n) (by omega)
  refine z_iload_n (pc := 0) h dJ6_bitCount_0f7a4_0 rfl ?_
  refine z_iload_n (pc := 1) h dJ6_bitCount_0f7a4_1 rfl ?_
  refine z_iconst (pc := 2) h dJ6_bitCount_0f7a4_2 ?_
  refine z_iushr (pc := 3) (n := 1) h dJ6_bitCount_0f7a4_3 ⟨by omega, by omega⟩ (by decide) ?_
  refine z_ldcw (pc := 4) (a := 1431655765) h kcJ6_265 dJ6_bitCount_0f7a4_4 (by decide) ?_
  refine z_iand (pc := 7) h dJ6_bitCount_0f7a4_7 ⟨by omega, by omega⟩ ⟨by decide, by decide⟩ ?_
  refine z_isub (pc := 8) h dJ6_bitCount_0f7a4_8 ?_
  refine z_cv (b := ((bc1 n : Nat) : Int)) (by show (n : Int) - ((n / 2 ^ 1 &&& 1431655765 : Nat) : Int) = ((n - (n / 2 ^ 1 &&& 1431655765) : Nat) : Int); omega) ?_
  refine z_istore_n (pc := 9) (loc' := [some (zi ((bc1 n : Nat) : Int))]) h dJ6_bitCount_0f7a4_9 rfl (Nat.le_of_ble_eq_true rfl) rfl rfl ?_
  refine z_iload_n (pc := 10) h dJ6_bitCount_0f7a4_10 rfl ?_
  refine z_ldcw (pc := 11) (a := 858993459) h kcJ6_266 dJ6_bitCount_0f7a4_11 (by decide) ?_
  refine z_iand (pc := 14) h dJ6_bitCount_0f7a4_14 ⟨by omega, by omega⟩ ⟨by decide, by decide⟩ ?_
  refine z_iload_n (pc := 15) h dJ6_bitCount_0f7a4_15 rfl ?_
  refine z_iconst (pc := 16) h dJ6_bitCount_0f7a4_16 ?_
  refine z_iushr (pc := 17) (n := 2) h dJ6_bitCount_0f7a4_17 ⟨by omega, by omega⟩ (by decide) ?_
  refine z_ldcw (pc := 18) (a := 858993459) h kcJ6_266 dJ6_bitCount_0f7a4_18 (by decide) ?_
  refine z_iand (pc := 21) h dJ6_bitCount_0f7a4_21 ⟨by omega, by omega⟩ ⟨by decide, by decide⟩ ?_
  refine z_iadd (pc := 22) h dJ6_bitCount_0f7a4_22 ?_
  refine z_cv (b := ((bc2 (bc1 n) : Nat) : Int)) (by exact (Int.natCast_add _ _).symm) ?_
  refine z_istore_n (pc := 23) (loc' := [some (zi ((bc2 (bc1 n) : Nat) : Int))]) h dJ6_bitCount_0f7a4_23 rfl (Nat.le_of_ble_eq_true rfl) rfl rfl ?_
  refine z_iload_n (pc := 24) h dJ6_bitCount_0f7a4_24 rfl ?_
  refine z_iload_n (pc := 25) h dJ6_bitCount_0f7a4_25 rfl ?_
  refine z_iconst (pc := 26) h dJ6_bitCount_0f7a4_26 ?_
  refine z_iushr (pc := 27) (n := 4) h dJ6_bitCount_0f7a4_27 ⟨by omega, by omega⟩ (by decide) ?_
  refine z_iadd (pc := 28) h dJ6_bitCount_0f7a4_28 ?_
  refine z_cv (b := (((bc2 (bc1 n)) + (bc2 (bc1 n)) / 2 ^ 4 : Nat) : Int)) (by exact (Int.natCast_add _ _).symm) ?_
  refine z_ldcw (pc := 29) (a := 252645135) h kcJ6_267 dJ6_bitCount_0f7a4_29 (by decide) ?_
  refine z_iand (pc := 32) h dJ6_bitCount_0f7a4_32 ⟨Int.natCast_nonneg _, by have := k3; omega⟩ ⟨by decide, by decide⟩ ?_
  refine z_cv (b := ((bc3 (bc2 (bc1 n)) : Nat) : Int)) (by exact congrArg (fun z : Nat => (z : Int)) rfl) ?_
  refine z_istore_n (pc := 33) (loc' := [some (zi ((bc3 (bc2 (bc1 n)) : Nat) : Int))]) h dJ6_bitCount_0f7a4_33 rfl (Nat.le_of_ble_eq_true rfl) rfl rfl ?_
  refine z_iload_n (pc := 34) h dJ6_bitCount_0f7a4_34 rfl ?_
  refine z_iload_n (pc := 35) h dJ6_bitCount_0f7a4_35 rfl ?_
  refine z_bipush (pc := 36) h dJ6_bitCount_0f7a4_36 rfl ?_
  refine z_iushr (pc := 38) (n := 8) h dJ6_bitCount_0f7a4_38 ⟨by omega, by omega⟩ (by decide) ?_
  refine z_iadd (pc := 39) h dJ6_bitCount_0f7a4_39 ?_
  refine z_cv (b := ((bc4 (bc3 (bc2 (bc1 n))) : Nat) : Int)) (by exact (Int.natCast_add _ _).symm) ?_
  refine z_istore_n (pc := 40) (loc' := [some (zi ((bc4 (bc3 (bc2 (bc1 n))) : Nat) : Int))]) h dJ6_bitCount_0f7a4_40 rfl (Nat.le_of_ble_eq_true rfl) rfl rfl ?_
  refine z_iload_n (pc := 41) h dJ6_bitCount_0f7a4_41 rfl ?_
  refine z_iload_n (pc := 42) h dJ6_bitCount_0f7a4_42 rfl ?_
  refine z_bipush (pc := 43) h dJ6_bitCount_0f7a4_43 rfl ?_
  refine z_iushr (pc := 45) (n := 16) h dJ6_bitCount_0f7a4_45 ⟨by omega, by omega⟩ (by decide) ?_
  refine z_iadd (pc := 46) h dJ6_bitCount_0f7a4_46 ?_
  refine z_cv (b := ((bc5 (bc4 (bc3 (bc2 (bc1 n)))) : Nat) : Int)) (by exact (Int.natCast_add _ _).symm) ?_
  refine z_istore_n (pc := 47) (loc' := [some (zi ((bc5 (bc4 (bc3 (bc2 (bc1 n)))) : Nat) : Int))]) h dJ6_bitCount_0f7a4_47 rfl (Nat.le_of_ble_eq_true rfl) rfl rfl ?_
  refine z_iload_n (pc := 48) h dJ6_bitCount_0f7a4_48 rfl ?_
  refine z_bipush (pc := 49) h dJ6_bitCount_0f7a4_49 rfl ?_
  refine z_iand (pc := 51) h dJ6_bitCount_0f7a4_51 ⟨by omega, by omega⟩ ⟨by decide, by decide⟩ ?_
  exact z_iret (pc := 52) h dJ6_bitCount_0f7a4_52 rfl ⟨rfl, congrArg (fun z => some (zi z)) (by exact congrArg (fun z : Nat => (z : Int)) k6)⟩

set_option maxRecDepth 100000 in
set_option maxHeartbeats 4000000 in
theorem m_J7_fill_53178 (k : Nat) (v : Int) (S : SS) (hk : LX[k]? = some (1, 60, [])) : zM LX yJ7_fill_53178 cJ7_fill_53178 4 none 0 0 [zr k, zi v] S (fun r S' => r = none ∧ (∀ j, j < 60 → S' k j = v) ∧ ∀ a b, ¬ (a = k ∧ b < 60) → S' a b = S a b) := by
  refine zM_of (own := RJ7) rfl (by decide +kernel) [some (zr k), some (zi v), none, none] (Nat.le_of_ble_eq_true rfl) rfl ?_
  intro x h
  refine z_iconst (pc := 0) h dJ7_fill_53178_0 ?_
  refine z_istore_n (pc := 1) (loc' := [some (zr k), some (zi v), some (zi 0), none]) h dJ7_fill_53178_1 rfl (Nat.le_of_ble_eq_true rfl) rfl rfl ?_
  refine z_aload_n (pc := 2) h dJ7_fill_53178_2 rfl ?_
  refine z_alen (pc := 3) h dJ7_fill_53178_3 hk ?_
  refine z_istore_n (pc := 4) (loc' := [some (zr k), some (zi v), some (zi 0), some (zi 60)]) h dJ7_fill_53178_4 rfl (Nat.le_of_ble_eq_true rfl) rfl rfl ?_
  have J5 : ∀ (N : Nat) (i : Int) (S1 : SS) (h0 : 0 ≤ i) (h1 : i ≤ 60) (hS : ∀ j : Nat, (j : Int) < i → S1 k j = v) (hO : ∀ a b, ¬ (a = k ∧ b < 60) → S1 a b = S a b) , (60 - i).toNat = N → zG x LX 5 [some (zr k), some (zi v), some (zi i), some (zi 60)] ([] : List zV) S1 := by
    intro N
    induction N using Nat.strongRecOn with
    | _ N ih5 => ?_
    intro i S1 h0 h1 hS hO hN5
    refine z_iload_n (pc := 5) h dJ7_fill_53178_5 rfl ?_
    refine z_iload_n (pc := 6) h dJ7_fill_53178_6 rfl ?_
    refine z_icmp_ge (pc := 7) (tgt := 20) h dJ7_fill_53178_7 (by decide) ⟨by omega, by omega⟩ ⟨by decide, by decide⟩ (fun hc7 => ?_) (fun hc7 => ?_)
    ·
      exact z_vret (pc := 20) h dJ7_fill_53178_20 rfl (⟨rfl, fun j hj => hS j (by omega), hO⟩)
    ·
      refine z_aload_n (pc := 10) h dJ7_fill_53178_10 rfl ?_
      refine z_iload_n (pc := 11) h dJ7_fill_53178_11 rfl ?_
      refine z_iload_n (pc := 12) h dJ7_fill_53178_12 rfl ?_
      refine z_iast (pc := 13) h dJ7_fill_53178_13 hk (by decide) (by omega) (by omega) ?_
      refine z_iinc (pc := 14) (loc' := [some (zr k), some (zi v), some (zi (i + 1)), some (zi 60)]) h dJ7_fill_53178_14 rfl (Nat.le_of_ble_eq_true rfl) rfl rfl ?_
      refine z_goto (pc := 17) (tgt := 5) h dJ7_fill_53178_17 (by decide) ?_
      exact ih5 _ (by omega) (i + 1) (up2 S1 k i.toNat v) (by omega) (by omega) (fun j hj => by rw [up2_e]; split; exact rfl; next hne => exact hS j (by have h9 : ¬ j = i.toNat := fun e => hne ⟨rfl, e⟩; omega)) (fun a b hab => by rw [up2_e, if_neg (by omega)]; exact hO a b hab) rfl
  exact J5 _ 0 S (by decide) (by decide) (fun j hj => by omega) (fun a b hab => rfl) rfl
end
section
/-! numbers: fractions, drums, wheels -/
theorem near_b (a : Int) {b : Int} (hb : 1 ≤ b) : 2 * (a - nearF a b * b) ≤ b ∧ -b < 2 * (a - nearF a b * b) := by
  unfold nearF
  have h1 := Int.ediv_mul_le (2 * a + b - 1) (show 2 * b ≠ 0 by omega)
  have h2 := Int.lt_ediv_add_one_mul_self (2 * a + b - 1) (show 0 < 2 * b by omega)
  generalize (2 * a + b - 1) / (2 * b) = q at h1 h2 ⊢
  rw [Int.add_mul, Int.one_mul] at h2
  rw [Int.mul_left_comm] at h1 h2
  omega
theorem near_0 {a b : Int} (ha : 0 ≤ a) (hb : 1 ≤ b) : 0 ≤ nearF a b ∧ nearF a b ≤ a := by
  unfold nearF
  refine ⟨Int.ediv_nonneg (by omega) (by omega), ?_⟩
  have h1 : a * 1 ≤ a * b := Int.mul_le_mul_of_nonneg_left hb ha
  have h2 : (2 * a + b - 1) / (2 * b) < a + 1 := Int.ediv_lt_of_lt_mul (by omega) (by rw [Int.add_mul, Int.one_mul, Int.mul_left_comm]; omega)
  omega
def gcdI (a b : Int) : Int := ((Nat.gcd a.toNat b.toNat : Nat) : Int)
theorem gcdI_b {a b : Int} (hb : 1 ≤ b) : 1 ≤ gcdI a b ∧ gcdI a b ≤ b := by
  unfold gcdI
  have h1 : 0 < Nat.gcd a.toNat b.toNat := Nat.gcd_pos_of_pos_right _ (by omega)
  have h2 : Nat.gcd a.toNat b.toNat ≤ b.toNat := Nat.gcd_le_right _ (by omega)
  omega
theorem gcdI_b1 {a b : Int} (ha : 1 ≤ a) : 1 ≤ gcdI a b ∧ gcdI a b ≤ a := by
  unfold gcdI
  have h1 : 0 < Nat.gcd a.toNat b.toNat := Nat.gcd_pos_of_pos_left _ (by omega)
  have h2 : Nat.gcd a.toNat b.toNat ≤ a.toNat := Nat.gcd_le_left _ (by omega)
  omega
theorem gcdI_z {a : Int} (ha : 0 ≤ a) : gcdI a 0 = a := by
  unfold gcdI
  rw [show (0 : Int).toNat = 0 from rfl, Nat.gcd_zero_right]
  omega
theorem gcdI_s {a b : Int} (ha : 0 ≤ a) (hb : 0 < b) : gcdI b (a % b) = gcdI a b := by
  unfold gcdI
  obtain ⟨n, rfl⟩ := Int.eq_ofNat_of_zero_le ha
  obtain ⟨k, rfl⟩ := Int.eq_ofNat_of_zero_le (Int.le_of_lt hb)
  rw [← Int.natCast_emod, Int.toNat_natCast, Int.toNat_natCast, Int.toNat_natCast, Nat.gcd_comm n k, Nat.gcd_rec k n, Nat.gcd_comm]
def gR : Nat → Nat → Nat → Nat
  | 0, l, _ => l
  | n + 1, l, s => if s = 0 then l else gR n s (l % s)
theorem gR_eq : ∀ (n l s : Nat), s < l → l * s < 2 ^ n → gR n l s = Nat.gcd l s
  | 0, l, s, h, h2 => by
    have hs : s = 0 := by
      rcases Nat.eq_zero_or_pos s with h0 | h0
      · exact h0
      · have : 1 * 1 ≤ l * s := Nat.mul_le_mul (by omega) h0
        omega
    subst hs
    rw [gR, Nat.gcd_zero_right]
  | n + 1, l, s, h, h2 => by
    rw [gR]
    split
    · next h0 => rw [h0, Nat.gcd_zero_right]
    · next h0 =>
      have hm : l % s < s := Nat.mod_lt _ (by omega)
      have hl : 2 * (l % s) ≤ l := by
        have h3 := Nat.div_add_mod l s
        have h4 : 1 ≤ l / s := (Nat.one_le_div_iff (by omega)).mpr (by omega)
        have h5 : s * 1 ≤ s * (l / s) := Nat.mul_le_mul_left _ h4
        omega
      have h6 : s * (2 * (l % s)) ≤ s * l := Nat.mul_le_mul_left _ hl
      rw [gR_eq n s (l % s) hm (by rw [Nat.pow_succ] at h2; rw [Nat.mul_left_comm, Nat.mul_comm s l] at h6; omega), Nat.gcd_comm l s, Nat.gcd_rec s l, Nat.gcd_comm]
theorem gR_64 {a b : Nat} (hb : b ≤ 2147483647) : gR 64 a b = Nat.gcd a b := by
  rw [gR]
  split
  · next h0 => rw [h0, Nat.gcd_zero_right]
  · next h0 =>
    have hm : a % b < b := Nat.mod_lt _ (by omega)
    rw [gR_eq 63 b (a % b) hm, Nat.gcd_comm a b, Nat.gcd_rec b a, Nat.gcd_comm]
    have : b * (a % b) ≤ 2147483647 * 2147483647 := Nat.mul_le_mul hb (by omega)
    omega
def toldF (a b w : Int) : Int := if w = 0 then a.tdiv (gcdI (absI a) b) else b.tdiv (gcdI (absI a) b)
def scanR (P : Nat → Bool) (V : Nat → Int) (i : Int) : Nat → Nat → Int → Int
  | 0, _, f => if i = -1 then f else -1
  | r + 1, t, f => if P t = true then (if f = i then V t else scanR P V i r (t + 1) (f + 1)) else scanR P V i r (t + 1) f
theorem scan_0 {P : Nat → Bool} {V : Nat → Int} {i : Int} {r t : Nat} {f : Int} (h : r = 0) : scanR P V i r t f = if i = -1 then f else -1 := by subst h; rfl
theorem scan_s {P : Nat → Bool} {V : Nat → Int} {i : Int} {r r' t t' : Nat} {f : Int} (h : r = r' + 1) (ht : t' = t + 1) : scanR P V i r t f = if P t = true then (if f = i then V t else scanR P V i r' t' (f + 1)) else scanR P V i r' t' f := by subst h; subst ht; rfl
def seemF (s p : Int) : Int := if 0 < p - nearF p s * s then 2 else if p - nearF p s * s < 0 then 3 else if nearF p s % p = 0 then 0 else 1
theorem seemF_b (s p : Int) : 0 ≤ seemF s p ∧ seemF s p ≤ 3 := by unfold seemF; (repeat' split) <;> omega
def pairP (a e : Int) (t : Nat) : Bool := decide (nearF ((t : Int) % 24 + 1) ((t : Int) / 24 + 1) = a ∧ seemF ((t : Int) / 24 + 1) ((t : Int) % 24 + 1) = e)
def pairV (t : Nat) : Int := 100 * ((t : Int) / 24 + 1) + ((t : Int) % 24 + 1)
def pairsF (a e i : Int) : Int := scanR (pairP a e) pairV i 576 0 0
theorem pairP_at {a e s p : Int} (hs : 1 ≤ s ∧ s ≤ 24) (hp : 1 ≤ p ∧ p ≤ 24) : pairP a e (24 * (s - 1) + (p - 1)).toNat = decide (nearF p s = a ∧ seemF s p = e) := by
  unfold pairP
  have h1 : (((24 * (s - 1) + (p - 1)).toNat : Nat) : Int) = 24 * (s - 1) + (p - 1) := by omega
  rw [h1, show (24 * (s - 1) + (p - 1)) % 24 + 1 = p by omega, show (24 * (s - 1) + (p - 1)) / 24 + 1 = s by omega]
theorem pairV_at {s p : Int} (hs : 1 ≤ s ∧ s ≤ 24) (hp : 1 ≤ p ∧ p ≤ 24) : pairV (24 * (s - 1) + (p - 1)).toNat = 100 * s + p := by
  unfold pairV
  omega
def seemW (s t f : Int) : Int := s * t - nearF (s * t) (60 * f) * (60 * f)
theorem seemW_b (s t : Int) {f : Int} (hf : 1 ≤ f) : 2 * seemW s t f ≤ 60 * f ∧ -(60 * f) < 2 * seemW s t f := near_b (s * t) (show 1 ≤ 60 * f by omega)
theorem seem_iff (s t o : Int) {f : Int} (hf : 1 ≤ f) : seemW s t f = seemW s o f ↔ 60 * f ∣ s * (o - t) := by
  have h1 := seemW_b s t hf
  have h2 := seemW_b s o hf
  unfold seemW at h1 h2 ⊢
  rw [Int.mul_sub]
  generalize s * t = u at h1 h2 ⊢
  generalize s * o = v at h1 h2 ⊢
  generalize nearF u (60 * f) = q at h1 h2 ⊢
  generalize nearF v (60 * f) = r at h1 h2 ⊢
  generalize hb : 60 * f = b at h1 h2 ⊢
  constructor
  · intro h
    exact ⟨r - q, by rw [Int.mul_sub, Int.mul_comm b r, Int.mul_comm b q]; omega⟩
  · rintro ⟨k, hk⟩
    have hz : (v - r * b) - (u - q * b) = b * (k - r + q) := by
      rw [Int.mul_add, Int.mul_sub, Int.mul_comm b r, Int.mul_comm b q]
      omega
    generalize k - r + q = m at hz
    have hm : m = 0 := by
      rcases Int.lt_trichotomy m 0 with h | h | h
      · have : b * m ≤ b * (-1) := Int.mul_le_mul_of_nonneg_left (by omega) (by omega)
        omega
      · exact h
      · have : b * 1 ≤ b * m := Int.mul_le_mul_of_nonneg_left (by omega) (by omega)
        omega
    rw [hm, Int.mul_zero] at hz
    omega
def fitB (s t f g : Int) (n : Nat) : Bool := decide (60 * f ∣ s * ((n : Int) - t)) && (decide (g = -1) || decide (60 * g ∣ s * ((n : Int) - t)))
theorem fitB_t {s t f g o : Int} {n : Nat} (hn : (n : Int) = o) : fitB s t f g n = true ↔ 60 * f ∣ s * (o - t) ∧ (g = -1 ∨ 60 * g ∣ s * (o - t)) := by
  subst hn
  simp [fitB]
def fitsF (s t f g i : Int) : Int := scanR (fitB s t f g) (fun n => (n : Int)) i 1000 0 0
def upToF (s t f g m : Int) : Int := scanR (fitB s t f g) (fun n => (n : Int)) (-1) (m + 1).toNat 0 0
/-! what the public calls answer -/
def sp_drum (s p w : Int) : Int := if (1 ≤ s ∧ s ≤ 24) ∧ (1 ≤ p ∧ p ≤ 24) ∧ (0 ≤ w ∧ w ≤ 1) then (if w = 0 then nearF p s else seemF s p) else -2
def sp_drift (s p w : Int) : Int := if (1 ≤ s ∧ s ≤ 24) ∧ (1 ≤ p ∧ p ≤ 24) ∧ (0 ≤ w ∧ w ≤ 1) then toldF (p - nearF p s * s) s w else -9223372036854775806
def sp_numbers (a e i : Int) : Int := if (0 ≤ a ∧ a ≤ 24) ∧ (0 ≤ e ∧ e ≤ 3) ∧ -1 ≤ i then pairsF a e i else -2
def sp_wheel (s t f w : Int) : Int := if ((1 ≤ s ∧ s ≤ 36) ∧ (0 ≤ t ∧ t ≤ 999) ∧ (1 ≤ f ∧ f ≤ 99)) ∧ (0 ≤ w ∧ w ≤ 1) then toldF (seemW s t f) (60 * f) w else -9223372036854775806
def sp_fits (s t f g i : Int) : Int := if ((1 ≤ s ∧ s ≤ 36) ∧ (0 ≤ t ∧ t ≤ 999) ∧ (1 ≤ f ∧ f ≤ 99)) ∧ (g = -1 ∨ 1 ≤ g ∧ g ≤ 99) ∧ -1 ≤ i then fitsF s t f g i else -2
def sp_upTo (s t f g m : Int) : Int := if ((1 ≤ s ∧ s ≤ 36) ∧ (0 ≤ t ∧ t ≤ 999) ∧ (1 ≤ f ∧ f ≤ 99)) ∧ (g = -1 ∨ 1 ≤ g ∧ g ≤ 99) ∧ (0 ≤ m ∧ m ≤ 999) then upToF s t f g m else -2
def sp_narrow (a b c w : Int) : Int := if (1 ≤ a ∧ a ≤ 99) ∧ (1 ≤ b ∧ b ≤ 99) ∧ (1 ≤ c ∧ c ≤ 99) ∧ (0 ≤ w ∧ w ≤ 1) then toldF (a * c) (b + c) w else -9223372036854775806
def wideR (v a b : Int) : Nat → Int → Int
  | 0, _ => -1
  | n + 1, w => if v * (a + b) ≤ w * b then w else wideR v a b n (w + 1)
theorem wide_0 {v a b w : Int} {r : Nat} (h : r = 0) : wideR v a b r w = -1 := by subst h; rfl
theorem wide_s {v a b w w' : Int} {r r' : Nat} (h : r = r' + 1) (hw : w' = w + 1) : wideR v a b r w = if v * (a + b) ≤ w * b then w else wideR v a b r' w' := by subst h; subst hw; rfl
def sp_wide (v a b : Int) : Int := if (0 ≤ v ∧ v ≤ 99) ∧ (1 ≤ a ∧ a ≤ 99) ∧ (1 ≤ b ∧ b ≤ 99) then wideR v a b 999 1 else -2
def worthF (l b w : Int) : Int := l * w - b * w * w
def slitR (l b : Int) : Nat → Int → Int → Int
  | 0, _, best => best
  | n + 1, w, best => slitR l b n (w + 1) (if worthF l b best < worthF l b w then w else best)
theorem slit_0 {l b w z : Int} {r : Nat} (h : r = 0) : slitR l b r w z = z := by subst h; rfl
theorem slit_s {l b w w' z : Int} {r r' : Nat} (h : r = r' + 1) (hw : w' = w + 1) : slitR l b r w z = slitR l b r' w' (if worthF l b z < worthF l b w then w else z) := by subst h; subst hw; rfl
def sp_slit (l b : Int) : Int := if (0 ≤ l ∧ l ≤ 99) ∧ (0 ≤ b ∧ b ≤ 99) then slitR l b 19 2 1 else -2
theorem mul_bd {a b A B : Int} (ha : 0 ≤ a ∧ a ≤ A) (hb : 0 ≤ b ∧ b ≤ B) : 0 ≤ a * b ∧ a * b ≤ A * B := ⟨Int.mul_nonneg ha.1 hb.1, Int.mul_le_mul ha.2 hb.2 hb.1 (by omega)⟩
theorem worth_b {l b w : Int} (hl : 0 ≤ l ∧ l ≤ 99) (hb : 0 ≤ b ∧ b ≤ 99) (hw : 0 ≤ w ∧ w ≤ 20) : -100000 ≤ worthF l b w ∧ worthF l b w ≤ 100000 := by
  unfold worthF
  have h1 := mul_bd hl hw
  have h2 := mul_bd hb hw
  have h3 := mul_bd (show 0 ≤ b * w ∧ b * w ≤ 1980 by omega) hw
  omega
end
section
/-! strips: what their texts say -/
abbrev goodF (p b : Int) : Prop := (p = 4 ∧ b = 59) ∨ (p ≠ 4 ∧ (b = 45 ∨ (48 ≤ b ∧ b ≤ 57)))
def faultR (t : Nat → Int) (n : Int) : Nat → Int → Int
  | 0, _ => if n = 0 ∨ n % 5 = 4 then -1 else n
  | r + 1, i => if i = 60 then i else if (i % 5 = 4 ∧ t i.toNat = 59) ∨ (i % 5 ≠ 4 ∧ (t i.toNat = 45 ∨ (48 ≤ t i.toNat ∧ t i.toNat ≤ 57))) then faultR t n r (i + 1) else i
def faultF (t : Nat → Int) (n : Int) : Int := faultR t n n.toNat 0
theorem fault_0 {t : Nat → Int} {n i : Int} {r : Nat} (h : r = 0) : faultR t n r i = if n = 0 ∨ n % 5 = 4 then -1 else n := by subst h; rfl
theorem fault_s {t : Nat → Int} {n i : Int} {r r' : Nat} (h : r = r' + 1) : faultR t n r i = if i = 60 then i else if goodF (i % 5) (t i.toNat) then faultR t n r' (i + 1) else i := by
  subst h; rfl
def picsF (t : Nat → Int) (n : Int) : Int := if faultF t n = -1 then (n + 1) / 5 else 0
def placeF (t : Nat → Int) (i : Int) : Int := if t (i / 4 * 5 + i % 4).toNat = 45 then -1 else t (i / 4 * 5 + i % 4).toNat - 48
theorem faultR_ok (t : Nat → Int) (n : Int) (hn : 0 ≤ n) : ∀ (r : Nat) (i : Int), 0 ≤ i → i + r = n → faultR t n r i = -1 → (n ≤ 59 ∨ 60 < i) ∧ (n = 0 ∨ n % 5 = 4) ∧ ∀ j : Int, i ≤ j → j < n → j ≠ 60 ∧ goodF (j % 5) (t j.toNat)
  | 0, i, h0, h1, h => by
    rw [fault_0 rfl] at h
    split at h
    · next hc => exact ⟨by omega, hc, fun j hj1 hj2 => by omega⟩
    · omega
  | r + 1, i, h0, h1, h => by
    rw [fault_s rfl] at h
    split at h
    · omega
    · next hi =>
      split at h
      · next hg =>
        obtain ⟨a1, a2, a3⟩ := faultR_ok t n hn r (i + 1) (by omega) (by omega) h
        refine ⟨by omega, a2, fun j hj1 hj2 => ?_⟩
        by_cases hj : j = i
        · subst hj; exact ⟨hi, hg⟩
        · exact a3 j (by omega) hj2
      · omega
theorem faultF_ok {t : Nat → Int} {n : Int} (hn : 0 ≤ n) (h : faultF t n = -1) : n ≤ 59 ∧ (n = 0 ∨ n % 5 = 4) ∧ ∀ j : Int, 0 ≤ j → j < n → goodF (j % 5) (t j.toNat) := by
  obtain ⟨a, b, c⟩ := faultR_ok t n hn n.toNat 0 (by omega) (by omega) h
  exact ⟨by omega, b, fun j h1 h2 => (c j h1 h2).2⟩
theorem faultR_b (t : Nat → Int) (n : Int) (hn : 0 ≤ n) : ∀ (r : Nat) (i : Int), 0 ≤ i → i + r = n → -1 ≤ faultR t n r i ∧ faultR t n r i ≤ n
  | 0, i, h0, h1 => by rw [fault_0 rfl]; split <;> omega
  | r + 1, i, h0, h1 => by
    rw [fault_s rfl]
    split
    · omega
    · split
      · exact faultR_b t n hn r (i + 1) (by omega) (by omega)
      · omega
theorem faultF_b (t : Nat → Int) {n : Int} (hn : 0 ≤ n) : -1 ≤ faultF t n ∧ faultF t n ≤ n := faultR_b t n hn n.toNat 0 (by omega) (by omega)
theorem picsF_b (t : Nat → Int) {n : Int} (hn : 0 ≤ n) : 0 ≤ picsF t n ∧ picsF t n ≤ 12 ∧ (5 * picsF t n ≤ n + 1) := by
  unfold picsF
  split
  · next h => have := faultF_ok hn h; omega
  · omega
theorem placeF_b {t : Nat → Int} {n i : Int} (hn : 0 ≤ n) (h0 : 0 ≤ i) (hi : i < 4 * picsF t n) : -1 ≤ placeF t i ∧ placeF t i ≤ 9 := by
  unfold picsF at hi
  split at hi
  · next h =>
    obtain ⟨a, b, c⟩ := faultF_ok hn h
    have hg := c (i / 4 * 5 + i % 4) (by omega) (by omega)
    unfold placeF
    rw [show (i / 4 * 5 + i % 4) % 5 = i % 4 by omega] at hg
    split <;> omega
  · omega
/-- the text told anew: what agrees below n tells the same -/
theorem faultR_c {t u : Nat → Int} {n : Int} (h : ∀ j : Nat, (j : Int) < n → t j = u j) : ∀ (r : Nat) (i : Int), 0 ≤ i → i + r = n → faultR t n r i = faultR u n r i
  | 0, i, h0, h1 => rfl
  | r + 1, i, h0, h1 => by
    rw [fault_s rfl, fault_s rfl, h i.toNat (by omega), faultR_c h r (i + 1) (by omega) (by omega)]
theorem faultF_c {t u : Nat → Int} {n : Int} (hn : 0 ≤ n) (h : ∀ j : Nat, (j : Int) < n → t j = u j) : faultF t n = faultF u n := faultR_c h n.toNat 0 (by omega) (by omega)
theorem picsF_c {t u : Nat → Int} {n : Int} (hn : 0 ≤ n) (h : ∀ j : Nat, (j : Int) < n → t j = u j) : picsF t n = picsF u n := by unfold picsF; rw [faultF_c hn h]
theorem placeF_c {t u : Nat → Int} {n i : Int} (hn : 0 ≤ n) (h : ∀ j : Nat, (j : Int) < n → t j = u j) (h0 : 0 ≤ i) (hi : i < 4 * picsF t n) : placeF t i = placeF u i := by
  have := picsF_b t hn
  unfold placeF
  rw [h (i / 4 * 5 + i % 4).toNat (by omega)]
abbrev PL : Type := Int → Int → Int
def plF (t : Nat → Int) (n : Int) : PL := fun p q => if (0 ≤ p ∧ p < picsF t n) ∧ (0 ≤ q ∧ q < 4) then placeF t (p * 4 + q) else -1
theorem plF_b (t : Nat → Int) {n : Int} (hn : 0 ≤ n) (p q : Int) : -1 ≤ plF t n p q ∧ plF t n p q ≤ 9 := by
  unfold plF
  split
  · exact placeF_b hn (by omega) (by omega)
  · omega
theorem plF_c {t u : Nat → Int} {n : Int} (hn : 0 ≤ n) (h : ∀ j : Nat, (j : Int) < n → t j = u j) : plF t n = plF u n := by
  funext p q
  unfold plF
  rw [← picsF_c hn h]
  split
  · exact placeF_c hn h (by omega) (by omega)
  · rfl
def partF (g u v : Int) : Int := if u = -1 ∨ v = -1 then (if u = v then 0 else g) else absI (u - v)
theorem partF_b {g u v : Int} (hg : 0 ≤ g ∧ g ≤ 9) (hu : -1 ≤ u ∧ u ≤ 9) (hv : -1 ≤ v ∧ v ≤ 9) : 0 ≤ partF g u v ∧ partF g u v ≤ 9 := by
  unfold partF absI
  (repeat' split) <;> omega
def stepF (g : Int) (Q : PL) (x y : Int) : Int := 0 + partF g (Q x 0) (Q y 0) + partF g (Q x 1) (Q y 1) + partF g (Q x 2) (Q y 2) + partF g (Q x 3) (Q y 3)
abbrev okP (Q : PL) : Prop := ∀ p q, -1 ≤ Q p q ∧ Q p q ≤ 9
theorem stepF_b {g : Int} {Q : PL} (hg : 0 ≤ g ∧ g ≤ 9) (hQ : okP Q) (x y : Int) : 0 ≤ stepF g Q x y ∧ stepF g Q x y ≤ 36 := by
  have h0 := partF_b hg (hQ x 0) (hQ y 0)
  have h1 := partF_b hg (hQ x 1) (hQ y 1)
  have h2 := partF_b hg (hQ x 2) (hQ y 2)
  have h3 := partF_b hg (hQ x 3) (hQ y 3)
  unfold stepF
  omega
theorem stepF_z (g : Int) (Q : PL) (x : Int) : stepF g Q x x = 0 := by
  have h : ∀ u : Int, partF g u u = 0 := fun u => by unfold partF absI; (repeat' split) <;> omega
  unfold stepF
  rw [h, h, h, h]
  rfl
def behF (n p : Int) : Int := if p + 1 < n then p + 1 else 0
theorem behF_m {n p : Int} (h0 : 0 ≤ p) (h : p < n) : (p + 1) % n = behF n p := by
  unfold behF
  split
  · exact Int.emod_eq_of_lt (by omega) (by omega)
  · rw [show p + 1 = n by omega, Int.emod_self]
def wholeR (g : Int) (Q : PL) (n : Int) : Nat → Int → Int → Int
  | 0, _, z => z
  | r + 1, p, z => wholeR g Q n r (p + 1) (z + stepF g Q p (behF n p))
theorem whole_0 {g : Int} {Q : PL} {n p z : Int} {r : Nat} (h : r = 0) : wholeR g Q n r p z = z := by subst h; rfl
theorem whole_s {g : Int} {Q : PL} {n p z : Int} {r r' : Nat} (h : r = r' + 1) : wholeR g Q n r p z = wholeR g Q n r' (p + 1) (z + stepF g Q p (behF n p)) := by subst h; rfl
def wholeF (g : Int) (Q : PL) (n : Int) : Int := wholeR g Q n n.toNat 0 0
def halfV (u v : Int) : Int := if u = -1 then v else if v = -1 then u else (u + v) / 2
theorem halfV_b {u v : Int} (hu : -1 ≤ u ∧ u ≤ 9) (hv : -1 ≤ v ∧ v ≤ 9) : -1 ≤ halfV u v ∧ halfV u v ≤ 9 := by unfold halfV; (repeat' split) <;> omega
def halfF (Q : PL) (n p q : Int) : Int := halfV (Q p q) (Q (behF n p) q)
def thereF (g : Int) (Q : PL) (n p : Int) : Int := 0 + partF g (Q p 0) (halfF Q n p 0) + partF g (Q p 1) (halfF Q n p 1) + partF g (Q p 2) (halfF Q n p 2) + partF g (Q p 3) (halfF Q n p 3)
def onwF (g : Int) (Q : PL) (n p : Int) : Int := 0 + partF g (halfF Q n p 0) (Q (behF n p) 0) + partF g (halfF Q n p 1) (Q (behF n p) 1) + partF g (halfF Q n p 2) (Q (behF n p) 2) + partF g (halfF Q n p 3) (Q (behF n p) 3)
theorem halfF_b {Q : PL} (hQ : okP Q) (n p q : Int) : -1 ≤ halfF Q n p q ∧ halfF Q n p q ≤ 9 := halfV_b (hQ _ _) (hQ _ _)
theorem thereF_b {g : Int} {Q : PL} (hg : 0 ≤ g ∧ g ≤ 9) (hQ : okP Q) (n p : Int) : 0 ≤ thereF g Q n p ∧ thereF g Q n p ≤ 36 := by
  have h0 := partF_b hg (hQ p 0) (halfF_b hQ n p 0)
  have h1 := partF_b hg (hQ p 1) (halfF_b hQ n p 1)
  have h2 := partF_b hg (hQ p 2) (halfF_b hQ n p 2)
  have h3 := partF_b hg (hQ p 3) (halfF_b hQ n p 3)
  unfold thereF
  omega
theorem onwF_b {g : Int} {Q : PL} (hg : 0 ≤ g ∧ g ≤ 9) (hQ : okP Q) (n p : Int) : 0 ≤ onwF g Q n p ∧ onwF g Q n p ≤ 36 := by
  have h0 := partF_b hg (halfF_b hQ n p 0) (hQ (behF n p) 0)
  have h1 := partF_b hg (halfF_b hQ n p 1) (hQ (behF n p) 1)
  have h2 := partF_b hg (halfF_b hQ n p 2) (hQ (behF n p) 2)
  have h3 := partF_b hg (halfF_b hQ n p 3) (hQ (behF n p) 3)
  unfold onwF
  omega
def lowF (g : Int) (Q : PL) (n p : Int) : Int := stepF g Q p (behF n p) * stepF g Q p (behF n p) - thereF g Q n p * thereF g Q n p - onwF g Q n p * onwF g Q n p
theorem sq_b {a A : Int} (h : 0 ≤ a ∧ a ≤ A) : 0 ≤ a * a ∧ a * a ≤ A * A := ⟨Int.mul_nonneg h.1 h.1, Int.mul_le_mul h.2 h.2 h.1 (by omega)⟩
theorem lowF_b {g : Int} {Q : PL} (hg : 0 ≤ g ∧ g ≤ 9) (hQ : okP Q) (n p : Int) : -5000 ≤ lowF g Q n p ∧ lowF g Q n p ≤ 5000 := by
  have h1 := sq_b (stepF_b hg hQ p (behF n p))
  have h2 := sq_b (thereF_b hg hQ n p)
  have h3 := sq_b (onwF_b hg hQ n p)
  unfold lowF
  omega
def missR (g : Int) (Q : PL) (n : Int) : Nat → Int → Int × Int → Int × Int
  | 0, _, z => z
  | r + 1, p, z => missR g Q n r (p + 1) (if z.2 < lowF g Q n p then (p, lowF g Q n p) else z)
theorem miss_0 {g : Int} {Q : PL} {n p : Int} {z : Int × Int} {r : Nat} (h : r = 0) : missR g Q n r p z = z := by subst h; rfl
theorem miss_s {g : Int} {Q : PL} {n p : Int} {z : Int × Int} {r r' : Nat} (h : r = r' + 1) : missR g Q n r p z = missR g Q n r' (p + 1) (if z.2 < lowF g Q n p then (p, lowF g Q n p) else z) := by subst h; rfl
def missF (g : Int) (Q : PL) (n : Int) : Int × Int := missR g Q n n.toNat 0 (-1, 0)
theorem missR_ok (g : Int) (Q : PL) (n : Int) : ∀ (r : Nat) (p : Int) (z : Int × Int), 0 ≤ p → p + r = n → (z = (-1, 0) ∨ (0 ≤ z.1 ∧ z.1 < n ∧ z.2 = lowF g Q n z.1 ∧ 0 < z.2)) → (missR g Q n r p z = (-1, 0) ∨ (0 ≤ (missR g Q n r p z).1 ∧ (missR g Q n r p z).1 < n ∧ (missR g Q n r p z).2 = lowF g Q n (missR g Q n r p z).1 ∧ 0 < (missR g Q n r p z).2))
  | 0, p, z, h0, h1, h => h
  | r + 1, p, z, h0, h1, h => by
    rw [miss_s rfl]
    refine missR_ok g Q n r (p + 1) _ (by omega) (by omega) ?_
    split
    · next hc =>
      right
      have : 0 ≤ z.2 := by
        rcases h with h | h
        · rw [h]; decide
        · omega
      exact ⟨h0, by show p < n; omega, rfl, by show 0 < lowF g Q n p; omega⟩
    · exact h
theorem missF_ok (g : Int) (Q : PL) {n : Int} (hn : 0 ≤ n) : missF g Q n = (-1, 0) ∨ (0 ≤ (missF g Q n).1 ∧ (missF g Q n).1 < n ∧ (missF g Q n).2 = lowF g Q n (missF g Q n).1 ∧ 0 < (missF g Q n).2) := missR_ok g Q n n.toNat 0 (-1, 0) (by omega) (by omega) (Or.inl rfl)
/-! the fewest -/
def reachB (g : Int) (Q : PL) (n t : Int) (c : Nat) : Bool := (List.range n.toNat).all (fun k => (List.range n.toNat).any (fun j => c.testBit j && decide (stepF g Q k j ≤ t)))
theorem reachB_t {g : Int} {Q : PL} {n t : Int} {c : Nat} : reachB g Q n t c = true ↔ ∀ k : Nat, (k : Int) < n → ∃ j : Nat, (j : Int) < n ∧ c.testBit j = true ∧ stepF g Q k j ≤ t := by
  unfold reachB
  rw [List.all_eq_true]
  constructor
  · intro h k hk
    have h1 := h k (List.mem_range.mpr (by omega))
    rw [List.any_eq_true] at h1
    obtain ⟨j, hj, h2⟩ := h1
    rw [Bool.and_eq_true, decide_eq_true_eq] at h2
    have := List.mem_range.mp hj
    exact ⟨j, by omega, h2.1, h2.2⟩
  · intro h k hk
    have := List.mem_range.mp hk
    obtain ⟨j, h1, h2, h3⟩ := h k (by omega)
    rw [List.any_eq_true]
    exact ⟨j, List.mem_range.mpr (by omega), by rw [Bool.and_eq_true, decide_eq_true_eq]; exact ⟨h2, h3⟩⟩
def fewR (R : Nat → Bool) : Nat → Nat → Nat → Nat
  | 0, _, b => b
  | r + 1, c, b => fewR R r (c + 1) (if popc c < popc b ∧ R c = true then c else b)
theorem few_0 {R : Nat → Bool} {r c b : Nat} (h : r = 0) : fewR R r c b = b := by subst h; rfl
theorem few_s {R : Nat → Bool} {r r' c b : Nat} (h : r = r' + 1) : fewR R r c b = fewR R r' (c + 1) (if popc c < popc b ∧ R c = true then c else b) := by subst h; rfl
def fewF (g : Int) (Q : PL) (n t : Int) : Nat := fewR (reachB g Q n t) (2 ^ n.toNat - 2) 1 (2 ^ n.toNat - 1)
theorem reach_all {g : Int} {Q : PL} {n t : Int} (hn : 0 ≤ n) (ht : 0 ≤ t) : reachB g Q n t (2 ^ n.toNat - 1) = true := by
  rw [reachB_t]
  intro k hk
  refine ⟨k, hk, ?_, by rw [stepF_z]; exact ht⟩
  rw [Nat.testBit_two_pow_sub_one]
  exact decide_eq_true (by omega)
theorem pop_all : (List.range 13).all (fun n => decide (popc (2 ^ n - 1) = n) && (List.range (2 ^ n - 1)).all (fun c => decide (popc c < n))) = true := by decide +kernel
theorem pop_full {n : Nat} (h : n < 13) : popc (2 ^ n - 1) = n := by
  have h1 := List.all_eq_true.mp pop_all n (List.mem_range.mpr h)
  rw [Bool.and_eq_true, decide_eq_true_eq] at h1
  exact h1.1
theorem pop_less {n c : Nat} (h : n < 13) (hc : c < 2 ^ n - 1) : popc c < n := by
  have h1 := List.all_eq_true.mp pop_all n (List.mem_range.mpr h)
  rw [Bool.and_eq_true] at h1
  exact of_decide_eq_true (List.all_eq_true.mp h1.2 c (List.mem_range.mpr hc))
end
