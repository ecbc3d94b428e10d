section
-- ===== PART A: goes FIRST, ahead of the names: the tables' words, and 'selects' of the private methods out of them =====
/-- a private method of a class that the tables say can be made, by its rows of tables_1 -/
def lw_okq (q : MethodName × Nat) : Prop := (q.1.cls ≠ "java/lang/invoke/MethodHandle" ∧ q.1.cls ≠ "java/lang/invoke/VarHandle") ∧ Cond.instantiable q.1.cls q.2 ∈ tables_1 ∧ Cond.privateMethod q.1 ∈ tables_1 ∧ Cond.instanceMethod q.1 ∈ tables_1
theorem lw_p0 : lw_okq (⟨"TuneLocks", "putNumber", "(I)V"⟩, 14) := ⟨⟨by decide +kernel, by decide +kernel⟩, List.mem_of_getElem? (i := 23) (by decide +kernel), List.mem_of_getElem? (i := 372) (by decide +kernel), List.mem_of_getElem? (i := 373) (by decide +kernel)⟩
theorem lw_p1 : lw_okq (⟨"TuneLocks$Reader", "takeToken", "()V"⟩, 11) := ⟨⟨by decide +kernel, by decide +kernel⟩, List.mem_of_getElem? (i := 384) (by decide +kernel), List.mem_of_getElem? (i := 437) (by decide +kernel), List.mem_of_getElem? (i := 438) (by decide +kernel)⟩
theorem lw_p2 : lw_okq (⟨"TuneLocks$Reader", "letterAt", "(I)Z"⟩, 11) := ⟨⟨by decide +kernel, by decide +kernel⟩, List.mem_of_getElem? (i := 384) (by decide +kernel), List.mem_of_getElem? (i := 441) (by decide +kernel), List.mem_of_getElem? (i := 442) (by decide +kernel)⟩
theorem lw_p3 : lw_okq (⟨"TuneLocks$Reader", "takeLetters", "()V"⟩, 11) := ⟨⟨by decide +kernel, by decide +kernel⟩, List.mem_of_getElem? (i := 384) (by decide +kernel), List.mem_of_getElem? (i := 445) (by decide +kernel), List.mem_of_getElem? (i := 446) (by decide +kernel)⟩
theorem lw_p4 : lw_okq (⟨"TuneLocks$Reader", "sortOfWord", "(I)I"⟩, 11) := ⟨⟨by decide +kernel, by decide +kernel⟩, List.mem_of_getElem? (i := 384) (by decide +kernel), List.mem_of_getElem? (i := 450) (by decide +kernel), List.mem_of_getElem? (i := 451) (by decide +kernel)⟩
theorem lw_p5 : lw_okq (⟨"TuneLocks$Reader", "digitAt", "(I)Z"⟩, 11) := ⟨⟨by decide +kernel, by decide +kernel⟩, List.mem_of_getElem? (i := 384) (by decide +kernel), List.mem_of_getElem? (i := 503) (by decide +kernel), List.mem_of_getElem? (i := 504) (by decide +kernel)⟩
theorem lw_p6 : lw_okq (⟨"TuneLocks$Reader", "takeDigits", "()V"⟩, 11) := ⟨⟨by decide +kernel, by decide +kernel⟩, List.mem_of_getElem? (i := 384) (by decide +kernel), List.mem_of_getElem? (i := 507) (by decide +kernel), List.mem_of_getElem? (i := 508) (by decide +kernel)⟩
theorem lw_p7 : lw_okq (⟨"TuneLocks$Reader", "readTune", "()Z"⟩, 11) := ⟨⟨by decide +kernel, by decide +kernel⟩, List.mem_of_getElem? (i := 384) (by decide +kernel), List.mem_of_getElem? (i := 514) (by decide +kernel), List.mem_of_getElem? (i := 515) (by decide +kernel)⟩
theorem lw_p8 : lw_okq (⟨"TuneLocks$Reader", "refuse", "()Z"⟩, 11) := ⟨⟨by decide +kernel, by decide +kernel⟩, List.mem_of_getElem? (i := 384) (by decide +kernel), List.mem_of_getElem? (i := 518) (by decide +kernel), List.mem_of_getElem? (i := 519) (by decide +kernel)⟩
theorem lw_p9 : lw_okq (⟨"TuneLocks$Reader", "fail", "(I)Z"⟩, 11) := ⟨⟨by decide +kernel, by decide +kernel⟩, List.mem_of_getElem? (i := 384) (by decide +kernel), List.mem_of_getElem? (i := 522) (by decide +kernel), List.mem_of_getElem? (i := 523) (by decide +kernel)⟩
theorem lw_p10 : lw_okq (⟨"TuneLocks$Reader", "take", "(I)Z"⟩, 11) := ⟨⟨by decide +kernel, by decide +kernel⟩, List.mem_of_getElem? (i := 384) (by decide +kernel), List.mem_of_getElem? (i := 530) (by decide +kernel), List.mem_of_getElem? (i := 531) (by decide +kernel)⟩
theorem lw_p11 : lw_okq (⟨"TuneLocks$Reader", "readNotes", "(LTuneLocks$Song;)Z"⟩, 11) := ⟨⟨by decide +kernel, by decide +kernel⟩, List.mem_of_getElem? (i := 384) (by decide +kernel), List.mem_of_getElem? (i := 534) (by decide +kernel), List.mem_of_getElem? (i := 535) (by decide +kernel)⟩
theorem lw_p12 : lw_okq (⟨"TuneLocks$Reader", "takeNumber", "(II)Z"⟩, 11) := ⟨⟨by decide +kernel, by decide +kernel⟩, List.mem_of_getElem? (i := 384) (by decide +kernel), List.mem_of_getElem? (i := 538) (by decide +kernel), List.mem_of_getElem? (i := 539) (by decide +kernel)⟩
theorem lw_p13 : lw_okq (⟨"TuneLocks$Reader", "readLock", "()Z"⟩, 11) := ⟨⟨by decide +kernel, by decide +kernel⟩, List.mem_of_getElem? (i := 384) (by decide +kernel), List.mem_of_getElem? (i := 546) (by decide +kernel), List.mem_of_getElem? (i := 547) (by decide +kernel)⟩
theorem lw_p14 : lw_okq (⟨"TuneLocks$Reader", "readE", "(I)Z"⟩, 11) := ⟨⟨by decide +kernel, by decide +kernel⟩, List.mem_of_getElem? (i := 384) (by decide +kernel), List.mem_of_getElem? (i := 554) (by decide +kernel), List.mem_of_getElem? (i := 555) (by decide +kernel)⟩
theorem lw_p15 : lw_okq (⟨"TuneLocks$Reader", "readBoth", "(I)Z"⟩, 11) := ⟨⟨by decide +kernel, by decide +kernel⟩, List.mem_of_getElem? (i := 384) (by decide +kernel), List.mem_of_getElem? (i := 558) (by decide +kernel), List.mem_of_getElem? (i := 559) (by decide +kernel)⟩
def lw_privs_1 : List (MethodName × Nat) := [(⟨"TuneLocks", "putNumber", "(I)V"⟩, 14), (⟨"TuneLocks$Reader", "takeToken", "()V"⟩, 11), (⟨"TuneLocks$Reader", "letterAt", "(I)Z"⟩, 11), (⟨"TuneLocks$Reader", "takeLetters", "()V"⟩, 11), (⟨"TuneLocks$Reader", "sortOfWord", "(I)I"⟩, 11), (⟨"TuneLocks$Reader", "digitAt", "(I)Z"⟩, 11), (⟨"TuneLocks$Reader", "takeDigits", "()V"⟩, 11), (⟨"TuneLocks$Reader", "readTune", "()Z"⟩, 11), (⟨"TuneLocks$Reader", "refuse", "()Z"⟩, 11), (⟨"TuneLocks$Reader", "fail", "(I)Z"⟩, 11), (⟨"TuneLocks$Reader", "take", "(I)Z"⟩, 11), (⟨"TuneLocks$Reader", "readNotes", "(LTuneLocks$Song;)Z"⟩, 11), (⟨"TuneLocks$Reader", "takeNumber", "(II)Z"⟩, 11), (⟨"TuneLocks$Reader", "readLock", "()Z"⟩, 11), (⟨"TuneLocks$Reader", "readE", "(I)Z"⟩, 11), (⟨"TuneLocks$Reader", "readBoth", "(I)Z"⟩, 11)]
theorem lw_r1 : ∀ q ∈ lw_privs_1, lw_okq q := List.forall_mem_cons.mpr ⟨lw_p0, List.forall_mem_cons.mpr ⟨lw_p1, List.forall_mem_cons.mpr ⟨lw_p2, List.forall_mem_cons.mpr ⟨lw_p3, List.forall_mem_cons.mpr ⟨lw_p4, List.forall_mem_cons.mpr ⟨lw_p5, List.forall_mem_cons.mpr ⟨lw_p6, List.forall_mem_cons.mpr ⟨lw_p7, List.forall_mem_cons.mpr ⟨lw_p8, List.forall_mem_cons.mpr ⟨lw_p9, List.forall_mem_cons.mpr ⟨lw_p10, List.forall_mem_cons.mpr ⟨lw_p11, List.forall_mem_cons.mpr ⟨lw_p12, List.forall_mem_cons.mpr ⟨lw_p13, List.forall_mem_cons.mpr ⟨lw_p14, List.forall_mem_cons.mpr ⟨lw_p15, fun _ h => absurd h List.not_mem_nil⟩⟩⟩⟩⟩⟩⟩⟩⟩⟩⟩⟩⟩⟩⟩⟩
theorem lw_p16 : lw_okq (⟨"TuneLocks$Reader", "readOne", "(I)Z"⟩, 11) := ⟨⟨by decide +kernel, by decide +kernel⟩, List.mem_of_getElem? (i := 384) (by decide +kernel), List.mem_of_getElem? (i := 562) (by decide +kernel), List.mem_of_getElem? (i := 563) (by decide +kernel)⟩
theorem lw_p17 : lw_okq (⟨"TuneLocks$Reader", "readNot", "(I)Z"⟩, 11) := ⟨⟨by decide +kernel, by decide +kernel⟩, List.mem_of_getElem? (i := 384) (by decide +kernel), List.mem_of_getElem? (i := 566) (by decide +kernel), List.mem_of_getElem? (i := 567) (by decide +kernel)⟩
theorem lw_p18 : lw_okq (⟨"TuneLocks$Reader", "readSum", "(I)Z"⟩, 11) := ⟨⟨by decide +kernel, by decide +kernel⟩, List.mem_of_getElem? (i := 384) (by decide +kernel), List.mem_of_getElem? (i := 574) (by decide +kernel), List.mem_of_getElem? (i := 575) (by decide +kernel)⟩
theorem lw_p19 : lw_okq (⟨"TuneLocks$Reader", "readUnit", "(I)Z"⟩, 11) := ⟨⟨by decide +kernel, by decide +kernel⟩, List.mem_of_getElem? (i := 384) (by decide +kernel), List.mem_of_getElem? (i := 578) (by decide +kernel), List.mem_of_getElem? (i := 579) (by decide +kernel)⟩
theorem lw_p20 : lw_okq (⟨"TuneLocks$Reader", "beginsUnit", "()Z"⟩, 11) := ⟨⟨by decide +kernel, by decide +kernel⟩, List.mem_of_getElem? (i := 384) (by decide +kernel), List.mem_of_getElem? (i := 582) (by decide +kernel), List.mem_of_getElem? (i := 583) (by decide +kernel)⟩
theorem lw_p21 : lw_okq (⟨"TuneLocks$Reader", "readSweet", "()Z"⟩, 11) := ⟨⟨by decide +kernel, by decide +kernel⟩, List.mem_of_getElem? (i := 384) (by decide +kernel), List.mem_of_getElem? (i := 586) (by decide +kernel), List.mem_of_getElem? (i := 587) (by decide +kernel)⟩
theorem lw_p22 : lw_okq (⟨"TuneLocks$Song", "outOfPace", "(ILTuneLocks$Song;I)I"⟩, 3) := ⟨⟨by decide +kernel, by decide +kernel⟩, List.mem_of_getElem? (i := 69) (by decide +kernel), List.mem_of_getElem? (i := 619) (by decide +kernel), List.mem_of_getElem? (i := 620) (by decide +kernel)⟩
theorem lw_p23 : lw_okq (⟨"TuneLocks$Hearing", "hearAt", "(III)V"⟩, 5) := ⟨⟨by decide +kernel, by decide +kernel⟩, List.mem_of_getElem? (i := 98) (by decide +kernel), List.mem_of_getElem? (i := 623) (by decide +kernel), List.mem_of_getElem? (i := 624) (by decide +kernel)⟩
theorem lw_p24 : lw_okq (⟨"TuneLocks$Town", "opensNeverWorn", "(IZ)I"⟩, 9) := ⟨⟨by decide +kernel, by decide +kernel⟩, List.mem_of_getElem? (i := 31) (by decide +kernel), List.mem_of_getElem? (i := 627) (by decide +kernel), List.mem_of_getElem? (i := 628) (by decide +kernel)⟩
theorem lw_p25 : lw_okq (⟨"TuneLocks$Questions", "push", "(I)V"⟩, 5) := ⟨⟨by decide +kernel, by decide +kernel⟩, List.mem_of_getElem? (i := 43) (by decide +kernel), List.mem_of_getElem? (i := 648) (by decide +kernel), List.mem_of_getElem? (i := 649) (by decide +kernel)⟩
theorem lw_p26 : lw_okq (⟨"TuneLocks$Questions", "pop", "()I"⟩, 5) := ⟨⟨by decide +kernel, by decide +kernel⟩, List.mem_of_getElem? (i := 43) (by decide +kernel), List.mem_of_getElem? (i := 655) (by decide +kernel), List.mem_of_getElem? (i := 656) (by decide +kernel)⟩
theorem lw_p27 : lw_okq (⟨"TuneLocks", "tellIn", "(LTuneLocks$Hearing;ILTuneLocks$Song;I)I"⟩, 14) := ⟨⟨by decide +kernel, by decide +kernel⟩, List.mem_of_getElem? (i := 23) (by decide +kernel), List.mem_of_getElem? (i := 701) (by decide +kernel), List.mem_of_getElem? (i := 702) (by decide +kernel)⟩
theorem lw_p28 : lw_okq (⟨"TuneLocks$Song", "reachOf", "(II)I"⟩, 3) := ⟨⟨by decide +kernel, by decide +kernel⟩, List.mem_of_getElem? (i := 69) (by decide +kernel), List.mem_of_getElem? (i := 813) (by decide +kernel), List.mem_of_getElem? (i := 814) (by decide +kernel)⟩
theorem lw_p29 : lw_okq (⟨"TuneLocks", "singNote", "(II)I"⟩, 14) := ⟨⟨by decide +kernel, by decide +kernel⟩, List.mem_of_getElem? (i := 23) (by decide +kernel), List.mem_of_getElem? (i := 825) (by decide +kernel), List.mem_of_getElem? (i := 826) (by decide +kernel)⟩
theorem lw_p30 : lw_okq (⟨"TuneLocks$Watches", "counts", "(II)Z"⟩, 6) := ⟨⟨by decide +kernel, by decide +kernel⟩, List.mem_of_getElem? (i := 240) (by decide +kernel), List.mem_of_getElem? (i := 888) (by decide +kernel), List.mem_of_getElem? (i := 889) (by decide +kernel)⟩
theorem lw_p31 : lw_okq (⟨"TuneLocksModel", "clearBank", "()V"⟩, 58) := ⟨⟨by decide +kernel, by decide +kernel⟩, List.mem_of_getElem? (i := 925) (by decide +kernel), List.mem_of_getElem? (i := 931) (by decide +kernel), List.mem_of_getElem? (i := 932) (by decide +kernel)⟩
def lw_privs_2 : List (MethodName × Nat) := [(⟨"TuneLocks$Reader", "readOne", "(I)Z"⟩, 11), (⟨"TuneLocks$Reader", "readNot", "(I)Z"⟩, 11), (⟨"TuneLocks$Reader", "readSum", "(I)Z"⟩, 11), (⟨"TuneLocks$Reader", "readUnit", "(I)Z"⟩, 11), (⟨"TuneLocks$Reader", "beginsUnit", "()Z"⟩, 11), (⟨"TuneLocks$Reader", "readSweet", "()Z"⟩, 11), (⟨"TuneLocks$Song", "outOfPace", "(ILTuneLocks$Song;I)I"⟩, 3), (⟨"TuneLocks$Hearing", "hearAt", "(III)V"⟩, 5), (⟨"TuneLocks$Town", "opensNeverWorn", "(IZ)I"⟩, 9), (⟨"TuneLocks$Questions", "push", "(I)V"⟩, 5), (⟨"TuneLocks$Questions", "pop", "()I"⟩, 5), (⟨"TuneLocks", "tellIn", "(LTuneLocks$Hearing;ILTuneLocks$Song;I)I"⟩, 14), (⟨"TuneLocks$Song", "reachOf", "(II)I"⟩, 3), (⟨"TuneLocks", "singNote", "(II)I"⟩, 14), (⟨"TuneLocks$Watches", "counts", "(II)Z"⟩, 6), (⟨"TuneLocksModel", "clearBank", "()V"⟩, 58)]
theorem lw_r2 : ∀ q ∈ lw_privs_2, lw_okq q := List.forall_mem_cons.mpr ⟨lw_p16, List.forall_mem_cons.mpr ⟨lw_p17, List.forall_mem_cons.mpr ⟨lw_p18, List.forall_mem_cons.mpr ⟨lw_p19, List.forall_mem_cons.mpr ⟨lw_p20, List.forall_mem_cons.mpr ⟨lw_p21, List.forall_mem_cons.mpr ⟨lw_p22, List.forall_mem_cons.mpr ⟨lw_p23, List.forall_mem_cons.mpr ⟨lw_p24, List.forall_mem_cons.mpr ⟨lw_p25, List.forall_mem_cons.mpr ⟨lw_p26, List.forall_mem_cons.mpr ⟨lw_p27, List.forall_mem_cons.mpr ⟨lw_p28, List.forall_mem_cons.mpr ⟨lw_p29, List.forall_mem_cons.mpr ⟨lw_p30, List.forall_mem_cons.mpr ⟨lw_p31, fun _ h => absurd h List.not_mem_nil⟩⟩⟩⟩⟩⟩⟩⟩⟩⟩⟩⟩⟩⟩⟩⟩
theorem lw_p32 : lw_okq (⟨"TuneLocksModel", "goOn", "()V"⟩, 58) := ⟨⟨by decide +kernel, by decide +kernel⟩, List.mem_of_getElem? (i := 925) (by decide +kernel), List.mem_of_getElem? (i := 1114) (by decide +kernel), List.mem_of_getElem? (i := 1115) (by decide +kernel)⟩
theorem lw_p33 : lw_okq (⟨"TuneLocksModel", "sign", "(I)I"⟩, 58) := ⟨⟨by decide +kernel, by decide +kernel⟩, List.mem_of_getElem? (i := 925) (by decide +kernel), List.mem_of_getElem? (i := 1118) (by decide +kernel), List.mem_of_getElem? (i := 1119) (by decide +kernel)⟩
theorem lw_p34 : lw_okq (⟨"TuneLocksModel", "isGood", "()Z"⟩, 58) := ⟨⟨by decide +kernel, by decide +kernel⟩, List.mem_of_getElem? (i := 925) (by decide +kernel), List.mem_of_getElem? (i := 1149) (by decide +kernel), List.mem_of_getElem? (i := 1150) (by decide +kernel)⟩
theorem lw_p35 : lw_okq (⟨"TuneLocksModel", "readLine", "()V"⟩, 58) := ⟨⟨by decide +kernel, by decide +kernel⟩, List.mem_of_getElem? (i := 925) (by decide +kernel), List.mem_of_getElem? (i := 1153) (by decide +kernel), List.mem_of_getElem? (i := 1154) (by decide +kernel)⟩
theorem lw_p36 : lw_okq (⟨"TuneLocksModel", "isFull", "()Z"⟩, 58) := ⟨⟨by decide +kernel, by decide +kernel⟩, List.mem_of_getElem? (i := 925) (by decide +kernel), List.mem_of_getElem? (i := 1157) (by decide +kernel), List.mem_of_getElem? (i := 1158) (by decide +kernel)⟩
theorem lw_p37 : lw_okq (⟨"TuneLocksModel", "isWord", "(J)Z"⟩, 58) := ⟨⟨by decide +kernel, by decide +kernel⟩, List.mem_of_getElem? (i := 925) (by decide +kernel), List.mem_of_getElem? (i := 1161) (by decide +kernel), List.mem_of_getElem? (i := 1162) (by decide +kernel)⟩
theorem lw_p38 : lw_okq (⟨"TuneLocksModel", "misplaced", "()V"⟩, 58) := ⟨⟨by decide +kernel, by decide +kernel⟩, List.mem_of_getElem? (i := 925) (by decide +kernel), List.mem_of_getElem? (i := 1165) (by decide +kernel), List.mem_of_getElem? (i := 1166) (by decide +kernel)⟩
theorem lw_p39 : lw_okq (⟨"TuneLocksModel", "fails", "(II)V"⟩, 58) := ⟨⟨by decide +kernel, by decide +kernel⟩, List.mem_of_getElem? (i := 925) (by decide +kernel), List.mem_of_getElem? (i := 1169) (by decide +kernel), List.mem_of_getElem? (i := 1170) (by decide +kernel)⟩
theorem lw_p40 : lw_okq (⟨"TuneLocksModel", "readTune", "()V"⟩, 58) := ⟨⟨by decide +kernel, by decide +kernel⟩, List.mem_of_getElem? (i := 925) (by decide +kernel), List.mem_of_getElem? (i := 1173) (by decide +kernel), List.mem_of_getElem? (i := 1174) (by decide +kernel)⟩
theorem lw_p41 : lw_okq (⟨"TuneLocksModel", "tuneHere", "()I"⟩, 58) := ⟨⟨by decide +kernel, by decide +kernel⟩, List.mem_of_getElem? (i := 925) (by decide +kernel), List.mem_of_getElem? (i := 1177) (by decide +kernel), List.mem_of_getElem? (i := 1178) (by decide +kernel)⟩
theorem lw_p42 : lw_okq (⟨"TuneLocksModel", "here", "([JII)I"⟩, 58) := ⟨⟨by decide +kernel, by decide +kernel⟩, List.mem_of_getElem? (i := 925) (by decide +kernel), List.mem_of_getElem? (i := 1181) (by decide +kernel), List.mem_of_getElem? (i := 1182) (by decide +kernel)⟩
theorem lw_p43 : lw_okq (⟨"TuneLocksModel", "fresh", "(Z)J"⟩, 58) := ⟨⟨by decide +kernel, by decide +kernel⟩, List.mem_of_getElem? (i := 925) (by decide +kernel), List.mem_of_getElem? (i := 1185) (by decide +kernel), List.mem_of_getElem? (i := 1186) (by decide +kernel)⟩
theorem lw_p44 : lw_okq (⟨"TuneLocksModel", "must", "(Z)V"⟩, 58) := ⟨⟨by decide +kernel, by decide +kernel⟩, List.mem_of_getElem? (i := 925) (by decide +kernel), List.mem_of_getElem? (i := 1189) (by decide +kernel), List.mem_of_getElem? (i := 1190) (by decide +kernel)⟩
theorem lw_p45 : lw_okq (⟨"TuneLocksModel", "numeral", "(II)I"⟩, 58) := ⟨⟨by decide +kernel, by decide +kernel⟩, List.mem_of_getElem? (i := 925) (by decide +kernel), List.mem_of_getElem? (i := 1193) (by decide +kernel), List.mem_of_getElem? (i := 1194) (by decide +kernel)⟩
theorem lw_p46 : lw_okq (⟨"TuneLocksModel", "readLock", "()V"⟩, 58) := ⟨⟨by decide +kernel, by decide +kernel⟩, List.mem_of_getElem? (i := 925) (by decide +kernel), List.mem_of_getElem? (i := 1197) (by decide +kernel), List.mem_of_getElem? (i := 1198) (by decide +kernel)⟩
theorem lw_p47 : lw_okq (⟨"TuneLocksModel", "e", "()V"⟩, 58) := ⟨⟨by decide +kernel, by decide +kernel⟩, List.mem_of_getElem? (i := 925) (by decide +kernel), List.mem_of_getElem? (i := 1201) (by decide +kernel), List.mem_of_getElem? (i := 1202) (by decide +kernel)⟩
def lw_privs_3 : List (MethodName × Nat) := [(⟨"TuneLocksModel", "goOn", "()V"⟩, 58), (⟨"TuneLocksModel", "sign", "(I)I"⟩, 58), (⟨"TuneLocksModel", "isGood", "()Z"⟩, 58), (⟨"TuneLocksModel", "readLine", "()V"⟩, 58), (⟨"TuneLocksModel", "isFull", "()Z"⟩, 58), (⟨"TuneLocksModel", "isWord", "(J)Z"⟩, 58), (⟨"TuneLocksModel", "misplaced", "()V"⟩, 58), (⟨"TuneLocksModel", "fails", "(II)V"⟩, 58), (⟨"TuneLocksModel", "readTune", "()V"⟩, 58), (⟨"TuneLocksModel", "tuneHere", "()I"⟩, 58), (⟨"TuneLocksModel", "here", "([JII)I"⟩, 58), (⟨"TuneLocksModel", "fresh", "(Z)J"⟩, 58), (⟨"TuneLocksModel", "must", "(Z)V"⟩, 58), (⟨"TuneLocksModel", "numeral", "(II)I"⟩, 58), (⟨"TuneLocksModel", "readLock", "()V"⟩, 58), (⟨"TuneLocksModel", "e", "()V"⟩, 58)]
theorem lw_r3 : ∀ q ∈ lw_privs_3, lw_okq q := List.forall_mem_cons.mpr ⟨lw_p32, List.forall_mem_cons.mpr ⟨lw_p33, List.forall_mem_cons.mpr ⟨lw_p34, List.forall_mem_cons.mpr ⟨lw_p35, List.forall_mem_cons.mpr ⟨lw_p36, List.forall_mem_cons.mpr ⟨lw_p37, List.forall_mem_cons.mpr ⟨lw_p38, List.forall_mem_cons.mpr ⟨lw_p39, List.forall_mem_cons.mpr ⟨lw_p40, List.forall_mem_cons.mpr ⟨lw_p41, List.forall_mem_cons.mpr ⟨lw_p42, List.forall_mem_cons.mpr ⟨lw_p43, List.forall_mem_cons.mpr ⟨lw_p44, List.forall_mem_cons.mpr ⟨lw_p45, List.forall_mem_cons.mpr ⟨lw_p46, List.forall_mem_cons.mpr ⟨lw_p47, fun _ h => absurd h List.not_mem_nil⟩⟩⟩⟩⟩⟩⟩⟩⟩⟩⟩⟩⟩⟩⟩⟩
theorem lw_p48 : lw_okq (⟨"TuneLocksModel", "pushE", "(II)V"⟩, 58) := ⟨⟨by decide +kernel, by decide +kernel⟩, List.mem_of_getElem? (i := 925) (by decide +kernel), List.mem_of_getElem? (i := 1205) (by decide +kernel), List.mem_of_getElem? (i := 1206) (by decide +kernel)⟩
theorem lw_p49 : lw_okq (⟨"TuneLocksModel", "unit", "()Z"⟩, 58) := ⟨⟨by decide +kernel, by decide +kernel⟩, List.mem_of_getElem? (i := 925) (by decide +kernel), List.mem_of_getElem? (i := 1209) (by decide +kernel), List.mem_of_getElem? (i := 1210) (by decide +kernel)⟩
theorem lw_p50 : lw_okq (⟨"TuneLocksModel", "stands", "(I)Z"⟩, 58) := ⟨⟨by decide +kernel, by decide +kernel⟩, List.mem_of_getElem? (i := 925) (by decide +kernel), List.mem_of_getElem? (i := 1213) (by decide +kernel), List.mem_of_getElem? (i := 1214) (by decide +kernel)⟩
theorem lw_p51 : lw_okq (⟨"TuneLocksModel", "wordHere", "()I"⟩, 58) := ⟨⟨by decide +kernel, by decide +kernel⟩, List.mem_of_getElem? (i := 925) (by decide +kernel), List.mem_of_getElem? (i := 1217) (by decide +kernel), List.mem_of_getElem? (i := 1218) (by decide +kernel)⟩
theorem lw_p52 : lw_okq (⟨"TuneLocksModel", "emit", "(II)V"⟩, 58) := ⟨⟨by decide +kernel, by decide +kernel⟩, List.mem_of_getElem? (i := 925) (by decide +kernel), List.mem_of_getElem? (i := 1221) (by decide +kernel), List.mem_of_getElem? (i := 1222) (by decide +kernel)⟩
theorem lw_p53 : lw_okq (⟨"TuneLocksModel", "behindUnit", "()Z"⟩, 58) := ⟨⟨by decide +kernel, by decide +kernel⟩, List.mem_of_getElem? (i := 925) (by decide +kernel), List.mem_of_getElem? (i := 1225) (by decide +kernel), List.mem_of_getElem? (i := 1226) (by decide +kernel)⟩
theorem lw_p54 : lw_okq (⟨"TuneLocksModel", "rankHere", "()I"⟩, 58) := ⟨⟨by decide +kernel, by decide +kernel⟩, List.mem_of_getElem? (i := 925) (by decide +kernel), List.mem_of_getElem? (i := 1229) (by decide +kernel), List.mem_of_getElem? (i := 1230) (by decide +kernel)⟩
theorem lw_p55 : lw_okq (⟨"TuneLocksModel", "isCompared", "()Z"⟩, 58) := ⟨⟨by decide +kernel, by decide +kernel⟩, List.mem_of_getElem? (i := 925) (by decide +kernel), List.mem_of_getElem? (i := 1233) (by decide +kernel), List.mem_of_getElem? (i := 1234) (by decide +kernel)⟩
theorem lw_p56 : lw_okq (⟨"TuneLocksModel", "readSweet", "()V"⟩, 58) := ⟨⟨by decide +kernel, by decide +kernel⟩, List.mem_of_getElem? (i := 925) (by decide +kernel), List.mem_of_getElem? (i := 1237) (by decide +kernel), List.mem_of_getElem? (i := 1238) (by decide +kernel)⟩
theorem lw_p57 : lw_okq (⟨"TuneLocksModel", "isTune", "(I)Z"⟩, 58) := ⟨⟨by decide +kernel, by decide +kernel⟩, List.mem_of_getElem? (i := 925) (by decide +kernel), List.mem_of_getElem? (i := 1249) (by decide +kernel), List.mem_of_getElem? (i := 1250) (by decide +kernel)⟩
theorem lw_p58 : lw_okq (⟨"TuneLocksModel", "songOf", "(I)I"⟩, 58) := ⟨⟨by decide +kernel, by decide +kernel⟩, List.mem_of_getElem? (i := 925) (by decide +kernel), List.mem_of_getElem? (i := 1256) (by decide +kernel), List.mem_of_getElem? (i := 1257) (by decide +kernel)⟩
theorem lw_p59 : lw_okq (⟨"TuneLocksModel", "manyOf", "(I)I"⟩, 58) := ⟨⟨by decide +kernel, by decide +kernel⟩, List.mem_of_getElem? (i := 925) (by decide +kernel), List.mem_of_getElem? (i := 1260) (by decide +kernel), List.mem_of_getElem? (i := 1261) (by decide +kernel)⟩
theorem lw_p60 : lw_okq (⟨"TuneLocksModel", "stepOf", "(II)I"⟩, 58) := ⟨⟨by decide +kernel, by decide +kernel⟩, List.mem_of_getElem? (i := 925) (by decide +kernel), List.mem_of_getElem? (i := 1268) (by decide +kernel), List.mem_of_getElem? (i := 1269) (by decide +kernel)⟩
theorem lw_p61 : lw_okq (⟨"TuneLocksModel", "offAt", "(III)I"⟩, 58) := ⟨⟨by decide +kernel, by decide +kernel⟩, List.mem_of_getElem? (i := 925) (by decide +kernel), List.mem_of_getElem? (i := 1277) (by decide +kernel), List.mem_of_getElem? (i := 1278) (by decide +kernel)⟩
theorem lw_p62 : lw_okq (⟨"TuneLocksModel", "isOutOfPace", "(IIII)Z"⟩, 58) := ⟨⟨by decide +kernel, by decide +kernel⟩, List.mem_of_getElem? (i := 925) (by decide +kernel), List.mem_of_getElem? (i := 1281) (by decide +kernel), List.mem_of_getElem? (i := 1282) (by decide +kernel)⟩
theorem lw_p63 : lw_okq (⟨"TuneLocksModel", "inWhat", "(III)I"⟩, 58) := ⟨⟨by decide +kernel, by decide +kernel⟩, List.mem_of_getElem? (i := 925) (by decide +kernel), List.mem_of_getElem? (i := 1292) (by decide +kernel), List.mem_of_getElem? (i := 1293) (by decide +kernel)⟩
def lw_privs_4 : List (MethodName × Nat) := [(⟨"TuneLocksModel", "pushE", "(II)V"⟩, 58), (⟨"TuneLocksModel", "unit", "()Z"⟩, 58), (⟨"TuneLocksModel", "stands", "(I)Z"⟩, 58), (⟨"TuneLocksModel", "wordHere", "()I"⟩, 58), (⟨"TuneLocksModel", "emit", "(II)V"⟩, 58), (⟨"TuneLocksModel", "behindUnit", "()Z"⟩, 58), (⟨"TuneLocksModel", "rankHere", "()I"⟩, 58), (⟨"TuneLocksModel", "isCompared", "()Z"⟩, 58), (⟨"TuneLocksModel", "readSweet", "()V"⟩, 58), (⟨"TuneLocksModel", "isTune", "(I)Z"⟩, 58), (⟨"TuneLocksModel", "songOf", "(I)I"⟩, 58), (⟨"TuneLocksModel", "manyOf", "(I)I"⟩, 58), (⟨"TuneLocksModel", "stepOf", "(II)I"⟩, 58), (⟨"TuneLocksModel", "offAt", "(III)I"⟩, 58), (⟨"TuneLocksModel", "isOutOfPace", "(IIII)Z"⟩, 58), (⟨"TuneLocksModel", "inWhat", "(III)I"⟩, 58)]
theorem lw_r4 : ∀ q ∈ lw_privs_4, lw_okq q := List.forall_mem_cons.mpr ⟨lw_p48, List.forall_mem_cons.mpr ⟨lw_p49, List.forall_mem_cons.mpr ⟨lw_p50, List.forall_mem_cons.mpr ⟨lw_p51, List.forall_mem_cons.mpr ⟨lw_p52, List.forall_mem_cons.mpr ⟨lw_p53, List.forall_mem_cons.mpr ⟨lw_p54, List.forall_mem_cons.mpr ⟨lw_p55, List.forall_mem_cons.mpr ⟨lw_p56, List.forall_mem_cons.mpr ⟨lw_p57, List.forall_mem_cons.mpr ⟨lw_p58, List.forall_mem_cons.mpr ⟨lw_p59, List.forall_mem_cons.mpr ⟨lw_p60, List.forall_mem_cons.mpr ⟨lw_p61, List.forall_mem_cons.mpr ⟨lw_p62, List.forall_mem_cons.mpr ⟨lw_p63, fun _ h => absurd h List.not_mem_nil⟩⟩⟩⟩⟩⟩⟩⟩⟩⟩⟩⟩⟩⟩⟩⟩
theorem lw_p64 : lw_okq (⟨"TuneLocksModel", "placeOf", "(II)I"⟩, 58) := ⟨⟨by decide +kernel, by decide +kernel⟩, List.mem_of_getElem? (i := 925) (by decide +kernel), List.mem_of_getElem? (i := 1296) (by decide +kernel), List.mem_of_getElem? (i := 1297) (by decide +kernel)⟩
theorem lw_p65 : lw_okq (⟨"TuneLocksModel", "firstOff", "(III)I"⟩, 58) := ⟨⟨by decide +kernel, by decide +kernel⟩, List.mem_of_getElem? (i := 925) (by decide +kernel), List.mem_of_getElem? (i := 1300) (by decide +kernel), List.mem_of_getElem? (i := 1301) (by decide +kernel)⟩
theorem lw_p66 : lw_okq (⟨"TuneLocksModel", "opens", "(IIZI)Z"⟩, 58) := ⟨⟨by decide +kernel, by decide +kernel⟩, List.mem_of_getElem? (i := 925) (by decide +kernel), List.mem_of_getElem? (i := 1308) (by decide +kernel), List.mem_of_getElem? (i := 1309) (by decide +kernel)⟩
theorem lw_p67 : lw_okq (⟨"TuneLocksModel", "comes", "(IIZI)I"⟩, 58) := ⟨⟨by decide +kernel, by decide +kernel⟩, List.mem_of_getElem? (i := 925) (by decide +kernel), List.mem_of_getElem? (i := 1312) (by decide +kernel), List.mem_of_getElem? (i := 1313) (by decide +kernel)⟩
theorem lw_p68 : lw_okq (⟨"TuneLocksModel", "amount", "(IIIZI)I"⟩, 58) := ⟨⟨by decide +kernel, by decide +kernel⟩, List.mem_of_getElem? (i := 925) (by decide +kernel), List.mem_of_getElem? (i := 1316) (by decide +kernel), List.mem_of_getElem? (i := 1317) (by decide +kernel)⟩
theorem lw_p69 : lw_okq (⟨"TuneLocksModel", "nearBy", "(II)I"⟩, 58) := ⟨⟨by decide +kernel, by decide +kernel⟩, List.mem_of_getElem? (i := 925) (by decide +kernel), List.mem_of_getElem? (i := 1320) (by decide +kernel), List.mem_of_getElem? (i := 1321) (by decide +kernel)⟩
theorem lw_p70 : lw_okq (⟨"TuneLocksModel", "isWithin", "(III)Z"⟩, 58) := ⟨⟨by decide +kernel, by decide +kernel⟩, List.mem_of_getElem? (i := 925) (by decide +kernel), List.mem_of_getElem? (i := 1324) (by decide +kernel), List.mem_of_getElem? (i := 1325) (by decide +kernel)⟩
theorem lw_p71 : lw_okq (⟨"TuneLocksModel", "isLock", "(I)Z"⟩, 58) := ⟨⟨by decide +kernel, by decide +kernel⟩, List.mem_of_getElem? (i := 925) (by decide +kernel), List.mem_of_getElem? (i := 1335) (by decide +kernel), List.mem_of_getElem? (i := 1336) (by decide +kernel)⟩
theorem lw_p72 : lw_okq (⟨"TuneLocksModel", "keepTunes", "(I)V"⟩, 58) := ⟨⟨by decide +kernel, by decide +kernel⟩, List.mem_of_getElem? (i := 925) (by decide +kernel), List.mem_of_getElem? (i := 1350) (by decide +kernel), List.mem_of_getElem? (i := 1351) (by decide +kernel)⟩
theorem lw_p73 : lw_okq (⟨"TuneLocksModel", "isAlike", "(II)Z"⟩, 58) := ⟨⟨by decide +kernel, by decide +kernel⟩, List.mem_of_getElem? (i := 925) (by decide +kernel), List.mem_of_getElem? (i := 1354) (by decide +kernel), List.mem_of_getElem? (i := 1355) (by decide +kernel)⟩
theorem lw_p74 : lw_okq (⟨"TuneLocksModel", "overlap", "(II)I"⟩, 58) := ⟨⟨by decide +kernel, by decide +kernel⟩, List.mem_of_getElem? (i := 925) (by decide +kernel), List.mem_of_getElem? (i := 1358) (by decide +kernel), List.mem_of_getElem? (i := 1359) (by decide +kernel)⟩
theorem lw_p75 : lw_okq (⟨"TuneLocksModel", "fits", "(III)Z"⟩, 58) := ⟨⟨by decide +kernel, by decide +kernel⟩, List.mem_of_getElem? (i := 925) (by decide +kernel), List.mem_of_getElem? (i := 1362) (by decide +kernel), List.mem_of_getElem? (i := 1363) (by decide +kernel)⟩
theorem lw_p76 : lw_okq (⟨"TuneLocksModel", "layMaster", "()V"⟩, 58) := ⟨⟨by decide +kernel, by decide +kernel⟩, List.mem_of_getElem? (i := 925) (by decide +kernel), List.mem_of_getElem? (i := 1366) (by decide +kernel), List.mem_of_getElem? (i := 1367) (by decide +kernel)⟩
theorem lw_p77 : lw_okq (⟨"TuneLocksModel", "nextRow", "()Z"⟩, 58) := ⟨⟨by decide +kernel, by decide +kernel⟩, List.mem_of_getElem? (i := 925) (by decide +kernel), List.mem_of_getElem? (i := 1370) (by decide +kernel), List.mem_of_getElem? (i := 1371) (by decide +kernel)⟩
theorem lw_p78 : lw_okq (⟨"TuneLocksModel", "roundOf", "(II)I"⟩, 58) := ⟨⟨by decide +kernel, by decide +kernel⟩, List.mem_of_getElem? (i := 925) (by decide +kernel), List.mem_of_getElem? (i := 1378) (by decide +kernel), List.mem_of_getElem? (i := 1379) (by decide +kernel)⟩
theorem lw_p79 : lw_okq (⟨"TuneLocksModel", "lengthOf", "(I)I"⟩, 58) := ⟨⟨by decide +kernel, by decide +kernel⟩, List.mem_of_getElem? (i := 925) (by decide +kernel), List.mem_of_getElem? (i := 1382) (by decide +kernel), List.mem_of_getElem? (i := 1383) (by decide +kernel)⟩
def lw_privs_5 : List (MethodName × Nat) := [(⟨"TuneLocksModel", "placeOf", "(II)I"⟩, 58), (⟨"TuneLocksModel", "firstOff", "(III)I"⟩, 58), (⟨"TuneLocksModel", "opens", "(IIZI)Z"⟩, 58), (⟨"TuneLocksModel", "comes", "(IIZI)I"⟩, 58), (⟨"TuneLocksModel", "amount", "(IIIZI)I"⟩, 58), (⟨"TuneLocksModel", "nearBy", "(II)I"⟩, 58), (⟨"TuneLocksModel", "isWithin", "(III)Z"⟩, 58), (⟨"TuneLocksModel", "isLock", "(I)Z"⟩, 58), (⟨"TuneLocksModel", "keepTunes", "(I)V"⟩, 58), (⟨"TuneLocksModel", "isAlike", "(II)Z"⟩, 58), (⟨"TuneLocksModel", "overlap", "(II)I"⟩, 58), (⟨"TuneLocksModel", "fits", "(III)Z"⟩, 58), (⟨"TuneLocksModel", "layMaster", "()V"⟩, 58), (⟨"TuneLocksModel", "nextRow", "()Z"⟩, 58), (⟨"TuneLocksModel", "roundOf", "(II)I"⟩, 58), (⟨"TuneLocksModel", "lengthOf", "(I)I"⟩, 58)]
theorem lw_r5 : ∀ q ∈ lw_privs_5, lw_okq q := List.forall_mem_cons.mpr ⟨lw_p64, List.forall_mem_cons.mpr ⟨lw_p65, List.forall_mem_cons.mpr ⟨lw_p66, List.forall_mem_cons.mpr ⟨lw_p67, List.forall_mem_cons.mpr ⟨lw_p68, List.forall_mem_cons.mpr ⟨lw_p69, List.forall_mem_cons.mpr ⟨lw_p70, List.forall_mem_cons.mpr ⟨lw_p71, List.forall_mem_cons.mpr ⟨lw_p72, List.forall_mem_cons.mpr ⟨lw_p73, List.forall_mem_cons.mpr ⟨lw_p74, List.forall_mem_cons.mpr ⟨lw_p75, List.forall_mem_cons.mpr ⟨lw_p76, List.forall_mem_cons.mpr ⟨lw_p77, List.forall_mem_cons.mpr ⟨lw_p78, List.forall_mem_cons.mpr ⟨lw_p79, fun _ h => absurd h List.not_mem_nil⟩⟩⟩⟩⟩⟩⟩⟩⟩⟩⟩⟩⟩⟩⟩⟩
theorem lw_p80 : lw_okq (⟨"TuneLocksModel", "highAt", "(II)I"⟩, 58) := ⟨⟨by decide +kernel, by decide +kernel⟩, List.mem_of_getElem? (i := 925) (by decide +kernel), List.mem_of_getElem? (i := 1386) (by decide +kernel), List.mem_of_getElem? (i := 1387) (by decide +kernel)⟩
theorem lw_p81 : lw_okq (⟨"TuneLocksModel", "deafAt", "(IIII)I"⟩, 58) := ⟨⟨by decide +kernel, by decide +kernel⟩, List.mem_of_getElem? (i := 925) (by decide +kernel), List.mem_of_getElem? (i := 1398) (by decide +kernel), List.mem_of_getElem? (i := 1399) (by decide +kernel)⟩
theorem lw_p82 : lw_okq (⟨"TuneLocksModel", "moved", "(IIII)I"⟩, 58) := ⟨⟨by decide +kernel, by decide +kernel⟩, List.mem_of_getElem? (i := 925) (by decide +kernel), List.mem_of_getElem? (i := 1402) (by decide +kernel), List.mem_of_getElem? (i := 1403) (by decide +kernel)⟩
def lw_privs_6 : List (MethodName × Nat) := [(⟨"TuneLocksModel", "highAt", "(II)I"⟩, 58), (⟨"TuneLocksModel", "deafAt", "(IIII)I"⟩, 58), (⟨"TuneLocksModel", "moved", "(IIII)I"⟩, 58)]
theorem lw_r6 : ∀ q ∈ lw_privs_6, lw_okq q := List.forall_mem_cons.mpr ⟨lw_p80, List.forall_mem_cons.mpr ⟨lw_p81, List.forall_mem_cons.mpr ⟨lw_p82, fun _ h => absurd h List.not_mem_nil⟩⟩⟩
def lw_privs : List (MethodName × Nat) := lw_privs_1 ++ (lw_privs_2 ++ (lw_privs_3 ++ (lw_privs_4 ++ (lw_privs_5 ++ (lw_privs_6)))))
def lw_tbl : List Cond := k2_sels lw_privs ++ tables_1
theorem lw_privs_ok : ∀ q ∈ lw_privs, lw_okq q := by
  show ∀ q ∈ lw_privs_1 ++ (lw_privs_2 ++ (lw_privs_3 ++ (lw_privs_4 ++ (lw_privs_5 ++ (lw_privs_6))))), lw_okq q
  exact List.forall_mem_append.mpr ⟨lw_r1, List.forall_mem_append.mpr ⟨lw_r2, List.forall_mem_append.mpr ⟨lw_r3, List.forall_mem_append.mpr ⟨lw_r4, List.forall_mem_append.mpr ⟨lw_r5, lw_r6⟩⟩⟩⟩⟩
end
section
def RX0 : String := "TuneLocks$Canon"
def TX0 : u_T := fun k => match k with
  | 0 => ("TuneLocks$Canon", "moments", "[I", true)
  | _ => ("TuneLocks$Canon", "count", "I", false)
def tyX0 : Nat → FieldType := fun k => match k with
  | 0 => .array .int
  | _ => .int
abbrev wsX00 : List Cond := u_ws RX0 TX0 2
theorem nmX0 : ∀ a, a < 2 → ∀ b, b < 2 → a ≠ b → (TX0 a).2.1 ≠ (TX0 b).2.1 := by decide +kernel
theorem tyX0_ok : ∀ k, k < 2 → parseFieldDescriptor (TX0 k).2.2.1 = some (tyX0 k) := by decide +kernel
abbrev cX0_init : ByteArray := prog_2_method_1_code
def yX0_init : MethodName := ⟨RX0, "<init>", "()V"⟩
abbrev cX0_take : ByteArray := prog_2_method_2_code
def yX0_take : MethodName := ⟨RX0, "take", "(LTuneLocks$Song;)V"⟩
abbrev cX0_notSweet : ByteArray := prog_2_method_3_code
def yX0_notSweet : MethodName := ⟨RX0, "notSweet", "(I[Z)I"⟩
abbrev cX0_bestLater : ByteArray := prog_2_method_4_code
def yX0_bestLater : MethodName := ⟨RX0, "bestLater", "([Z)I"⟩
def RX1 : String := "TuneLocks$Deal"
def TX1 : u_T := fun k => match k with
  | 0 => ("TuneLocks$Deal", "nearBits", "[I", true)
  | 1 => ("TuneLocks$Deal", "best", "I", false)
  | _ => ("TuneLocks$Deal", "bestSize", "I", false)
def tyX1 : Nat → FieldType := fun k => match k with
  | 0 => .array .int
  | 1 => .int
  | _ => .int
abbrev wsX10 : List Cond := u_ws RX1 TX1 3
theorem nmX1 : ∀ a, a < 3 → ∀ b, b < 3 → a ≠ b → (TX1 a).2.1 ≠ (TX1 b).2.1 := by decide +kernel
theorem tyX1_ok : ∀ k, k < 3 → parseFieldDescriptor (TX1 k).2.2.1 = some (tyX1 k) := by decide +kernel
abbrev cX1_init : ByteArray := prog_3_method_1_code
def yX1_init : MethodName := ⟨RX1, "<init>", "()V"⟩
abbrev cX1_choose : ByteArray := prog_3_method_2_code
def yX1_choose : MethodName := ⟨RX1, "choose", "(LTuneLocks$Town;I)I"⟩
abbrev cX1_pick : ByteArray := prog_3_method_3_code
def yX1_pick : MethodName := ⟨RX1, "pick", "(LTuneLocks$Deal;III)V"⟩
def RX2 : String := "TuneLocks$Hearing"
def TX2 : u_T := fun k => match k with
  | 0 => ("TuneLocks$Hearing", "place", "[I", true)
  | 1 => ("TuneLocks$Hearing", "least", "[I", true)
  | 2 => ("TuneLocks$Hearing", "atFirst", "[I", true)
  | 3 => ("TuneLocks$Hearing", "atLast", "[I", true)
  | _ => ("TuneLocks$Hearing", "notes", "I", false)
def tyX2 : Nat → FieldType := fun k => match k with
  | 0 => .array .int
  | 1 => .array .int
  | 2 => .array .int
  | 3 => .array .int
  | _ => .int
abbrev wsX20 : List Cond := u_ws RX2 TX2 5
theorem nmX2 : ∀ a, a < 5 → ∀ b, b < 5 → a ≠ b → (TX2 a).2.1 ≠ (TX2 b).2.1 := by decide +kernel
theorem tyX2_ok : ∀ k, k < 5 → parseFieldDescriptor (TX2 k).2.2.1 = some (tyX2 k) := by decide +kernel
abbrev cX2_init : ByteArray := prog_4_method_1_code
def yX2_init : MethodName := ⟨RX2, "<init>", "()V"⟩
abbrev cX2_hearAll : ByteArray := prog_4_method_2_code
def yX2_hearAll : MethodName := ⟨RX2, "hearAll", "(LTuneLocks$Song;LTuneLocks$Town;)V"⟩
abbrev cX2_hearLast : ByteArray := prog_4_method_3_code
def yX2_hearLast : MethodName := ⟨RX2, "hearLast", "(LTuneLocks$Song;LTuneLocks$Town;)V"⟩
abbrev cX2_hearAt : ByteArray := prog_4_method_4_code
def yX2_hearAt : MethodName := ⟨RX2, "hearAt", "(III)V"⟩
def RX3 : String := "TuneLocks$Laying"
def TX3 : u_T := fun k => match k with
  | 0 => ("TuneLocks$Laying", "members", "[I", true)
  | 1 => ("TuneLocks$Laying", "lengths", "[I", true)
  | 2 => ("TuneLocks$Laying", "count", "I", false)
  | 3 => ("TuneLocks$Laying", "overlaps", "[[I", true)
  | 4 => ("TuneLocks$Laying", "row", "[I", true)
  | 5 => ("TuneLocks$Laying", "bestRow", "[I", true)
  | _ => ("TuneLocks$Laying", "fewest", "I", false)
def tyX3 : Nat → FieldType := fun k => match k with
  | 0 => .array .int
  | 1 => .array .int
  | 2 => .int
  | 3 => .array (.array .int)
  | 4 => .array .int
  | 5 => .array .int
  | _ => .int
abbrev wsX30 : List Cond := u_ws RX3 TX3 7
theorem nmX3 : ∀ a, a < 7 → ∀ b, b < 7 → a ≠ b → (TX3 a).2.1 ≠ (TX3 b).2.1 := by decide +kernel
theorem tyX3_ok : ∀ k, k < 7 → parseFieldDescriptor (TX3 k).2.2.1 = some (tyX3 k) := by decide +kernel
abbrev cX3_init : ByteArray := prog_5_method_1_code
def yX3_init : MethodName := ⟨RX3, "<init>", "()V"⟩
abbrev cX3_fewestNotes : ByteArray := prog_5_method_2_code
def yX3_fewestNotes : MethodName := ⟨RX3, "fewestNotes", "()I"⟩
abbrev cX3_laidAt : ByteArray := prog_5_method_3_code
def yX3_laidAt : MethodName := ⟨RX3, "laidAt", "(I)I"⟩
abbrev cX3_lay : ByteArray := prog_5_method_4_code
def yX3_lay : MethodName := ⟨RX3, "lay", "(LTuneLocks$Town;I)V"⟩
abbrev cX3_isLeftOut : ByteArray := prog_5_method_5_code
def yX3_isLeftOut : MethodName := ⟨RX3, "isLeftOut", "(LTuneLocks$Town;II)Z"⟩
abbrev cX3_overlap : ByteArray := prog_5_method_6_code
def yX3_overlap : MethodName := ⟨RX3, "overlap", "(LTuneLocks$Song;LTuneLocks$Song;)I"⟩
abbrev cX3_layNext : ByteArray := prog_5_method_7_code
def yX3_layNext : MethodName := ⟨RX3, "layNext", "(LTuneLocks$Laying;III)V"⟩
def RX4 : String := "TuneLocks$Lock"
def TX4 : u_T := fun k => match k with
  | 0 => ("TuneLocks$Lock", "name", "J", false)
  | 1 => ("TuneLocks$Lock", "near", "I", false)
  | 2 => ("TuneLocks$Lock", "from", "I", false)
  | 3 => ("TuneLocks$Lock", "to", "I", false)
  | 4 => ("TuneLocks$Lock", "toldByDay", "I", false)
  | _ => ("TuneLocks$Lock", "toldAtNight", "I", false)
def tyX4 : Nat → FieldType := fun k => match k with
  | 0 => .long
  | 1 => .int
  | 2 => .int
  | 3 => .int
  | 4 => .int
  | _ => .int
abbrev wsX40 : List Cond := u_ws RX4 TX4 6
theorem nmX4 : ∀ a, a < 6 → ∀ b, b < 6 → a ≠ b → (TX4 a).2.1 ≠ (TX4 b).2.1 := by decide +kernel
theorem tyX4_ok : ∀ k, k < 6 → parseFieldDescriptor (TX4 k).2.2.1 = some (tyX4 k) := by decide +kernel
abbrev cX4_init : ByteArray := prog_6_method_1_code
def yX4_init : MethodName := ⟨RX4, "<init>", "()V"⟩
abbrev cX4_nearWorn : ByteArray := prog_6_method_2_code
def yX4_nearWorn : MethodName := ⟨RX4, "nearWorn", "(I)I"⟩
abbrev cX4_opensToldBits : ByteArray := prog_6_method_3_code
def yX4_opensToldBits : MethodName := ⟨RX4, "opensToldBits", "(Z)I"⟩
def RX5 : String := "TuneLocks$Questions"
def TX5 : u_T := fun k => match k with
  | 0 => ("TuneLocks$Questions", "sorts", "[I", true)
  | 1 => ("TuneLocks$Questions", "values", "[I", true)
  | 2 => ("TuneLocks$Questions", "count", "I", false)
  | 3 => ("TuneLocks$Questions", "stack", "[I", true)
  | _ => ("TuneLocks$Questions", "top", "I", false)
def tyX5 : Nat → FieldType := fun k => match k with
  | 0 => .array .int
  | 1 => .array .int
  | 2 => .int
  | 3 => .array .int
  | _ => .int
abbrev wsX50 : List Cond := u_ws RX5 TX5 5
theorem nmX5 : ∀ a, a < 5 → ∀ b, b < 5 → a ≠ b → (TX5 a).2.1 ≠ (TX5 b).2.1 := by decide +kernel
theorem tyX5_ok : ∀ k, k < 5 → parseFieldDescriptor (TX5 k).2.2.1 = some (tyX5 k) := by decide +kernel
abbrev cX5_init : ByteArray := prog_7_method_1_code
def yX5_init : MethodName := ⟨RX5, "<init>", "()V"⟩
abbrev cX5_add : ByteArray := prog_7_method_2_code
def yX5_add : MethodName := ⟨RX5, "add", "(II)V"⟩
abbrev cX5_answer : ByteArray := prog_7_method_3_code
def yX5_answer : MethodName := ⟨RX5, "answer", "(LTuneLocks$Lock;LTuneLocks$Hearing;ZI)I"⟩
abbrev cX5_push : ByteArray := prog_7_method_4_code
def yX5_push : MethodName := ⟨RX5, "push", "(I)V"⟩
abbrev cX5_pop : ByteArray := prog_7_method_5_code
def yX5_pop : MethodName := ⟨RX5, "pop", "()I"⟩
abbrev cX5_isNear : ByteArray := prog_7_method_6_code
def yX5_isNear : MethodName := ⟨RX5, "isNear", "([III)I"⟩
abbrev cX5_join : ByteArray := prog_7_method_7_code
def yX5_join : MethodName := ⟨RX5, "join", "(III)I"⟩
def RX6 : String := "TuneLocks$Reader"
def TX6 : u_T := fun k => match k with
  | 0 => ("TuneLocks$Reader", "text", "[B", true)
  | 1 => ("TuneLocks$Reader", "size", "I", true)
  | 2 => ("TuneLocks$Reader", "town", "LTuneLocks$Town;", true)
  | 3 => ("TuneLocks$Reader", "at", "I", false)
  | 4 => ("TuneLocks$Reader", "sort", "I", false)
  | 5 => ("TuneLocks$Reader", "place", "I", false)
  | 6 => ("TuneLocks$Reader", "number", "I", false)
  | 7 => ("TuneLocks$Reader", "word", "J", false)
  | 8 => ("TuneLocks$Reader", "sweetTold", "Z", false)
  | 9 => ("TuneLocks$Reader", "fault", "I", false)
  | _ => ("TuneLocks$Reader", "faultPlace", "I", false)
def tyX6 : Nat → FieldType := fun k => match k with
  | 0 => .array .byte
  | 1 => .int
  | 2 => .object "TuneLocks$Town"
  | 3 => .int
  | 4 => .int
  | 5 => .int
  | 6 => .int
  | 7 => .long
  | 8 => .boolean
  | 9 => .int
  | _ => .int
abbrev wsX60 : List Cond := u_ws RX6 TX6 11
theorem nmX6 : ∀ a, a < 11 → ∀ b, b < 11 → a ≠ b → (TX6 a).2.1 ≠ (TX6 b).2.1 := by decide +kernel
theorem tyX6_ok : ∀ k, k < 11 → parseFieldDescriptor (TX6 k).2.2.1 = some (tyX6 k) := by decide +kernel
abbrev cX6_init : ByteArray := prog_8_method_1_code
def yX6_init : MethodName := ⟨RX6, "<init>", "([BILTuneLocks$Town;)V"⟩
abbrev cX6_readTown : ByteArray := prog_8_method_2_code
def yX6_readTown : MethodName := ⟨RX6, "readTown", "()Z"⟩
abbrev cX6_readTune : ByteArray := prog_8_method_3_code
def yX6_readTune : MethodName := ⟨RX6, "readTune", "()Z"⟩
abbrev cX6_readNotes : ByteArray := prog_8_method_4_code
def yX6_readNotes : MethodName := ⟨RX6, "readNotes", "(LTuneLocks$Song;)Z"⟩
abbrev cX6_readLock : ByteArray := prog_8_method_5_code
def yX6_readLock : MethodName := ⟨RX6, "readLock", "()Z"⟩
abbrev cX6_readSweet : ByteArray := prog_8_method_6_code
def yX6_readSweet : MethodName := ⟨RX6, "readSweet", "()Z"⟩
abbrev cX6_readE : ByteArray := prog_8_method_7_code
def yX6_readE : MethodName := ⟨RX6, "readE", "(I)Z"⟩
abbrev cX6_readBoth : ByteArray := prog_8_method_8_code
def yX6_readBoth : MethodName := ⟨RX6, "readBoth", "(I)Z"⟩
abbrev cX6_readOne : ByteArray := prog_8_method_9_code
def yX6_readOne : MethodName := ⟨RX6, "readOne", "(I)Z"⟩
abbrev cX6_readNot : ByteArray := prog_8_method_10_code
def yX6_readNot : MethodName := ⟨RX6, "readNot", "(I)Z"⟩
abbrev cX6_readSum : ByteArray := prog_8_method_11_code
def yX6_readSum : MethodName := ⟨RX6, "readSum", "(I)Z"⟩
abbrev cX6_readUnit : ByteArray := prog_8_method_12_code
def yX6_readUnit : MethodName := ⟨RX6, "readUnit", "(I)Z"⟩
abbrev cX6_beginsUnit : ByteArray := prog_8_method_13_code
def yX6_beginsUnit : MethodName := ⟨RX6, "beginsUnit", "()Z"⟩
abbrev cX6_take : ByteArray := prog_8_method_14_code
def yX6_take : MethodName := ⟨RX6, "take", "(I)Z"⟩
abbrev cX6_takeNumber : ByteArray := prog_8_method_15_code
def yX6_takeNumber : MethodName := ⟨RX6, "takeNumber", "(II)Z"⟩
abbrev cX6_refuse : ByteArray := prog_8_method_16_code
def yX6_refuse : MethodName := ⟨RX6, "refuse", "()Z"⟩
abbrev cX6_fail : ByteArray := prog_8_method_17_code
def yX6_fail : MethodName := ⟨RX6, "fail", "(I)Z"⟩
abbrev cX6_takeToken : ByteArray := prog_8_method_18_code
def yX6_takeToken : MethodName := ⟨RX6, "takeToken", "()V"⟩
abbrev cX6_takeLetters : ByteArray := prog_8_method_19_code
def yX6_takeLetters : MethodName := ⟨RX6, "takeLetters", "()V"⟩
abbrev cX6_takeDigits : ByteArray := prog_8_method_20_code
def yX6_takeDigits : MethodName := ⟨RX6, "takeDigits", "()V"⟩
abbrev cX6_sortOfWord : ByteArray := prog_8_method_21_code
def yX6_sortOfWord : MethodName := ⟨RX6, "sortOfWord", "(I)I"⟩
abbrev cX6_letterAt : ByteArray := prog_8_method_22_code
def yX6_letterAt : MethodName := ⟨RX6, "letterAt", "(I)Z"⟩
abbrev cX6_digitAt : ByteArray := prog_8_method_23_code
def yX6_digitAt : MethodName := ⟨RX6, "digitAt", "(I)Z"⟩
abbrev cX6_isSign : ByteArray := prog_8_method_24_code
def yX6_isSign : MethodName := ⟨RX6, "isSign", "(I)Z"⟩
def RX7 : String := "TuneLocks$Scene"
def TX7 : u_T := fun k => match k with
  | 0 => ("TuneLocks$Scene", "voice", "LTuneLocks$Song;", true)
  | 1 => ("TuneLocks$Scene", "atNight", "Z", false)
  | 2 => ("TuneLocks$Scene", "open", "I", false)
  | 3 => ("TuneLocks$Scene", "worn", "[I", true)
  | _ => ("TuneLocks$Scene", "kept", "Z", false)
def tyX7 : Nat → FieldType := fun k => match k with
  | 0 => .object "TuneLocks$Song"
  | 1 => .boolean
  | 2 => .int
  | 3 => .array .int
  | _ => .boolean
abbrev wsX70 : List Cond := u_ws RX7 TX7 5
theorem nmX7 : ∀ a, a < 5 → ∀ b, b < 5 → a ≠ b → (TX7 a).2.1 ≠ (TX7 b).2.1 := by decide +kernel
theorem tyX7_ok : ∀ k, k < 5 → parseFieldDescriptor (TX7 k).2.2.1 = some (tyX7 k) := by decide +kernel
abbrev cX7_init : ByteArray := prog_9_method_1_code
def yX7_init : MethodName := ⟨RX7, "<init>", "()V"⟩
abbrev cX7_clear : ByteArray := prog_9_method_2_code
def yX7_clear : MethodName := ⟨RX7, "clear", "()V"⟩
abbrev cX7_becomeLike : ByteArray := prog_9_method_3_code
def yX7_becomeLike : MethodName := ⟨RX7, "becomeLike", "(LTuneLocks$Scene;)V"⟩
def RX8 : String := "TuneLocks$Song"
def TX8 : u_T := fun k => match k with
  | 0 => ("TuneLocks$Song", "high", "[I", true)
  | 1 => ("TuneLocks$Song", "length", "[I", true)
  | _ => ("TuneLocks$Song", "count", "I", false)
def tyX8 : Nat → FieldType := fun k => match k with
  | 0 => .array .int
  | 1 => .array .int
  | _ => .int
abbrev wsX80 : List Cond := u_ws RX8 TX8 3
theorem nmX8 : ∀ a, a < 3 → ∀ b, b < 3 → a ≠ b → (TX8 a).2.1 ≠ (TX8 b).2.1 := by decide +kernel
theorem tyX8_ok : ∀ k, k < 3 → parseFieldDescriptor (TX8 k).2.2.1 = some (tyX8 k) := by decide +kernel
abbrev cX8_init : ByteArray := prog_10_method_1_code
def yX8_init : MethodName := ⟨RX8, "<init>", "(I)V"⟩
abbrev cX8_add : ByteArray := prog_10_method_2_code
def yX8_add : MethodName := ⟨RX8, "add", "(II)V"⟩
abbrev cX8_becomeLike : ByteArray := prog_10_method_3_code
def yX8_becomeLike : MethodName := ⟨RX8, "becomeLike", "(LTuneLocks$Song;)V"⟩
abbrev cX8_riseTo : ByteArray := prog_10_method_4_code
def yX8_riseTo : MethodName := ⟨RX8, "riseTo", "(I)I"⟩
abbrev cX8_offAt : ByteArray := prog_10_method_5_code
def yX8_offAt : MethodName := ⟨RX8, "offAt", "(LTuneLocks$Song;I)I"⟩
abbrev cX8_offOfFirst : ByteArray := prog_10_method_6_code
def yX8_offOfFirst : MethodName := ⟨RX8, "offOfFirst", "(ILTuneLocks$Song;I)I"⟩
abbrev cX8_outOfPace : ByteArray := prog_10_method_7_code
def yX8_outOfPace : MethodName := ⟨RX8, "outOfPace", "(ILTuneLocks$Song;I)I"⟩
abbrev cX8_firstOffAt : ByteArray := prog_10_method_8_code
def yX8_firstOffAt : MethodName := ⟨RX8, "firstOffAt", "(LTuneLocks$Song;I)I"⟩
abbrev cX8_deafOffAt : ByteArray := prog_10_method_9_code
def yX8_deafOffAt : MethodName := ⟨RX8, "deafOffAt", "(LTuneLocks$Song;II)I"⟩
abbrev cX8_reachOf : ByteArray := prog_10_method_10_code
def yX8_reachOf : MethodName := ⟨RX8, "reachOf", "(II)I"⟩
def RX9 : String := "TuneLocks$Town"
def TX9 : u_T := fun k => match k with
  | 0 => ("TuneLocks$Town", "tunes", "[LTuneLocks$Song;", true)
  | 1 => ("TuneLocks$Town", "tuneNames", "[J", true)
  | 2 => ("TuneLocks$Town", "hearings", "[LTuneLocks$Hearing;", true)
  | 3 => ("TuneLocks$Town", "tuneCount", "I", false)
  | 4 => ("TuneLocks$Town", "locks", "[LTuneLocks$Lock;", true)
  | 5 => ("TuneLocks$Town", "lockCount", "I", false)
  | 6 => ("TuneLocks$Town", "questions", "LTuneLocks$Questions;", true)
  | 7 => ("TuneLocks$Town", "units", "I", false)
  | _ => ("TuneLocks$Town", "sweet", "[Z", true)
def tyX9 : Nat → FieldType := fun k => match k with
  | 0 => .array (.object "TuneLocks$Song")
  | 1 => .array .long
  | 2 => .array (.object "TuneLocks$Hearing")
  | 3 => .int
  | 4 => .array (.object "TuneLocks$Lock")
  | 5 => .int
  | 6 => .object "TuneLocks$Questions"
  | 7 => .int
  | _ => .array .boolean
abbrev wsX90 : List Cond := u_ws RX9 TX9 9
theorem nmX9 : ∀ a, a < 9 → ∀ b, b < 9 → a ≠ b → (TX9 a).2.1 ≠ (TX9 b).2.1 := by decide +kernel
theorem tyX9_ok : ∀ k, k < 9 → parseFieldDescriptor (TX9 k).2.2.1 = some (tyX9 k) := by decide +kernel
abbrev cX9_init : ByteArray := prog_11_method_1_code
def yX9_init : MethodName := ⟨RX9, "<init>", "()V"⟩
abbrev cX9_clear : ByteArray := prog_11_method_2_code
def yX9_clear : MethodName := ⟨RX9, "clear", "()V"⟩
abbrev cX9_sweetenUntold : ByteArray := prog_11_method_3_code
def yX9_sweetenUntold : MethodName := ⟨RX9, "sweetenUntold", "()V"⟩
abbrev cX9_hasTune : ByteArray := prog_11_method_4_code
def yX9_hasTune : MethodName := ⟨RX9, "hasTune", "(I)Z"⟩
abbrev cX9_hasLock : ByteArray := prog_11_method_5_code
def yX9_hasLock : MethodName := ⟨RX9, "hasLock", "(I)Z"⟩
abbrev cX9_tuneNamed : ByteArray := prog_11_method_6_code
def yX9_tuneNamed : MethodName := ⟨RX9, "tuneNamed", "(J)I"⟩
abbrev cX9_hasLockNamed : ByteArray := prog_11_method_7_code
def yX9_hasLockNamed : MethodName := ⟨RX9, "hasLockNamed", "(J)Z"⟩
abbrev cX9_prepare : ByteArray := prog_11_method_8_code
def yX9_prepare : MethodName := ⟨RX9, "prepare", "()V"⟩
abbrev cX9_opensNeverWorn : ByteArray := prog_11_method_9_code
def yX9_opensNeverWorn : MethodName := ⟨RX9, "opensNeverWorn", "(IZ)I"⟩
abbrev cX9_ask : ByteArray := prog_11_method_10_code
def yX9_ask : MethodName := ⟨RX9, "ask", "(ILTuneLocks$Hearing;ZI)I"⟩
abbrev cX9_opensTo : ByteArray := prog_11_method_11_code
def yX9_opensTo : MethodName := ⟨RX9, "opensTo", "(ILTuneLocks$Hearing;ZI)Z"⟩
abbrev cX9_isNear : ByteArray := prog_11_method_12_code
def yX9_isNear : MethodName := ⟨RX9, "isNear", "(III)Z"⟩
abbrev cX9_isIn : ByteArray := prog_11_method_13_code
def yX9_isIn : MethodName := ⟨RX9, "isIn", "(III)Z"⟩
def RX10 : String := "TuneLocks$Watches"
def TX10 : u_T := fun k => match k with
  | 0 => ("TuneLocks$Watches", "watched", "[I", true)
  | 1 => ("TuneLocks$Watches", "atNight", "[Z", true)
  | 2 => ("TuneLocks$Watches", "didOpen", "[Z", true)
  | 3 => ("TuneLocks$Watches", "toldAt", "[I", true)
  | 4 => ("TuneLocks$Watches", "untoldAt", "[I", true)
  | _ => ("TuneLocks$Watches", "count", "I", false)
def tyX10 : Nat → FieldType := fun k => match k with
  | 0 => .array .int
  | 1 => .array .boolean
  | 2 => .array .boolean
  | 3 => .array .int
  | 4 => .array .int
  | _ => .int
abbrev wsX100 : List Cond := u_ws RX10 TX10 6
theorem nmX10 : ∀ a, a < 6 → ∀ b, b < 6 → a ≠ b → (TX10 a).2.1 ≠ (TX10 b).2.1 := by decide +kernel
theorem tyX10_ok : ∀ k, k < 6 → parseFieldDescriptor (TX10 k).2.2.1 = some (tyX10 k) := by decide +kernel
abbrev cX10_init : ByteArray := prog_12_method_1_code
def yX10_init : MethodName := ⟨RX10, "<init>", "()V"⟩
abbrev cX10_clear : ByteArray := prog_12_method_2_code
def yX10_clear : MethodName := ⟨RX10, "clear", "()V"⟩
abbrev cX10_tell : ByteArray := prog_12_method_3_code
def yX10_tell : MethodName := ⟨RX10, "tell", "(IZZI)I"⟩
abbrev cX10_takeBack : ByteArray := prog_12_method_4_code
def yX10_takeBack : MethodName := ⟨RX10, "takeBack", "(II)Z"⟩
abbrev cX10_counts : ByteArray := prog_12_method_5_code
def yX10_counts : MethodName := ⟨RX10, "counts", "(II)Z"⟩
abbrev cX10_leftAt : ByteArray := prog_12_method_6_code
def yX10_leftAt : MethodName := ⟨RX10, "leftAt", "(ILTuneLocks$Town;)I"⟩
def RX11 : String := "TuneLocks"
def TX11 : u_T := fun k => match k with
  | 0 => ("TuneLocks", "tape", "[B", true)
  | 1 => ("TuneLocks", "tapeSize", "I", false)
  | 2 => ("TuneLocks", "here", "LTuneLocks$Town;", false)
  | 3 => ("TuneLocks", "spare", "LTuneLocks$Town;", false)
  | 4 => ("TuneLocks", "latestFault", "I", false)
  | 5 => ("TuneLocks", "latestPlace", "I", false)
  | 6 => ("TuneLocks", "now", "LTuneLocks$Scene;", true)
  | 7 => ("TuneLocks", "boxes", "[LTuneLocks$Scene;", true)
  | 8 => ("TuneLocks", "ear", "LTuneLocks$Hearing;", true)
  | 9 => ("TuneLocks", "watches", "LTuneLocks$Watches;", true)
  | 10 => ("TuneLocks", "time", "I", false)
  | 11 => ("TuneLocks", "deal", "LTuneLocks$Deal;", true)
  | 12 => ("TuneLocks", "laying", "LTuneLocks$Laying;", true)
  | _ => ("TuneLocks", "canon", "LTuneLocks$Canon;", true)
def tyX11 : Nat → FieldType := fun k => match k with
  | 0 => .array .byte
  | 1 => .int
  | 2 => .object "TuneLocks$Town"
  | 3 => .object "TuneLocks$Town"
  | 4 => .int
  | 5 => .int
  | 6 => .object "TuneLocks$Scene"
  | 7 => .array (.object "TuneLocks$Scene")
  | 8 => .object "TuneLocks$Hearing"
  | 9 => .object "TuneLocks$Watches"
  | 10 => .int
  | 11 => .object "TuneLocks$Deal"
  | 12 => .object "TuneLocks$Laying"
  | _ => .object "TuneLocks$Canon"
abbrev wsX110 : List Cond := u_ws RX11 TX11 14
theorem nmX11 : ∀ a, a < 14 → ∀ b, b < 14 → a ≠ b → (TX11 a).2.1 ≠ (TX11 b).2.1 := by decide +kernel
theorem tyX11_ok : ∀ k, k < 14 → parseFieldDescriptor (TX11 k).2.2.1 = some (tyX11 k) := by decide +kernel
abbrev cX11_init : ByteArray := prog_1_method_1_code
def yX11_init : MethodName := ⟨RX11, "<init>", "()V"⟩
abbrev cX11_feed : ByteArray := prog_1_method_2_code
def yX11_feed : MethodName := ⟨RX11, "feed", "(IIIII)I"⟩
abbrev cX11_putNumber : ByteArray := prog_1_method_3_code
def yX11_putNumber : MethodName := ⟨RX11, "putNumber", "(I)V"⟩
abbrev cX11_end : ByteArray := prog_1_method_4_code
def yX11_end : MethodName := ⟨RX11, "end", "(I)I"⟩
abbrev cX11_town : ByteArray := prog_1_method_5_code
def yX11_town : MethodName := ⟨RX11, "town", "()I"⟩
abbrev cX11_fault : ByteArray := prog_1_method_6_code
def yX11_fault : MethodName := ⟨RX11, "fault", "(I)I"⟩
abbrev cX11_notes : ByteArray := prog_1_method_7_code
def yX11_notes : MethodName := ⟨RX11, "notes", "(I)I"⟩
abbrev cX11_step : ByteArray := prog_1_method_8_code
def yX11_step : MethodName := ⟨RX11, "step", "(II)I"⟩
abbrev cX11_off : ByteArray := prog_1_method_9_code
def yX11_off : MethodName := ⟨RX11, "off", "(III)I"⟩
abbrev cX11_in : ByteArray := prog_1_method_10_code
def yX11_in : MethodName := ⟨RX11, "in", "(III)I"⟩
abbrev cX11_tellIn : ByteArray := prog_1_method_11_code
def yX11_tellIn : MethodName := ⟨RX11, "tellIn", "(LTuneLocks$Hearing;ILTuneLocks$Song;I)I"⟩
abbrev cX11_doors : ByteArray := prog_1_method_12_code
def yX11_doors : MethodName := ⟨RX11, "doors", "(IZ)I"⟩
abbrev cX11_asked : ByteArray := prog_1_method_13_code
def yX11_asked : MethodName := ⟨RX11, "asked", "(IIZ)I"⟩
abbrev cX11_least : ByteArray := prog_1_method_14_code
def yX11_least : MethodName := ⟨RX11, "least", "(IZ)I"⟩
abbrev cX11_dealt : ByteArray := prog_1_method_15_code
def yX11_dealt : MethodName := ⟨RX11, "dealt", "(I)I"⟩
abbrev cX11_master : ByteArray := prog_1_method_16_code
def yX11_master : MethodName := ⟨RX11, "master", "(II)I"⟩
abbrev cX11_round : ByteArray := prog_1_method_17_code
def yX11_round : MethodName := ⟨RX11, "round", "(II)I"⟩
abbrev cX11_good : ByteArray := prog_1_method_18_code
def yX11_good : MethodName := ⟨RX11, "good", "(II)I"⟩
abbrev cX11_deaf : ByteArray := prog_1_method_19_code
def yX11_deaf : MethodName := ⟨RX11, "deaf", "(III)I"⟩
abbrev cX11_sing : ByteArray := prog_1_method_20_code
def yX11_sing : MethodName := ⟨RX11, "sing", "(II)I"⟩
abbrev cX11_canBeSung : ByteArray := prog_1_method_21_code
def yX11_canBeSung : MethodName := ⟨RX11, "canBeSung", "(I)Z"⟩
abbrev cX11_singNote : ByteArray := prog_1_method_22_code
def yX11_singNote : MethodName := ⟨RX11, "singNote", "(II)I"⟩
abbrev cX11_song : ByteArray := prog_1_method_23_code
def yX11_song : MethodName := ⟨RX11, "song", "(II)I"⟩
abbrev cX11_silence : ByteArray := prog_1_method_24_code
def yX11_silence : MethodName := ⟨RX11, "silence", "()I"⟩
abbrev cX11_shut : ByteArray := prog_1_method_25_code
def yX11_shut : MethodName := ⟨RX11, "shut", "(I)Z"⟩
abbrev cX11_night : ByteArray := prog_1_method_26_code
def yX11_night : MethodName := ⟨RX11, "night", "(Z)Z"⟩
abbrev cX11_lock : ByteArray := prog_1_method_27_code
def yX11_lock : MethodName := ⟨RX11, "lock", "(II)I"⟩
abbrev cX11_heard : ByteArray := prog_1_method_28_code
def yX11_heard : MethodName := ⟨RX11, "heard", "(II)I"⟩
abbrev cX11_watch : ByteArray := prog_1_method_29_code
def yX11_watch : MethodName := ⟨RX11, "watch", "(IZZ)I"⟩
abbrev cX11_untell : ByteArray := prog_1_method_30_code
def yX11_untell : MethodName := ⟨RX11, "untell", "(I)Z"⟩
abbrev cX11_later : ByteArray := prog_1_method_31_code
def yX11_later : MethodName := ⟨RX11, "later", "(I)I"⟩
abbrev cX11_left : ByteArray := prog_1_method_32_code
def yX11_left : MethodName := ⟨RX11, "left", "(I)I"⟩
abbrev cX11_next : ByteArray := prog_1_method_33_code
def yX11_next : MethodName := ⟨RX11, "next", "(II)I"⟩
abbrev cX11_image : ByteArray := prog_1_method_34_code
def yX11_image : MethodName := ⟨RX11, "image", "(I)I"⟩
abbrev cX11_back : ByteArray := prog_1_method_35_code
def yX11_back : MethodName := ⟨RX11, "back", "(I)I"⟩
abbrev cX11_about : ByteArray := prog_1_method_36_code
def yX11_about : MethodName := ⟨RX11, "about", "(I)I"⟩
def RX12 : String := "TuneLocksModel"
def TX12 : u_T := fun k => match k with
  | 0 => ("TuneLocksModel", "tape", "[B", true)
  | 1 => ("TuneLocksModel", "text", "[B", true)
  | 2 => ("TuneLocksModel", "taped", "I", false)
  | 3 => ("TuneLocksModel", "size", "I", false)
  | 4 => ("TuneLocksModel", "faultKind", "I", false)
  | 5 => ("TuneLocksModel", "faultPlace", "I", false)
  | 6 => ("TuneLocksModel", "at", "I", false)
  | 7 => ("TuneLocksModel", "end", "I", false)
  | 8 => ("TuneLocksModel", "token", "I", false)
  | 9 => ("TuneLocksModel", "number", "I", false)
  | 10 => ("TuneLocksModel", "name", "J", false)
  | 11 => ("TuneLocksModel", "tunes", "[I", true)
  | 12 => ("TuneLocksModel", "locks", "[I", true)
  | 13 => ("TuneLocksModel", "unitsOf", "[I", true)
  | 14 => ("TuneLocksModel", "sweets", "[I", true)
  | 15 => ("TuneLocksModel", "songMany", "[I", true)
  | 16 => ("TuneLocksModel", "high", "[I", true)
  | 17 => ("TuneLocksModel", "length", "[I", true)
  | 18 => ("TuneLocksModel", "near", "[I", true)
  | 19 => ("TuneLocksModel", "lFrom", "[I", true)
  | 20 => ("TuneLocksModel", "lTo", "[I", true)
  | 21 => ("TuneLocksModel", "isSweet", "[Z", true)
  | 22 => ("TuneLocksModel", "tName", "[J", true)
  | 23 => ("TuneLocksModel", "lName", "[J", true)
  | 24 => ("TuneLocksModel", "code", "[I", true)
  | 25 => ("TuneLocksModel", "codeNumber", "[I", true)
  | 26 => ("TuneLocksModel", "eWhat", "[I", true)
  | 27 => ("TuneLocksModel", "eSign", "[I", true)
  | 28 => ("TuneLocksModel", "pile", "[I", true)
  | 29 => ("TuneLocksModel", "bank", "I", false)
  | 30 => ("TuneLocksModel", "rb", "I", false)
  | 31 => ("TuneLocksModel", "codes", "I", false)
  | 32 => ("TuneLocksModel", "within", "I", false)
  | 33 => ("TuneLocksModel", "piled", "I", false)
  | 34 => ("TuneLocksModel", "voice", "I", false)
  | 35 => ("TuneLocksModel", "isOpen", "[Z", true)
  | 36 => ("TuneLocksModel", "worn", "[I", true)
  | 37 => ("TuneLocksModel", "isNight", "Z", false)
  | 38 => ("TuneLocksModel", "nears", "[I", true)
  | 39 => ("TuneLocksModel", "laid", "[I", true)
  | 40 => ("TuneLocksModel", "tried", "[I", true)
  | 41 => ("TuneLocksModel", "kept", "[I", true)
  | 42 => ("TuneLocksModel", "over", "[I", true)
  | 43 => ("TuneLocksModel", "keptMany", "I", false)
  | 44 => ("TuneLocksModel", "fewNotes", "I", false)
  | 45 => ("TuneLocksModel", "wLock", "[I", true)
  | 46 => ("TuneLocksModel", "wTold", "[I", true)
  | 47 => ("TuneLocksModel", "wUntold", "[I", true)
  | 48 => ("TuneLocksModel", "wNight", "[Z", true)
  | 49 => ("TuneLocksModel", "wOpened", "[Z", true)
  | 50 => ("TuneLocksModel", "watches", "I", false)
  | 51 => ("TuneLocksModel", "time", "I", false)
  | 52 => ("TuneLocksModel", "boxMany", "[I", true)
  | 53 => ("TuneLocksModel", "boxHigh", "[I", true)
  | 54 => ("TuneLocksModel", "boxLength", "[I", true)
  | 55 => ("TuneLocksModel", "boxWorn", "[I", true)
  | 56 => ("TuneLocksModel", "boxOpen", "[Z", true)
  | _ => ("TuneLocksModel", "boxNight", "[Z", true)
def tyX12 : Nat → FieldType := fun k => match k with
  | 0 => .array .byte
  | 1 => .array .byte
  | 2 => .int
  | 3 => .int
  | 4 => .int
  | 5 => .int
  | 6 => .int
  | 7 => .int
  | 8 => .int
  | 9 => .int
  | 10 => .long
  | 11 => .array .int
  | 12 => .array .int
  | 13 => .array .int
  | 14 => .array .int
  | 15 => .array .int
  | 16 => .array .int
  | 17 => .array .int
  | 18 => .array .int
  | 19 => .array .int
  | 20 => .array .int
  | 21 => .array .boolean
  | 22 => .array .long
  | 23 => .array .long
  | 24 => .array .int
  | 25 => .array .int
  | 26 => .array .int
  | 27 => .array .int
  | 28 => .array .int
  | 29 => .int
  | 30 => .int
  | 31 => .int
  | 32 => .int
  | 33 => .int
  | 34 => .int
  | 35 => .array .boolean
  | 36 => .array .int
  | 37 => .boolean
  | 38 => .array .int
  | 39 => .array .int
  | 40 => .array .int
  | 41 => .array .int
  | 42 => .array .int
  | 43 => .int
  | 44 => .int
  | 45 => .array .int
  | 46 => .array .int
  | 47 => .array .int
  | 48 => .array .boolean
  | 49 => .array .boolean
  | 50 => .int
  | 51 => .int
  | 52 => .array .int
  | 53 => .array .int
  | 54 => .array .int
  | 55 => .array .int
  | 56 => .array .boolean
  | _ => .array .boolean
abbrev wsX120 : List Cond := u_ws RX12 TX12 58
theorem nmX12 : ∀ a, a < 58 → ∀ b, b < 58 → a ≠ b → (TX12 a).2.1 ≠ (TX12 b).2.1 := by decide +kernel
theorem tyX12_ok : ∀ k, k < 58 → parseFieldDescriptor (TX12 k).2.2.1 = some (tyX12 k) := by decide +kernel
abbrev cX12_init : ByteArray := prog_14_method_1_code
def yX12_init : MethodName := ⟨RX12, "<init>", "()V"⟩
abbrev cX12_sign : ByteArray := prog_14_method_2_code
def yX12_sign : MethodName := ⟨RX12, "sign", "(I)I"⟩
abbrev cX12_isLetter : ByteArray := prog_14_method_3_code
def yX12_isLetter : MethodName := ⟨RX12, "isLetter", "(I)Z"⟩
abbrev cX12_isDigit : ByteArray := prog_14_method_4_code
def yX12_isDigit : MethodName := ⟨RX12, "isDigit", "(I)Z"⟩
abbrev cX12_fails : ByteArray := prog_14_method_5_code
def yX12_fails : MethodName := ⟨RX12, "fails", "(II)V"⟩
abbrev cX12_isGood : ByteArray := prog_14_method_6_code
def yX12_isGood : MethodName := ⟨RX12, "isGood", "()Z"⟩
abbrev cX12_isKept : ByteArray := prog_14_method_7_code
def yX12_isKept : MethodName := ⟨RX12, "isKept", "(J)Z"⟩
abbrev cX12_isSign : ByteArray := prog_14_method_8_code
def yX12_isSign : MethodName := ⟨RX12, "isSign", "(I)Z"⟩
abbrev cX12_goOn : ByteArray := prog_14_method_9_code
def yX12_goOn : MethodName := ⟨RX12, "goOn", "()V"⟩
abbrev cX12_stands : ByteArray := prog_14_method_10_code
def yX12_stands : MethodName := ⟨RX12, "stands", "(I)Z"⟩
abbrev cX12_isWord : ByteArray := prog_14_method_11_code
def yX12_isWord : MethodName := ⟨RX12, "isWord", "(J)Z"⟩
abbrev cX12_misplaced : ByteArray := prog_14_method_12_code
def yX12_misplaced : MethodName := ⟨RX12, "misplaced", "()V"⟩
abbrev cX12_must : ByteArray := prog_14_method_13_code
def yX12_must : MethodName := ⟨RX12, "must", "(Z)V"⟩
abbrev cX12_numeral : ByteArray := prog_14_method_14_code
def yX12_numeral : MethodName := ⟨RX12, "numeral", "(II)I"⟩
abbrev cX12_clearBank : ByteArray := prog_14_method_15_code
def yX12_clearBank : MethodName := ⟨RX12, "clearBank", "()V"⟩
abbrev cX12_town : ByteArray := prog_14_method_16_code
def yX12_town : MethodName := ⟨RX12, "town", "()I"⟩
abbrev cX12_isFull : ByteArray := prog_14_method_17_code
def yX12_isFull : MethodName := ⟨RX12, "isFull", "()Z"⟩
abbrev cX12_readLine : ByteArray := prog_14_method_18_code
def yX12_readLine : MethodName := ⟨RX12, "readLine", "()V"⟩
abbrev cX12_here : ByteArray := prog_14_method_19_code
def yX12_here : MethodName := ⟨RX12, "here", "([JII)I"⟩
abbrev cX12_tuneHere : ByteArray := prog_14_method_20_code
def yX12_tuneHere : MethodName := ⟨RX12, "tuneHere", "()I"⟩
abbrev cX12_fresh : ByteArray := prog_14_method_21_code
def yX12_fresh : MethodName := ⟨RX12, "fresh", "(Z)J"⟩
abbrev cX12_readTune : ByteArray := prog_14_method_22_code
def yX12_readTune : MethodName := ⟨RX12, "readTune", "()V"⟩
abbrev cX12_readSweet : ByteArray := prog_14_method_23_code
def yX12_readSweet : MethodName := ⟨RX12, "readSweet", "()V"⟩
abbrev cX12_readLock : ByteArray := prog_14_method_24_code
def yX12_readLock : MethodName := ⟨RX12, "readLock", "()V"⟩
abbrev cX12_emit : ByteArray := prog_14_method_25_code
def yX12_emit : MethodName := ⟨RX12, "emit", "(II)V"⟩
abbrev cX12_pushE : ByteArray := prog_14_method_26_code
def yX12_pushE : MethodName := ⟨RX12, "pushE", "(II)V"⟩
abbrev cX12_e : ByteArray := prog_14_method_27_code
def yX12_e : MethodName := ⟨RX12, "e", "()V"⟩
abbrev cX12_wordHere : ByteArray := prog_14_method_28_code
def yX12_wordHere : MethodName := ⟨RX12, "wordHere", "()I"⟩
abbrev cX12_unit : ByteArray := prog_14_method_29_code
def yX12_unit : MethodName := ⟨RX12, "unit", "()Z"⟩
abbrev cX12_rankHere : ByteArray := prog_14_method_30_code
def yX12_rankHere : MethodName := ⟨RX12, "rankHere", "()I"⟩
abbrev cX12_isCompared : ByteArray := prog_14_method_31_code
def yX12_isCompared : MethodName := ⟨RX12, "isCompared", "()Z"⟩
abbrev cX12_behindUnit : ByteArray := prog_14_method_32_code
def yX12_behindUnit : MethodName := ⟨RX12, "behindUnit", "()Z"⟩
abbrev cX12_come : ByteArray := prog_14_method_33_code
def yX12_come : MethodName := ⟨RX12, "come", "(III)I"⟩
abbrev cX12_fault : ByteArray := prog_14_method_34_code
def yX12_fault : MethodName := ⟨RX12, "fault", "(I)I"⟩
abbrev cX12_isIn : ByteArray := prog_14_method_35_code
def yX12_isIn : MethodName := ⟨RX12, "isIn", "(III)Z"⟩
abbrev cX12_isTune : ByteArray := prog_14_method_36_code
def yX12_isTune : MethodName := ⟨RX12, "isTune", "(I)Z"⟩
abbrev cX12_isLock : ByteArray := prog_14_method_37_code
def yX12_isLock : MethodName := ⟨RX12, "isLock", "(I)Z"⟩
abbrev cX12_songOf : ByteArray := prog_14_method_38_code
def yX12_songOf : MethodName := ⟨RX12, "songOf", "(I)I"⟩
abbrev cX12_manyOf : ByteArray := prog_14_method_39_code
def yX12_manyOf : MethodName := ⟨RX12, "manyOf", "(I)I"⟩
abbrev cX12_away : ByteArray := prog_14_method_40_code
def yX12_away : MethodName := ⟨RX12, "away", "(I)I"⟩
abbrev cX12_stepOf : ByteArray := prog_14_method_41_code
def yX12_stepOf : MethodName := ⟨RX12, "stepOf", "(II)I"⟩
abbrev cX12_isOutOfPace : ByteArray := prog_14_method_42_code
def yX12_isOutOfPace : MethodName := ⟨RX12, "isOutOfPace", "(IIII)Z"⟩
abbrev cX12_offAt : ByteArray := prog_14_method_43_code
def yX12_offAt : MethodName := ⟨RX12, "offAt", "(III)I"⟩
abbrev cX12_placeOf : ByteArray := prog_14_method_44_code
def yX12_placeOf : MethodName := ⟨RX12, "placeOf", "(II)I"⟩
abbrev cX12_firstOff : ByteArray := prog_14_method_45_code
def yX12_firstOff : MethodName := ⟨RX12, "firstOff", "(III)I"⟩
abbrev cX12_inWhat : ByteArray := prog_14_method_46_code
def yX12_inWhat : MethodName := ⟨RX12, "inWhat", "(III)I"⟩
abbrev cX12_isWithin : ByteArray := prog_14_method_47_code
def yX12_isWithin : MethodName := ⟨RX12, "isWithin", "(III)Z"⟩
abbrev cX12_notes : ByteArray := prog_14_method_48_code
def yX12_notes : MethodName := ⟨RX12, "notes", "(I)I"⟩
abbrev cX12_step : ByteArray := prog_14_method_49_code
def yX12_step : MethodName := ⟨RX12, "step", "(II)I"⟩
abbrev cX12_off : ByteArray := prog_14_method_50_code
def yX12_off : MethodName := ⟨RX12, "off", "(III)I"⟩
abbrev cX12_in : ByteArray := prog_14_method_51_code
def yX12_in : MethodName := ⟨RX12, "in", "(III)I"⟩
abbrev cX12_nearBy : ByteArray := prog_14_method_52_code
def yX12_nearBy : MethodName := ⟨RX12, "nearBy", "(II)I"⟩
abbrev cX12_amount : ByteArray := prog_14_method_53_code
def yX12_amount : MethodName := ⟨RX12, "amount", "(IIIZI)I"⟩
abbrev cX12_comes : ByteArray := prog_14_method_54_code
def yX12_comes : MethodName := ⟨RX12, "comes", "(IIZI)I"⟩
abbrev cX12_opens : ByteArray := prog_14_method_55_code
def yX12_opens : MethodName := ⟨RX12, "opens", "(IIZI)Z"⟩
abbrev cX12_doors : ByteArray := prog_14_method_56_code
def yX12_doors : MethodName := ⟨RX12, "doors", "(IZ)I"⟩
abbrev cX12_asked : ByteArray := prog_14_method_57_code
def yX12_asked : MethodName := ⟨RX12, "asked", "(IIZ)I"⟩
abbrev cX12_bitsOf : ByteArray := prog_14_method_58_code
def yX12_bitsOf : MethodName := ⟨RX12, "bitsOf", "(I)I"⟩
abbrev cX12_dealt : ByteArray := prog_14_method_59_code
def yX12_dealt : MethodName := ⟨RX12, "dealt", "(I)I"⟩
abbrev cX12_isAlike : ByteArray := prog_14_method_60_code
def yX12_isAlike : MethodName := ⟨RX12, "isAlike", "(II)Z"⟩
abbrev cX12_overlap : ByteArray := prog_14_method_61_code
def yX12_overlap : MethodName := ⟨RX12, "overlap", "(II)I"⟩
abbrev cX12_fits : ByteArray := prog_14_method_62_code
def yX12_fits : MethodName := ⟨RX12, "fits", "(III)Z"⟩
abbrev cX12_keepTunes : ByteArray := prog_14_method_63_code
def yX12_keepTunes : MethodName := ⟨RX12, "keepTunes", "(I)V"⟩
abbrev cX12_layMaster : ByteArray := prog_14_method_64_code
def yX12_layMaster : MethodName := ⟨RX12, "layMaster", "()V"⟩
abbrev cX12_nextRow : ByteArray := prog_14_method_65_code
def yX12_nextRow : MethodName := ⟨RX12, "nextRow", "()Z"⟩
abbrev cX12_master : ByteArray := prog_14_method_66_code
def yX12_master : MethodName := ⟨RX12, "master", "(II)I"⟩
abbrev cX12_lengthOf : ByteArray := prog_14_method_67_code
def yX12_lengthOf : MethodName := ⟨RX12, "lengthOf", "(I)I"⟩
abbrev cX12_highAt : ByteArray := prog_14_method_68_code
def yX12_highAt : MethodName := ⟨RX12, "highAt", "(II)I"⟩
abbrev cX12_roundOf : ByteArray := prog_14_method_69_code
def yX12_roundOf : MethodName := ⟨RX12, "roundOf", "(II)I"⟩
abbrev cX12_round : ByteArray := prog_14_method_70_code
def yX12_round : MethodName := ⟨RX12, "round", "(II)I"⟩
abbrev cX12_good : ByteArray := prog_14_method_71_code
def yX12_good : MethodName := ⟨RX12, "good", "(II)I"⟩
abbrev cX12_moved : ByteArray := prog_14_method_72_code
def yX12_moved : MethodName := ⟨RX12, "moved", "(IIII)I"⟩
abbrev cX12_deafAt : ByteArray := prog_14_method_73_code
def yX12_deafAt : MethodName := ⟨RX12, "deafAt", "(IIII)I"⟩
abbrev cX12_lower : ByteArray := prog_14_method_74_code
def yX12_lower : MethodName := ⟨RX12, "lower", "(II)I"⟩
abbrev cX12_deaf : ByteArray := prog_14_method_75_code
def yX12_deaf : MethodName := ⟨RX12, "deaf", "(III)I"⟩
abbrev cX12_least : ByteArray := prog_14_method_76_code
def yX12_least : MethodName := ⟨RX12, "least", "(IZ)I"⟩
abbrev cX12_sing : ByteArray := prog_14_method_77_code
def yX12_sing : MethodName := ⟨RX12, "sing", "(II)I"⟩
abbrev cX12_song : ByteArray := prog_14_method_78_code
def yX12_song : MethodName := ⟨RX12, "song", "(II)I"⟩
abbrev cX12_silence : ByteArray := prog_14_method_79_code
def yX12_silence : MethodName := ⟨RX12, "silence", "()I"⟩
abbrev cX12_shut : ByteArray := prog_14_method_80_code
def yX12_shut : MethodName := ⟨RX12, "shut", "(I)Z"⟩
abbrev cX12_night : ByteArray := prog_14_method_81_code
def yX12_night : MethodName := ⟨RX12, "night", "(Z)Z"⟩
abbrev cX12_lock : ByteArray := prog_14_method_82_code
def yX12_lock : MethodName := ⟨RX12, "lock", "(II)I"⟩
abbrev cX12_heard : ByteArray := prog_14_method_83_code
def yX12_heard : MethodName := ⟨RX12, "heard", "(II)I"⟩
abbrev cX12_watch : ByteArray := prog_14_method_84_code
def yX12_watch : MethodName := ⟨RX12, "watch", "(IZZ)I"⟩
abbrev cX12_untell : ByteArray := prog_14_method_85_code
def yX12_untell : MethodName := ⟨RX12, "untell", "(I)Z"⟩
abbrev cX12_later : ByteArray := prog_14_method_86_code
def yX12_later : MethodName := ⟨RX12, "later", "(I)I"⟩
abbrev cX12_left : ByteArray := prog_14_method_87_code
def yX12_left : MethodName := ⟨RX12, "left", "(I)I"⟩
abbrev cX12_next : ByteArray := prog_14_method_88_code
def yX12_next : MethodName := ⟨RX12, "next", "(II)I"⟩
abbrev cX12_image : ByteArray := prog_14_method_89_code
def yX12_image : MethodName := ⟨RX12, "image", "(I)I"⟩
abbrev cX12_back : ByteArray := prog_14_method_90_code
def yX12_back : MethodName := ⟨RX12, "back", "(I)I"⟩
abbrev cX12_about : ByteArray := prog_14_method_91_code
def yX12_about : MethodName := ⟨RX12, "about", "(I)I"⟩
abbrev cX12_feed : ByteArray := prog_14_method_92_code
def yX12_feed : MethodName := ⟨RX12, "feed", "(IIIII)I"⟩
abbrev cX12_end : ByteArray := prog_14_method_93_code
def yX12_end : MethodName := ⟨RX12, "end", "(I)I"⟩
def RJ6 : String := "java/lang/Integer"
abbrev cJ6_bitCount_0f7a4 : ByteArray := prog_15_method_49_code
def yJ6_bitCount_0f7a4 : MethodName := ⟨RJ6, "bitCount", "(I)I"⟩
def RJ9 : String := "java/lang/Math"
abbrev cJ9_abs_0f7a4 : ByteArray := prog_16_method_59_code
def yJ9_abs_0f7a4 : MethodName := ⟨RJ9, "abs", "(I)I"⟩
abbrev cJ9_max_7cf53 : ByteArray := prog_16_method_65_code
def yJ9_max_7cf53 : MethodName := ⟨RJ9, "max", "(II)I"⟩
abbrev cJ9_min_7cf53 : ByteArray := prog_16_method_69_code
def yJ9_min_7cf53 : MethodName := ⟨RJ9, "min", "(II)I"⟩
def RJ0 : String := "java/lang/String"
abbrev cJ0_length_8abf5 : ByteArray := prog_17_method_54_code
def yJ0_length_8abf5 : MethodName := ⟨RJ0, "length", "()I"⟩
abbrev cJ0_charAt_5068e : ByteArray := prog_17_method_56_code
def yJ0_charAt_5068e : MethodName := ⟨RJ0, "charAt", "(I)C"⟩
abbrev cJ0_coder_7d493 : ByteArray := prog_17_method_152_code
def yJ0_coder_7d493 : MethodName := ⟨RJ0, "coder", "()B"⟩
abbrev cJ0_isLatin1_aae02 : ByteArray := prog_17_method_154_code
def yJ0_isLatin1_aae02 : MethodName := ⟨RJ0, "isLatin1", "()Z"⟩
abbrev cJ0_checkIndex_df160 : ByteArray := prog_17_method_155_code
def yJ0_checkIndex_df160 : MethodName := ⟨RJ0, "checkIndex", "(II)V"⟩
def RJ1 : String := "java/lang/StringLatin1"
abbrev cJ1_charAt_3b067 : ByteArray := prog_18_method_2_code
def yJ1_charAt_3b067 : MethodName := ⟨RJ1, "charAt", "([BI)C"⟩
def RJ2 : String := "java/lang/StringUTF16"
abbrev cJ2_getChar_3b067 : ByteArray := prog_19_method_5_code
def yJ2_getChar_3b067 : MethodName := ⟨RJ2, "getChar", "([BI)C"⟩
abbrev cJ2_length_9d52b : ByteArray := prog_19_method_6_code
def yJ2_length_9d52b : MethodName := ⟨RJ2, "length", "([B)I"⟩
abbrev cJ2_charAt_3b067 : ByteArray := prog_19_method_83_code
def yJ2_charAt_3b067 : MethodName := ⟨RJ2, "charAt", "([BI)C"⟩
abbrev cJ2_checkIndex_2214a : ByteArray := prog_19_method_91_code
def yJ2_checkIndex_2214a : MethodName := ⟨RJ2, "checkIndex", "(I[B)V"⟩
def RJ10 : String := "java/lang/System"
def RJ7 : String := "java/util/Arrays"
abbrev cJ7_fill_53178 : ByteArray := prog_21_method_103_code
def yJ7_fill_53178 : MethodName := ⟨RJ7, "fill", "([II)V"⟩
def RJ3 : String := "jdk/internal/util/Preconditions"
abbrev cJ3_checkIndex_8e157 : ByteArray := prog_22_method_11_code
def yJ3_checkIndex_8e157 : MethodName := ⟨RJ3, "checkIndex", "(IILjava/util/function/BiFunction;)I"⟩
def RL : String := "TuneLocksLaw"
abbrev cL_law : ByteArray := code
def yL_law : MethodName := ⟨RL, "law", "([I)Z"⟩
abbrev vwCl : List vw_C := [(RX0, TX0, 2), (RX1, TX1, 3), (RX2, TX2, 5), (RX3, TX3, 7), (RX4, TX4, 6), (RX5, TX5, 5), (RX6, TX6, 11), (RX7, TX7, 5), (RX8, TX8, 3), (RX9, TX9, 9), (RX10, TX10, 6), (RX11, TX11, 14), (RX12, TX12, 58)]
end
section
/-! the words of the tables that hold at a callee too -/
def TBg : List Cond := lw_tbl.filter goodWord
theorem tb_mem {w : Cond} (i : Nat) (h : lw_tbl[i]? = some w) (hg : goodWord w = true) : w ∈ TBg := List.mem_filter.mpr ⟨List.mem_of_getElem? h, hg⟩
theorem tb_in {w : Cond} (h : w ∈ TBg) : w ∈ lw_tbl := (List.mem_filter.mp h).1
theorem tb_list {ws : List Cond} (ps : List Nat) (h : ws = ps.filterMap (fun i => lw_tbl[i]?)) (hg : ws.all goodWord = true) : ∀ w ∈ ws, w ∈ TBg := fun w hw => by
  have h1 := List.all_eq_true.mp hg w hw
  rw [h] at hw
  obtain ⟨i, -, hi⟩ := List.mem_filterMap.mp hw
  exact tb_mem i hi h1
theorem tb_good : ∀ w ∈ TBg, goodWord w = true := fun w h => (List.mem_filter.mp h).2
theorem gd {ws : List Cond} (h : ∀ w ∈ ws, w ∈ TBg) : GoodIn TBg ws := fun w hw => ⟨h w hw, good_of_word (tb_good w (h w hw))⟩
theorem gc {y : MethodName} {cc : ByteArray} {n : Nat} {r : Option FieldType} (h5 : Cond.code y cc n r ∈ TBg) : GoodIn TBg (.code y cc n r :: TBg) := gd (fun w hw => by
  rcases List.mem_cons.mp hw with rfl | hw
  · exact h5
  · exact hw)
theorem gv {own C : String} {idx : Nat} {y : MethodName} {cc : ByteArray} {n : Nat} {r : Option FieldType} (h1 : Cond.methodLink own idx y ∈ TBg) (h2 : Cond.instanceMethod y ∈ TBg) (h3 : Cond.selects C y y ∈ TBg) (h4 : Cond.initialized C ∈ TBg) (h5 : Cond.code y cc n r ∈ TBg) : GoodIn TBg (wsV own idx C y (.code y cc n r :: TBg)) := gd (fun w hw => by
  unfold wsV at hw
  rcases List.mem_append.mp hw with hw | hw
  · simp only [List.mem_cons, List.not_mem_nil, or_false] at hw
    rcases hw with rfl | rfl | rfl | rfl <;> assumption
  · rcases List.mem_cons.mp hw with rfl | hw
    · exact h5
    · exact hw)
theorem gs {own : String} {idx : Nat} {y : MethodName} {cc : ByteArray} {n : Nat} {r : Option FieldType} (h1 : Cond.methodLink own idx y ∈ TBg) (h2 : Cond.static y ∈ TBg) (h4 : Cond.initialized y.cls ∈ TBg) (h5 : Cond.code y cc n r ∈ TBg) : GoodIn TBg (va_wsS own idx y (.code y cc n r :: TBg)) := gd (fun w hw => by
  unfold va_wsS at hw
  rcases List.mem_append.mp hw with hw | hw
  · simp only [List.mem_cons, List.not_mem_nil, or_false] at hw
    rcases hw with rfl | rfl | rfl <;> assumption
  · rcases List.mem_cons.mp hw with rfl | hw
    · exact h5
    · exact hw)
theorem iX0 : ∀ w ∈ wsX00, w ∈ TBg := tb_list [402, 404] (by decide +kernel) (by decide +kernel)
theorem iX1 : ∀ w ∈ wsX10, w ∈ TBg := tb_list [357, 359, 361] (by decide +kernel) (by decide +kernel)
theorem iX2 : ∀ w ∈ wsX20, w ∈ TBg := tb_list [199, 201, 203, 205, 207] (by decide +kernel) (by decide +kernel)
theorem iX3 : ∀ w ∈ wsX30, w ∈ TBg := tb_list [379, 381, 383, 385, 387, 389, 391] (by decide +kernel) (by decide +kernel)
theorem iX4 : ∀ w ∈ wsX40, w ∈ TBg := tb_list [227, 229, 231, 233, 235, 237] (by decide +kernel) (by decide +kernel)
theorem iX5 : ∀ w ∈ wsX50, w ∈ TBg := tb_list [138, 140, 142, 144, 146] (by decide +kernel) (by decide +kernel)
theorem iX6 : ∀ w ∈ wsX60, w ∈ TBg := tb_list [488, 490, 492, 494, 496, 498, 500, 502, 504, 506, 508] (by decide +kernel) (by decide +kernel)
theorem iX7 : ∀ w ∈ wsX70, w ∈ TBg := tb_list [308, 310, 312, 314, 316] (by decide +kernel) (by decide +kernel)
theorem iX8 : ∀ w ∈ wsX80, w ∈ TBg := tb_list [173, 175, 177] (by decide +kernel) (by decide +kernel)
theorem iX9 : ∀ w ∈ wsX90, w ∈ TBg := tb_list [271, 273, 275, 277, 279, 281, 283, 285, 287] (by decide +kernel) (by decide +kernel)
theorem iX10 : ∀ w ∈ wsX100, w ∈ TBg := tb_list [335, 337, 339, 341, 343, 345] (by decide +kernel) (by decide +kernel)
theorem iX11 : ∀ w ∈ wsX110, w ∈ TBg := tb_list [421, 423, 425, 427, 429, 431, 433, 435, 437, 439, 441, 443, 445, 447] (by decide +kernel) (by decide +kernel)
theorem iX12 : ∀ w ∈ wsX120, w ∈ TBg := tb_list [1075, 1077, 1079, 1081, 1083, 1085, 1087, 1089, 1091, 1093, 1095, 1097, 1099, 1101, 1103, 1105, 1107, 1109, 1111, 1113, 1115, 1117, 1119, 1121, 1123, 1125, 1127, 1129, 1131, 1133, 1135, 1137, 1139, 1141, 1143, 1145, 1147, 1149, 1151, 1153, 1155, 1157, 1159, 1161, 1163, 1165, 1167, 1169, 1171, 1173, 1175, 1177, 1179, 1181, 1183, 1185, 1187, 1189] (by decide +kernel) (by decide +kernel)
end
section

/-! own rows: the array classes, the nest mates' words, entry and end of a method, frames of calls -/
def TY (cy : Nat → ClassId) : List (ClassId × FieldType) := [(cy 0, .int), (cy 1, .byte), (cy 2, .boolean), (cy 3, .long), (cy 4, .object "TuneLocks$Song"), (cy 5, .object "TuneLocks$Hearing"), (cy 6, .object "TuneLocks$Lock"), (cy 7, .object "TuneLocks$Scene")]
def nst : List Cond := [.fieldLinkNest RX11 104 "TuneLocks$Scene" "voice" "LTuneLocks$Song;" "TuneLocks",
  .fieldLinkNest RX11 113 "TuneLocks$Town" "lockCount" "I" "TuneLocks",
  .fieldLinkNest RX11 120 "TuneLocks$Town" "tunes" "[LTuneLocks$Song;" "TuneLocks",
  .fieldLinkNest RX11 124 "TuneLocks$Song" "count" "I" "TuneLocks",
  .fieldLinkNest RX11 138 "TuneLocks$Town" "hearings" "[LTuneLocks$Hearing;" "TuneLocks",
  .fieldLinkNest RX11 146 "TuneLocks$Hearing" "place" "[I" "TuneLocks",
  .fieldLinkNest RX11 150 "TuneLocks$Hearing" "least" "[I" "TuneLocks",
  .fieldLinkNest RX11 156 "TuneLocks$Scene" "worn" "[I" "TuneLocks",
  .fieldLinkNest RX11 170 "TuneLocks$Town" "tuneCount" "I" "TuneLocks",
  .fieldLinkNest RX11 197 "TuneLocks$Town" "sweet" "[Z" "TuneLocks",
  .fieldLinkNest RX11 227 "TuneLocks$Scene" "open" "I" "TuneLocks",
  .fieldLinkNest RX11 230 "TuneLocks$Scene" "atNight" "Z" "TuneLocks",
  .fieldLinkNest RX11 234 "TuneLocks$Song" "high" "[I" "TuneLocks",
  .fieldLinkNest RX11 237 "TuneLocks$Song" "length" "[I" "TuneLocks",
  .fieldLinkNest RX11 240 "TuneLocks$Town" "locks" "[LTuneLocks$Lock;" "TuneLocks",
  .fieldLinkNest RX11 278 "TuneLocks$Scene" "kept" "Z" "TuneLocks",
  .fieldLinkNest RX11 281 "TuneLocks$Watches" "count" "I" "TuneLocks",
  .fieldLinkNest RX11 282 "TuneLocks$Town" "units" "I" "TuneLocks",
  .fieldLinkNest RX11 89 "TuneLocks$Reader" "fault" "I" "TuneLocks",
  .fieldLinkNest RX11 95 "TuneLocks$Reader" "faultPlace" "I" "TuneLocks",
  .fieldLinkNest RX0 19 "TuneLocks$Song" "count" "I" "TuneLocks",
  .fieldLinkNest RX0 22 "TuneLocks$Song" "length" "[I" "TuneLocks",
  .fieldLinkNest RX0 25 "TuneLocks$Song" "high" "[I" "TuneLocks",
  .fieldLinkNest RX1 15 "TuneLocks$Town" "tuneCount" "I" "TuneLocks",
  .fieldLinkNest RX2 24 "TuneLocks$Song" "count" "I" "TuneLocks",
  .fieldLinkNest RX2 33 "TuneLocks$Town" "tuneCount" "I" "TuneLocks",
  .fieldLinkNest RX2 38 "TuneLocks$Town" "tunes" "[LTuneLocks$Song;" "TuneLocks",
  .fieldLinkNest RX3 36 "TuneLocks$Town" "tuneCount" "I" "TuneLocks",
  .fieldLinkNest RX3 45 "TuneLocks$Town" "tunes" "[LTuneLocks$Song;" "TuneLocks",
  .fieldLinkNest RX3 49 "TuneLocks$Song" "count" "I" "TuneLocks",
  .fieldLinkNest RX5 34 "TuneLocks$Lock" "from" "I" "TuneLocks",
  .fieldLinkNest RX5 37 "TuneLocks$Lock" "to" "I" "TuneLocks",
  .fieldLinkNest RX5 44 "TuneLocks$Hearing" "least" "[I" "TuneLocks",
  .fieldLinkNest RX5 53 "TuneLocks$Hearing" "atFirst" "[I" "TuneLocks",
  .fieldLinkNest RX5 56 "TuneLocks$Hearing" "atLast" "[I" "TuneLocks",
  .fieldLinkNest RX5 59 "TuneLocks$Hearing" "notes" "I" "TuneLocks",
  .fieldLinkNest RX6 109 "TuneLocks$Town" "lockCount" "I" "TuneLocks",
  .fieldLinkNest RX6 116 "TuneLocks$Town" "locks" "[LTuneLocks$Lock;" "TuneLocks",
  .fieldLinkNest RX6 120 "TuneLocks$Lock" "name" "J" "TuneLocks",
  .fieldLinkNest RX6 125 "TuneLocks$Lock" "near" "I" "TuneLocks",
  .fieldLinkNest RX6 128 "TuneLocks$Town" "questions" "LTuneLocks$Questions;" "TuneLocks",
  .fieldLinkNest RX6 132 "TuneLocks$Questions" "count" "I" "TuneLocks",
  .fieldLinkNest RX6 135 "TuneLocks$Lock" "from" "I" "TuneLocks",
  .fieldLinkNest RX6 141 "TuneLocks$Lock" "to" "I" "TuneLocks",
  .fieldLinkNest RX6 144 "TuneLocks$Town" "sweet" "[Z" "TuneLocks",
  .fieldLinkNest RX6 167 "TuneLocks$Town" "units" "I" "TuneLocks",
  .fieldLinkNest RX6 63 "TuneLocks$Town" "tuneCount" "I" "TuneLocks",
  .fieldLinkNest RX6 78 "TuneLocks$Town" "tuneNames" "[J" "TuneLocks",
  .fieldLinkNest RX6 85 "TuneLocks$Town" "tunes" "[LTuneLocks$Song;" "TuneLocks",
  .fieldLinkNest RX6 93 "TuneLocks$Song" "count" "I" "TuneLocks",
  .fieldLinkNest RX7 24 "TuneLocks$Song" "count" "I" "TuneLocks",
  .fieldLinkNest RX9 103 "TuneLocks$Hearing" "least" "[I" "TuneLocks",
  .fieldLinkNest RX9 59 "TuneLocks$Questions" "count" "I" "TuneLocks",
  .fieldLinkNest RX9 66 "TuneLocks$Lock" "name" "J" "TuneLocks",
  .fieldLinkNest RX9 78 "TuneLocks$Lock" "toldByDay" "I" "TuneLocks",
  .fieldLinkNest RX9 81 "TuneLocks$Lock" "toldAtNight" "I" "TuneLocks",
  .fieldLinkNest RX9 92 "TuneLocks$Hearing" "notes" "I" "TuneLocks",
  .fieldLinkNest RX10 32 "TuneLocks$Town" "tuneCount" "I" "TuneLocks",
  .fieldLinkNest RX10 45 "TuneLocks$Town" "locks" "[LTuneLocks$Lock;" "TuneLocks",
  .methodLinkNest RX11 29 yX7_init "TuneLocks",
  .methodLinkNest RX11 40 yX2_init "TuneLocks",
  .methodLinkNest RX11 47 yX10_init "TuneLocks",
  .methodLinkNest RX11 54 yX1_init "TuneLocks",
  .methodLinkNest RX11 61 yX3_init "TuneLocks",
  .methodLinkNest RX11 68 yX0_init "TuneLocks",
  .methodLinkNest RX9 35 yX5_init "TuneLocks",
  .methodLinkNest RX9 47 yX2_init "TuneLocks",
  .methodLinkNest RX9 48 yX4_init "TuneLocks"]
def isNst : Cond → Bool
  | .fieldLinkNest .. => true
  | .methodLinkNest .. => true
  | _ => false
theorem nst_all : nst.all isNst = true := by decide +kernel
theorem nst_tab : ∀ w ∈ nst, w.onTables = true := by decide +kernel
theorem df0 : ∀ j, j < 2 → defaultValue (tyX0 j) = vp_V [.null, .int 0] j := by decide +kernel
theorem df1 : ∀ j, j < 3 → defaultValue (tyX1 j) = vp_V [.null, .int 0, .int 0] j := by decide +kernel
theorem df2 : ∀ j, j < 5 → defaultValue (tyX2 j) = vp_V [.null, .null, .null, .null, .int 0] j := by decide +kernel
theorem df3 : ∀ j, j < 7 → defaultValue (tyX3 j) = vp_V [.null, .null, .int 0, .null, .null, .null, .int 0] j := by decide +kernel
theorem df4 : ∀ j, j < 6 → defaultValue (tyX4 j) = vp_V [.long 0, .int 0, .int 0, .int 0, .int 0, .int 0] j := by decide +kernel
theorem df5 : ∀ j, j < 5 → defaultValue (tyX5 j) = vp_V [.null, .null, .int 0, .null, .int 0] j := by decide +kernel
theorem df6 : ∀ j, j < 11 → defaultValue (tyX6 j) = vp_V [.null, .int 0, .null, .int 0, .int 0, .int 0, .int 0, .long 0, .int 0, .int 0, .int 0] j := by decide +kernel
theorem df7 : ∀ j, j < 5 → defaultValue (tyX7 j) = vp_V [.null, .int 0, .int 0, .null, .int 0] j := by decide +kernel
theorem df8 : ∀ j, j < 3 → defaultValue (tyX8 j) = vp_V [.null, .null, .int 0] j := by decide +kernel
theorem df9 : ∀ j, j < 9 → defaultValue (tyX9 j) = vp_V [.null, .null, .null, .int 0, .null, .int 0, .null, .int 0, .null] j := by decide +kernel
theorem df10 : ∀ j, j < 6 → defaultValue (tyX10 j) = vp_V [.null, .null, .null, .null, .null, .int 0] j := by decide +kernel
theorem df11 : ∀ j, j < 14 → defaultValue (tyX11 j) = vp_V [.null, .int 0, .null, .null, .int 0, .int 0, .null, .null, .null, .null, .int 0, .null, .null, .null] j := by decide +kernel
theorem df12 : ∀ j, j < 58 → defaultValue (tyX12 j) = vp_V [.null, .null, .int 0, .int 0, .int 0, .int 0, .int 0, .int 0, .int 0, .int 0, .long 0, .null, .null, .null, .null, .null, .null, .null, .null, .null, .null, .null, .null, .null, .null, .null, .null, .null, .null, .int 0, .int 0, .int 0, .int 0, .int 0, .int 0, .null, .null, .int 0, .null, .null, .null, .null, .null, .int 0, .int 0, .null, .null, .null, .null, .null, .int 0, .int 0, .null, .null, .null, .null, .null, .null] j := by decide +kernel
def AOI (U : State) : Prop := (Cond.arrayOver (.array .int)).before #[] U = true
theorem AOI.moved {u U : State} (hvm : u.vm.Alike U.vm) (h : AOI u) : AOI U := by
  obtain ⟨comp, c, k, h1, h2, h3, h4, h5⟩ := Jvm.Stand.arrayOver_specB h
  obtain ⟨k', hk', he⟩ := hvm.2.2 _ _ h3
  have hi : (U.vm.classes.findIdx? fun (x : Class) => match x.kind with | .array component _ => component == comp | _ => false) = some c := by
    refine (va_idx_bare U.vm comp).symm.trans ?_
    first | rw [hvm.bare_eq] | rw [← hvm.bare_eq]
    exact (va_idx_bare u.vm comp).trans h2
  have hkind : k'.kind = .array comp (.array .int) := by rw [he]; exact h4
  have f1 : U.vm.findClass (FieldType.array .int).toString = some comp := by rw [hvm.findClass]; exact h1
  have f2 : U.vm.findClass ("[" ++ (FieldType.array .int).toString) = some c := by rw [hvm.findClass]; exact h5
  unfold AOI Cond.before Cond.holds
  simp only [Cond.value]
  rw [f1, Option.bind_some]
  refine (congrArg (fun o : Option Nat => (o.bind (fun c => (U.vm.classes[c]?).map fun (k : Class) => match k.kind with | .array _ ty => decide (ty = FieldType.array .int) && decide (U.vm.findClass ("[" ++ (FieldType.array .int).toString) = some c) | _ => false) == some true)) hi).trans ?_
  simp [hk', hkind, f2]
def NK (U : State) : Prop := (∀ w ∈ nst, va_Nw w U) ∧ va_AO "TuneLocks$Song" U ∧ va_AO "TuneLocks$Hearing" U ∧ va_AO "TuneLocks$Lock" U ∧ va_AO "TuneLocks$Scene" U ∧ AOI U
theorem NK.warm {s U : State} (hW : s.WarmedH U.vm) (h : NK s) : NK U := by
  refine ⟨?_, va_AO.moved hW.alike h.2.1, va_AO.moved hW.alike h.2.2.1, va_AO.moved hW.alike h.2.2.2.1, va_AO.moved hW.alike h.2.2.2.2.1, AOI.moved hW.alike h.2.2.2.2.2⟩
  intro w hw
  have h1 := h.1 w hw
  have h2 : isNst w = true := List.all_eq_true.mp nst_all w hw
  match w, h2, h1 with
  | .fieldLinkNest .., _, h1 => exact va_Nw.warmF hW h1
  | .methodLinkNest .., _, h1 => exact va_Nw.warmM hW h1
theorem NK.same {u U : State} (hv : u.vm = U.vm) (h : NK u) : NK U := by
  have ha : u.vm.Alike U.vm := by rw [hv]; exact Vm.Alike.refl _
  exact ⟨fun w hw => va_Nw.same (nst_tab w hw) hv (h.1 w hw), va_AO.moved ha h.2.1, va_AO.moved ha h.2.2.1, va_AO.moved ha h.2.2.2.1, va_AO.moved ha h.2.2.2.2.1, AOI.moved ha h.2.2.2.2.2⟩
def En (G : va_G) (cy : Nat → ClassId) (ws : va_W) (sz : Nat) (U : State) : Prop := U.heap.size = sz ∧ va_P G vwCl ws U.heap ∧ va_K G vwCl (TY cy) U ∧ va_D (fun _ => True) ws ∧ NK U
def Ex (G : va_G) (A : Nat → Prop) (ws : va_W) (t : State) : Prop := va_P G vwCl ws t.heap ∧ va_D A ws
theorem En.blind {G : va_G} {cy : Nat → ClassId} {ws : va_W} {sz : Nat} {av : List Value} : FrameBlind (va_Pc av (En G cy ws sz)) := fun a U g mk q => by
  obtain ⟨q0, q1, q2, q3, q4, q5⟩ := q
  exact ⟨q0, q1, q2, va_K.moved (u := U) (U := U.calling g mk a) (Vm.Alike.refl U.vm) q3, q4, NK.same (u := U) (U := U.calling g mk a) rfl q5⟩
theorem En.of {G : va_G} {cy : Nat → ClassId} {ws : va_W} {H : Heap} {A : Nat → Prop} {s U : State} (hU : U.heap = H) (hW : s.WarmedH U.vm) (hP : va_P G vwCl ws H) (hK : va_K G vwCl (TY cy) s) (hD : va_D A ws) (hN : NK s) : En G cy ws H.size U :=
  ⟨by rw [hU], by rw [hU]; exact hP, va_K.moved hW.alike hK, hD.weaken (fun _ _ _ _ => trivial), NK.warm hW hN⟩
/-- a call that writes nothing old: all stays -/
theorem fr_keep {G : va_G} {cl : List vw_C} {ws : va_W} {H H1 : Heap} (hP : va_P G cl ws H) (hk : ∀ q : Nat, q < H.size → ¬ va_A [] H.size q → H1[q]? = H[q]?) : va_P G cl ws H1 :=
  hP.kept (fun k x hx => hk x.1 ((hP k x hx).lt) (fun h => by
    rcases h with ⟨k9, e9, h9⟩ | h
    · simp at h9
    · exact absurd ((hP k x hx).lt) (Nat.not_lt.mpr h)))
theorem fr_new {A : Nat → Prop} {H0 H : Heap} {locs : List Loc} (hS : va_S A H0 H locs) (hA : ∀ q, H0.size ≤ q → A q) : ∀ q, va_A [] H.size q → A q := fun q h => by
  rcases h with ⟨k9, e9, h9⟩ | h
  · simp at h9
  · exact hA q (Nat.le_trans hS.1 h)
/-- cells laid back at their places -/
def pu : va_W → List Nat → va_W → va_W
  | ws, i :: is, x :: xs => pu (ws.set i x) is xs
  | ws, _, _ => ws
theorem pu_get : ∀ (is : List Nat) (xs ws : va_W) (j : Nat), (pu ws is xs)[j]? = ws[j]? ∨ ∃ t : Nat, is[t]? = some j ∧ ∃ x, xs[t]? = some x ∧ (pu ws is xs)[j]? = some x := by
  intro is
  induction is with
  | nil => intro xs ws j; left; simp [pu]
  | cons i is ih =>
    intro xs ws j
    cases xs with
    | nil => left; simp [pu]
    | cons x xs =>
      rcases ih xs (ws.set i x) j with h | ⟨t, h1, y, h2, h3⟩
      · show (pu (ws.set i x) is xs)[j]? = _ ∨ _
        rw [List.getElem?_set] at h
        by_cases e : i = j
        · subst e
          rw [if_pos rfl] at h
          by_cases hl : i < ws.length
          · rw [if_pos hl] at h
            right
            exact ⟨0, rfl, x, rfl, h⟩
          · left
            rw [if_neg hl] at h
            rw [List.getElem?_eq_none (Nat.le_of_not_lt hl)]
            exact h
        · left
          rw [if_neg e] at h
          exact h
      · right
        exact ⟨t + 1, h1, y, h2, h3⟩
theorem fr_put {G : va_G} {cl : List vw_C} {A : Nat → Prop} {ws wc w1 : va_W} {H H1 : Heap} (hP : va_P G cl ws H) (hD : va_D A ws) (is : List Nat) (hC : is.map (fun i => ws[i]?) = wc.map some) (hadr : w1.map Prod.fst = wc.map Prod.fst) (hcov : is.map (fun i => (pu ws is w1)[i]?) = w1.map some)
    (hk : ∀ q : Nat, q < H.size → ¬ va_A wc H.size q → H1[q]? = H[q]?) (hP1 : va_P G cl w1 H1) : va_P G cl (pu ws is w1) H1 ∧ va_D A (pu ws is w1) := by
  have hlen : is.length = wc.length := by
    have := congrArg List.length hC
    simpa using this
  have hlen1 : w1.length = wc.length := by
    have := congrArg List.length hadr
    simpa using this
  have hat : ∀ (t : Nat) (x : Nat × va_E), w1[t]? = some x → ∃ i y, is[t]? = some i ∧ wc[t]? = some y ∧ ws[i]? = some y ∧ x.1 = y.1 := by
    intro t x hx
    have ht : t < wc.length := by
      have := (List.getElem?_eq_some_iff.mp hx).1
      omega
    have hi : t < is.length := by omega
    have e1 : (is.map (fun i => ws[i]?))[t]? = (wc.map some)[t]? := by rw [hC]
    rw [List.getElem?_map, List.getElem?_map, List.getElem?_eq_getElem hi, List.getElem?_eq_getElem ht] at e1
    have e2 : (w1.map Prod.fst)[t]? = (wc.map Prod.fst)[t]? := by rw [hadr]
    rw [List.getElem?_map, List.getElem?_map, hx, List.getElem?_eq_getElem ht] at e2
    exact ⟨is[t], wc[t], List.getElem?_eq_getElem hi, List.getElem?_eq_getElem ht, by simpa using e1, by simpa using e2⟩
  have key : ∀ (j : Nat) (x : Nat × va_E), (pu ws is w1)[j]? = some x → (∃ y, ws[j]? = some y ∧ x.1 = y.1) ∧ va_at G cl x H1 := by
    intro j x hx
    by_cases hj : j ∈ is
    · obtain ⟨t, ht⟩ := List.getElem?_of_mem hj
      have htl : t < is.length := (List.getElem?_eq_some_iff.mp ht).1
      have ht1 : t < w1.length := by omega
      have e1 : (is.map (fun i => (pu ws is w1)[i]?))[t]? = (w1.map some)[t]? := by rw [hcov]
      rw [List.getElem?_map, List.getElem?_map, ht, List.getElem?_eq_getElem ht1] at e1
      have e3 : (pu ws is w1)[j]? = some w1[t] := by simpa using e1
      rw [hx] at e3
      have hw : w1[t]? = some x := by rw [List.getElem?_eq_getElem ht1]; exact e3.symm
      obtain ⟨i, y, g1, g2, g3, g4⟩ := hat t x hw
      rw [ht] at g1
      cases g1
      exact ⟨⟨y, g3, g4⟩, hP1 t x hw⟩
    · rcases pu_get is w1 ws j with h | ⟨t, h1, y, h2, h3⟩
      · rw [hx] at h
        have hw : ws[j]? = some x := h.symm
        refine ⟨⟨x, hw, rfl⟩, ?_⟩
        have hat0 := hP j x hw
        refine hat0.kept (hk x.1 hat0.lt ?_)
        intro hA
        rcases hA with ⟨k, e, he⟩ | hge
        · have hkl : k < wc.length := (List.getElem?_eq_some_iff.mp he).1
          have hki : k < is.length := by omega
          have e1 : (is.map (fun i => ws[i]?))[k]? = (wc.map some)[k]? := by rw [hC]
          rw [List.getElem?_map, List.getElem?_map, he, List.getElem?_eq_getElem hki] at e1
          have e3 : ws[is[k]]? = some (x.1, e) := by simpa using e1
          have := hD.1 (is[k]) j _ _ e3 hw rfl
          exact hj (this ▸ List.getElem_mem hki)
        · exact absurd hat0.lt (Nat.not_lt.mpr hge)
      · exact absurd (List.mem_of_getElem? h1) hj
  refine ⟨fun j x hx => (key j x hx).2, fun i j x y hi hj hxy => ?_, fun j x hx => ?_⟩
  · obtain ⟨⟨x', hx1, hx2⟩, -⟩ := key i x hi
    obtain ⟨⟨y', hy1, hy2⟩, -⟩ := key j y hj
    exact hD.1 i j x' y' hx1 hy1 (by rw [← hx2, ← hy2]; exact hxy)
  · obtain ⟨⟨x', hx1, hx2⟩, -⟩ := key j x hx
    rw [hx2]
    exact hD.2 j x' hx1
/-- the object made last is built: what it comes to lies behind the rest -/
theorem fr_last {G : va_G} {cl : List vw_C} {A : Nat → Prop} {ws w1 : va_W} {x : Nat × va_E} {H H1 : Heap} (hP : va_P G cl (ws ++ [x]) H) (hD : va_D A (ws ++ [x])) (hF : ∀ q, va_A [x] H.size q → A q)
    (hk : ∀ q : Nat, q < H.size → ¬ va_A [x] H.size q → H1[q]? = H[q]?) (hP1 : va_P G cl w1 H1) (hD1 : va_D (va_A [x] H.size) w1) : va_P G cl (ws ++ w1) H1 ∧ va_D A (ws ++ w1) := by
  have hlt : ∀ (j : Nat) (y : Nat × va_E), ws[j]? = some y → (ws ++ [x])[j]? = some y := fun j y hy => by
    rw [List.getElem?_append_left ((List.getElem?_eq_some_iff.mp hy).1)]
    exact hy
  have hxl : (ws ++ [x])[ws.length]? = some x := by simp
  have hno : ∀ (j : Nat) (y : Nat × va_E), ws[j]? = some y → ¬ va_A [x] H.size y.1 := fun j y hy hA => by
    have hyP := hP j y (hlt j y hy)
    rcases hA with ⟨k, e, he⟩ | hge
    · have hk0 : k < 1 := (List.getElem?_eq_some_iff.mp he).1
      rw [show k = 0 by omega] at he
      have hx0 : x = (y.1, e) := by simpa using he
      have := hD.1 j ws.length y x (hlt j y hy) hxl (by rw [hx0])
      have hl := (List.getElem?_eq_some_iff.mp hy).1
      omega
    · exact absurd hyP.lt (Nat.not_lt.mpr hge)
  have hPw : va_P G cl ws H1 := fun j y hy => (hP j y (hlt j y hy)).kept (hk y.1 (hP j y (hlt j y hy)).lt (hno j y hy))
  refine ⟨hPw.app hP1, fun i j p q hi hj hpq => ?_, fun j q hq => ?_⟩
  · by_cases h1 : i < ws.length <;> by_cases h2 : j < ws.length
    · rw [List.getElem?_append_left h1] at hi
      rw [List.getElem?_append_left h2] at hj
      exact hD.1 i j p q (hlt i p hi) (hlt j q hj) hpq
    · rw [List.getElem?_append_left h1] at hi
      rw [List.getElem?_append_right (by omega)] at hj
      exact absurd (hpq ▸ hD1.2 _ q hj) (hno i p hi)
    · rw [List.getElem?_append_right (by omega)] at hi
      rw [List.getElem?_append_left h2] at hj
      exact absurd (hpq ▸ hD1.2 _ p hi) (hno j q hj)
    · rw [List.getElem?_append_right (by omega)] at hi
      rw [List.getElem?_append_right (by omega)] at hj
      have := hD1.1 _ _ p q hi hj hpq
      omega
  · by_cases h1 : j < ws.length
    · rw [List.getElem?_append_left h1] at hq
      exact hD.2 j q (hlt j q hq)
    · rw [List.getElem?_append_right (by omega)] at hq
      exact hF _ (hD1.2 _ q hq)
theorem fr_lastF {A : Nat → Prop} {ws : va_W} {x : Nat × va_E} {H0 H : Heap} {locs : List Loc} (hD : va_D A (ws ++ [x])) (hS : va_S A H0 H locs) (hA : ∀ q, H0.size ≤ q → A q) : ∀ q, va_A [x] H.size q → A q := fun q h => by
  rcases h with ⟨k, e, he⟩ | h
  · have hk0 : k < 1 := (List.getElem?_eq_some_iff.mp he).1
    rw [show k = 0 by omega] at he
    have hx0 : x = (q, e) := by simpa using he
    have := hD.2 ws.length x (by simp)
    rw [hx0] at this
    exact this
  · exact hA q (Nat.le_trans hS.1 h)
theorem fr_lastP {G : va_G} {cl : List vw_C} {ws : va_W} {x : Nat × va_E} {H : Heap} (hP : va_P G cl (ws ++ [x]) H) : va_P G cl [x] H := fun k q h => by
  have hk0 : k < 1 := (List.getElem?_eq_some_iff.mp h).1
  rw [show k = 0 by omega] at h
  exact hP ws.length q (by rw [List.getElem?_append_right (Nat.le_refl _)]; simpa using h)
theorem fr_lastD {ws : va_W} {x : Nat × va_E} : va_D (fun _ => True) [x] := ⟨fun i j p q hi hj _ => by
  have h1 : i < 1 := (List.getElem?_eq_some_iff.mp hi).1
  have h2 : j < 1 := (List.getElem?_eq_some_iff.mp hj).1
  omega, fun _ _ _ => trivial⟩
/-- what lies ahead goes, what lies behind stays -/
theorem fr_drop {G : va_G} {cl : List vw_C} {A : Nat → Prop} {w1 w2 : va_W} {H H1 : Heap} (hP : va_P G cl (w1 ++ w2) H) (hD : va_D A (w1 ++ w2)) (hk : ∀ q : Nat, q < H.size → ¬ va_A w1 H.size q → H1[q]? = H[q]?) : va_P G cl w2 H1 ∧ va_D A w2 := by
  have hr : ∀ (j : Nat) (y : Nat × va_E), w2[j]? = some y → (w1 ++ w2)[w1.length + j]? = some y := fun j y hy => by
    rw [List.getElem?_append_right (Nat.le_add_right _ _), Nat.add_sub_cancel_left]
    exact hy
  refine ⟨fun j y hy => ?_, fun i j p q hi hj hpq => ?_, fun j q hq => hD.2 _ q (hr j q hq)⟩
  · have h0 := hP _ y (hr j y hy)
    refine h0.kept (hk y.1 h0.lt (fun hA => ?_))
    rcases hA with ⟨k, e, he⟩ | hge
    · have hkl : k < w1.length := (List.getElem?_eq_some_iff.mp he).1
      have := hD.1 k (w1.length + j) (y.1, e) y (by rw [List.getElem?_append_left hkl]; exact he) (hr j y hy) rfl
      omega
    · exact absurd h0.lt (Nat.not_lt.mpr hge)
  · have := hD.1 _ _ p q (hr i p hi) (hr j q hj) hpq
    omega
theorem fr_left {G : va_G} {cl : List vw_C} {A : Nat → Prop} {w1 w2 : va_W} {H : Heap} (hP : va_P G cl (w1 ++ w2) H) (hD : va_D A (w1 ++ w2)) : va_P G cl w1 H ∧ va_D A w1 := by
  have hr : ∀ (j : Nat) (y : Nat × va_E), w1[j]? = some y → (w1 ++ w2)[j]? = some y := fun j y hy => by
    rw [List.getElem?_append_left ((List.getElem?_eq_some_iff.mp hy).1)]
    exact hy
  exact ⟨fun j y hy => hP j y (hr j y hy), fun i j p q hi hj hpq => hD.1 i j p q (hr i p hi) (hr j q hj) hpq, fun j q hq => hD.2 j q (hr j q hq)⟩
theorem fr_leftF {A : Nat → Prop} {w1 w2 : va_W} {H0 H : Heap} {locs : List Loc} (hD : va_D A (w1 ++ w2)) (hS : va_S A H0 H locs) (hA : ∀ q, H0.size ≤ q → A q) : ∀ q, va_A w1 H.size q → A q := fun q h => by
  rcases h with ⟨k, e, he⟩ | h
  · exact hD.2 k (q, e) (by rw [List.getElem?_append_left ((List.getElem?_eq_some_iff.mp he).1)]; exact he)
  · exact hA q (Nat.le_trans hS.1 h)
theorem fr_free {A : Nat → Prop} {ws : va_W} {H0 H : Heap} {locs : List Loc} (hD : va_D A ws) (hS : va_S A H0 H locs) (hA : ∀ q, H0.size ≤ q → A q) : ∀ q, va_A ws H.size q → A q := fun q h => by
  rcases h with ⟨k, e, he⟩ | h
  · exact hD.2 k (q, e) he
  · exact hA q (Nat.le_trans hS.1 h)
theorem in_lit {i : Int32} {n : Nat} (h : (decide (i < 0) || decide (n ≤ i.toNatClampNeg)) = false) : vp_in i n := by
  simp at h
  intro hc
  rcases hc with h1 | h1
  · exact absurd h1 (by simpa using h.1)
  · exact absurd h1 (by simpa using h.2)
theorem upd_same (v : Int32) (k : Nat) : upd (fun _ => v) k v = fun _ => v := by
  funext j
  unfold upd
  split <;> rfl
/-- the array class of a kind is one -/
theorem cy_one {G : va_G} {cl : List vw_C} {tys : List (ClassId × FieldType)} {s : State} {cA cB : ClassId} {ty : FieldType} (hK : va_K G cl (tys ++ [(cA, ty)]) s) (k : Nat) (hk : tys[k]? = some (cB, ty)) : cA = cB := by
  have h1 := (hK.2 tys.length (cA, ty) (by simp)).2
  have h2 := (hK.2 k (cB, ty) (by rw [List.getElem?_append_left ((List.getElem?_eq_some_iff.mp hk).1)]; exact hk)).2
  cases ty <;> simp only [va_RA] at h1 h2 <;> first | exact Option.some.inj (h1.symm.trans h2) | (obtain ⟨-, -, -, -, -, h1⟩ := h1; obtain ⟨-, -, -, -, -, h2⟩ := h2; exact Option.some.inj (h1.symm.trans h2))
theorem ow_lt (a b : Int32) : a < b ↔ a.toInt < b.toInt := Int32.lt_iff_toInt_lt
theorem ow_le (a b : Int32) : a ≤ b ↔ a.toInt ≤ b.toInt := Int32.le_iff_toInt_le
theorem ow_eq (a b : Int32) : a = b ↔ a.toInt = b.toInt := ⟨fun h => by rw [h], fun h => Int32.toInt_inj.mp h⟩
theorem ow_i0 {P : Prop} [Decidable P] {r : Int32} (h : r = if P then 1 else 0) (c : r = 0) : ¬ P := fun hp => by
  rw [if_pos hp] at h
  rw [h] at c
  exact absurd c (by decide)
theorem ow_i1 {P : Prop} [Decidable P] {r : Int32} (h : r = if P then 1 else 0) (c : ¬ r = 0) : P := by
  by_cases hp : P
  · exact hp
  · rw [if_neg hp] at h
    exact absurd h c
/-- a number is one of the first n, or none of them -/
theorem ow_cut (x : Int32) (n : Nat) (hn : n < 2 ^ 31) : (∃ j, j < n ∧ x = nI j) ∨ (x.toInt < 0 ∨ (n : Int) ≤ x.toInt) := by
  rcases pk_ix x hn with h | h | ⟨j, h1, h2⟩
  · right; left
    have := (ow_lt x 0).mp h
    have z : (0 : Int32).toInt = 0 := by decide
    omega
  · right; right
    have := (ow_le (nI n) x).mp h
    rw [nI_toInt hn] at this
    exact this
  · left
    exact ⟨j, h1, h2⟩
section OWN
variable {p : Program} {l : Launch} {e : Env} {R : Room} {s : State} {m : MethodId} {args : Array Value} {below : List Frame} {meth : Method} {c : Code} {H : Heap} {locs : List Loc} {cells slots : Nat} {Q : State → Prop}
variable {cc : ByteArray} {pc : Nat} {ls : Array Slot} {rest : List Value} {D : va_G} {cl : List vw_C} {A : Nat → Prop} {a : Nat} {cy : Nat → ClassId} {ws : va_W} {H0 : Heap}
theorem ow_newa (hexec : p.tables.exec = Jvm.exec) (hb : c.code = cc) {atype : ArrayType} (harr : (Cond.arrayClass (newarray.typeOf atype)).before args s = true) {ty : FieldType} (hty : newarray.typeOf atype = ty) (hK : va_K D cl (TY cy) s) (hP : va_P D cl ws H) (hD : va_D A ws) (hS : va_S A H0 H locs) (hA : ∀ q, H0.size ≤ q → A q) (k : Nat) {cB : ClassId} (hk : (TY cy)[k]? = some (cB, ty))
    {n : Int32} {N' : Nat} {a0 : vp_A} (ha : ∀ cA : ClassId, vp_cell cA a0 = arrV cA N' (fun _ => defaultValue ty)) (hn : ¬ n < 0) (hN : n.toNatClampNeg = N') (hbytes : N' * componentBytes ty ≤ 536870912) (hcells : cells + 1 ≤ R.cells) (hslots : slots + N' ≤ R.slots) (hdg : decode cc pc = .ok (.newarray atype, 2))
    (kk : ∀ (q : Nat) (H1 : Heap), va_P D cl (ws ++ [(q, .inl (cB, a0))]) H1 → va_D A (ws ++ [(q, .inl (cB, a0))]) → va_S A H0 H1 locs →
      W p l e R s m args below meth c H1 locs (cells + 1) (slots + N') Q (F0 m (pc + 2) ls (.ref q :: rest))) : W p l e R s m args below meth c H locs cells slots Q (F0 m pc ls (.int n :: rest)) := by
  refine va_newa hexec hb harr hty hK hP hD hS hA ha hn hN hbytes hcells hslots hdg (fun q cA H1 hK1 hP1 hD1 hS1 => ?_)
  have e1 := cy_one hK1 k hk
  subst e1
  exact kk q H1 hP1 hD1 hS1
theorem ow_newq (hexec : p.tables.exec = Jvm.exec) (hb : c.code = cc) {own C : String} {index : Nat} (hown : s.vm.findClass own = some m.cls) (hclink : (Cond.classLink own index C).before args s = true) (hN9 : va_AO C s) (hK : va_K D cl (TY cy) s) (hP : va_P D cl ws H) (hD : va_D A ws) (hS : va_S A H0 H locs) (hA : ∀ q, H0.size ≤ q → A q) (k : Nat) {cB : ClassId} (hk : (TY cy)[k]? = some (cB, .object C))
    {n : Int32} {N' : Nat} (hn : ¬ n < 0) (hN : n.toNatClampNeg = N') (hbytes : N' * 4 ≤ 536870912) (hcells : cells + 1 ≤ R.cells) (hslots : slots + N' ≤ R.slots) (hdg : decode cc pc = .ok (.anewarray index, 3))
    (kk : ∀ (q : Nat) (H1 : Heap), va_P D cl (ws ++ [(q, .inl (cB, N', .inr (.inr (.inr (.inr (fun _ => none))))))]) H1 → va_D A (ws ++ [(q, .inl (cB, N', .inr (.inr (.inr (.inr (fun _ => none))))))]) → va_S A H0 H1 locs →
      W p l e R s m args below meth c H1 locs (cells + 1) (slots + N') Q (F0 m (pc + 3) ls (.ref q :: rest))) : W p l e R s m args below meth c H locs cells slots Q (F0 m pc ls (.int n :: rest)) := by
  refine va_newq hexec hb hown hclink hN9 hK hP hD hS hA hn hN hbytes hcells hslots hdg (fun q cA H1 hK1 hP1 hD1 hS1 => ?_)
  have e1 := cy_one hK1 k hk
  subst e1
  exact kk q H1 hP1 hD1 hS1
/-- a store into an array of ints, what it holds then is not told -/
theorem ow_iast (hexec : p.tables.exec = Jvm.exec) (hb : c.code = cc) (hK : va_K D cl (TY cy) s) (hP : va_P D cl ws H) (hD : va_D A ws) (hS : va_S A H0 H locs) (q0 : Nat) {n : Nat} {f : Nat → Int32} (ha : ws[q0]? = some (a, .inl (cy 0, n, .inl f))) {i : Int32} {x : Int32} (hin : vp_in i n) (hdg : decode cc pc = .ok (.iastore, 1))
    (kk : ∀ (f1 : Nat → Int32) (H1 : Heap) (locs1 : List Loc), va_P D cl (ws.set q0 (a, .inl (cy 0, n, .inl f1))) H1 → va_D A (ws.set q0 (a, .inl (cy 0, n, .inl f1))) → va_S A H0 H1 locs1 → W p l e R s m args below meth c H1 locs1 cells slots Q (F0 m (pc + 1) ls rest)) : W p l e R s m args below meth c H locs cells slots Q (F0 m pc ls (.int x :: .int i :: .ref a :: rest)) :=
  va_iast hexec hb hK hP hD hS q0 0 ha rfl hin hdg (fun H1 l1 h1 h2 h3 => kk _ H1 l1 h1 h2 h3)
theorem ow_bast (hexec : p.tables.exec = Jvm.exec) (hb : c.code = cc) (hK : va_K D cl (TY cy) s) (hP : va_P D cl ws H) (hD : va_D A ws) (hS : va_S A H0 H locs) (q0 : Nat) {n : Nat} {f : Nat → Int32} (ha : ws[q0]? = some (a, .inl (cy 1, n, .inl f))) {i : Int32} {x : Int32} (hin : vp_in i n) (hdg : decode cc pc = .ok (.bastore, 1))
    (kk : ∀ (f1 : Nat → Int32) (H1 : Heap) (locs1 : List Loc), va_P D cl (ws.set q0 (a, .inl (cy 1, n, .inl f1))) H1 → va_D A (ws.set q0 (a, .inl (cy 1, n, .inl f1))) → va_S A H0 H1 locs1 → W p l e R s m args below meth c H1 locs1 cells slots Q (F0 m (pc + 1) ls rest)) : W p l e R s m args below meth c H locs cells slots Q (F0 m pc ls (.int x :: .int i :: .ref a :: rest)) :=
  va_bast hexec hb hK hP hD hS q0 1 ha rfl hin hdg (fun H1 l1 h1 h2 h3 => kk _ H1 l1 h1 h2 h3)
theorem ow_zast (hexec : p.tables.exec = Jvm.exec) (hb : c.code = cc) (hK : va_K D cl (TY cy) s) (hP : va_P D cl ws H) (hD : va_D A ws) (hS : va_S A H0 H locs) (q0 : Nat) {n : Nat} {f : Nat → Int32} (ha : ws[q0]? = some (a, .inl (cy 2, n, .inl f))) {i : Int32} {x : Int32} (hin : vp_in i n) (hdg : decode cc pc = .ok (.bastore, 1))
    (kk : ∀ (f1 : Nat → Int32) (H1 : Heap) (locs1 : List Loc), va_P D cl (ws.set q0 (a, .inl (cy 2, n, .inl f1))) H1 → va_D A (ws.set q0 (a, .inl (cy 2, n, .inl f1))) → va_S A H0 H1 locs1 → W p l e R s m args below meth c H1 locs1 cells slots Q (F0 m (pc + 1) ls rest)) : W p l e R s m args below meth c H locs cells slots Q (F0 m pc ls (.int x :: .int i :: .ref a :: rest)) :=
  va_zast hexec hb hK hP hD hS q0 2 ha rfl hin hdg (fun H1 l1 h1 h2 h3 => kk _ H1 l1 h1 h2 h3)
/-- a store into an array of ints, of a number that stands everywhere in it -/
theorem ow_iastS (hexec : p.tables.exec = Jvm.exec) (hb : c.code = cc) (hK : va_K D cl (TY cy) s) (hP : va_P D cl ws H) (hD : va_D A ws) (hS : va_S A H0 H locs) (q0 : Nat) {n : Nat} {i : Int32} {x : Int32} (ha : ws[q0]? = some (a, .inl (cy 0, n, .inl (fun _ => x)))) (hin : vp_in i n) (hdg : decode cc pc = .ok (.iastore, 1))
    (kk : ∀ (H1 : Heap) (locs1 : List Loc), va_P D cl (ws.set q0 (a, .inl (cy 0, n, .inl (fun _ => x)))) H1 → va_D A (ws.set q0 (a, .inl (cy 0, n, .inl (fun _ => x)))) → va_S A H0 H1 locs1 → W p l e R s m args below meth c H1 locs1 cells slots Q (F0 m (pc + 1) ls rest)) : W p l e R s m args below meth c H locs cells slots Q (F0 m pc ls (.int x :: .int i :: .ref a :: rest)) :=
  va_iast hexec hb hK hP hD hS q0 0 ha rfl hin hdg (fun H1 l1 h1 h2 h3 => kk H1 l1 (by rw [upd_same] at h1; exact h1) (by rw [upd_same] at h2; exact h2) h3)
theorem ow_astq (hexec : p.tables.exec = Jvm.exec) (hb : c.code = cc) {tys : List (ClassId × FieldType)} (hK : va_K D cl tys s) (hP : va_P D cl ws H) (hD : va_D A ws) (hS : va_S A H0 H locs) (q0 t0 qk ci : Nat) {cA : ClassId} {r : vw_C} {n v : Nat} {vs : List Value} {f : Nat → Option Nat} (ha : ws[q0]? = some (a, .inl (cA, n, .inr (.inr (.inr (.inr f)))))) (ht : tys[t0]? = some (cA, .object r.1)) (hv : ws[qk]? = some (v, .inr (ci, vs))) (hc : cl[ci]? = some r) {i : Int32} (hin : vp_in i n) (hdg : decode cc pc = .ok (.aastore, 1))
    (kk : ∀ (f1 : Nat → Option Nat) (H1 : Heap) (locs1 : List Loc), va_P D cl (ws.set q0 (a, .inl (cA, n, .inr (.inr (.inr (.inr f1)))))) H1 → va_D A (ws.set q0 (a, .inl (cA, n, .inr (.inr (.inr (.inr f1)))))) → va_S A H0 H1 locs1 → W p l e R s m args below meth c H1 locs1 cells slots Q (F0 m (pc + 1) ls rest)) : W p l e R s m args below meth c H locs cells slots Q (F0 m pc ls (.ref v :: .int i :: .ref a :: rest)) :=
  va_astq hexec hb hK hP hD hS q0 t0 qk ci ha ht hv hc hin hdg (fun H1 l1 h1 h2 h3 => kk _ H1 l1 h1 h2 h3)
/-- a number that is known by another name -/
theorem ow_top {x : Int32} (y : Int32) (h : x = y) (k : W p l e R s m args below meth c H locs cells slots Q (F0 m pc ls (.int y :: rest))) : W p l e R s m args below meth c H locs cells slots Q (F0 m pc ls (.int x :: rest)) := by rw [h]; exact k
/-- new int[n][k], of which only the reference is kept -/
theorem ow_mna (hexec : p.tables.exec = Jvm.exec) (hb : c.code = cc) {own : String} {index : Nat} {ty : FieldType} (hown : s.vm.findClass own = some m.cls) (hclink : (Cond.classLink own index ("[" ++ (FieldType.array ty).toString)).before args s = true) (hover : (Cond.arrayOver (.array ty)).before args s = true) (harr : (Cond.arrayClass ty).before args s = true)
    (hP : va_P D cl ws H) (hS : va_S A H0 H locs) {n k : Int32} {N' K' : Nat} (hn : ¬ n < 0) (hk : ¬ k < 0) (hN : n.toNatClampNeg = N') (hM : k.toNatClampNeg = K')
    (hb1 : N' * 4 ≤ 536870912) (hb2 : K' * componentBytes ty ≤ 536870912) (hb3 : K' ≤ 536870912) (hdf : fits ty (defaultValue ty) = true) (hdd : (defaultValue ty).isDefault = true) (hcells : cells + (1 + N') ≤ R.cells) (hslots : slots + (N' + N' * K') ≤ R.slots) (hdg : decode cc pc = .ok (.multianewarray index 2, 4))
    (kk : ∀ (q : Nat) (H1 : Heap), va_P D cl ws H1 → va_S A H0 H1 locs → W p l e R s m args below meth c H1 locs (cells + 1 + N') (slots + N' + N' * K') Q (F0 m (pc + 4) ls (.ref q :: rest))) : W p l e R s m args below meth c H locs cells slots Q (F0 m pc ls (.int k :: .int n :: rest)) := by
  subst hN
  subst hM
  intro T hT Xs
  obtain ⟨vm₁, cA, comp, -, fA, fC, hO, -, X', step⟩ := Jvm.Stand.multianewarray2F Xs hexec hown hclink hover harr (g := F0 m pc ls (.int k :: .int n :: rest)) rfl (by rw [hb]; exact hdg) rfl hn hk hb1 hb2 hb3 hdf hdd hcells hslots
  generalize hF : Jvm.Free.Multi.fill (T.setVm vm₁) cA comp n.toNatClampNeg k.toNatClampNeg (defaultValue ty) n.toNatClampNeg = F at X' step
  have hTh : (T.setVm vm₁).heap = H := hT
  obtain ⟨f1, f2, -, -⟩ := Jvm.Free.Multi.fill_facts (T.setVm vm₁) cA comp n.toNatClampNeg k.toNatClampNeg (defaultValue ty) n.toNatClampNeg
  rw [hF, hTh] at f1
  have hold : ∀ x : Nat, x < H.size → F.heap[x]? = H[x]? := fun x hx => by
    have := Jvm.Free.Multi.fill_old (T.setVm vm₁) cA comp n.toNatClampNeg k.toNatClampNeg (defaultValue ty) (a := x) (by rw [hTh]; exact hx) n.toNatClampNeg
    rw [hF, hTh] at this
    exact this
  have hP0 : va_P D cl ws F.heap := hP.kept (fun k9 x hx => hold x.1 ((hP k9 x hx).lt))
  have hS0 : va_S A H0 F.heap locs := ⟨Nat.le_trans hS.1 (by omega), fun x h1 h2 => (hold x (Nat.lt_of_lt_of_le h1 hS.1)).trans (hS.2.1 x h1 h2), hS.2.2⟩
  obtain ⟨t, a1, b1⟩ := kk T.heap.size F.heap hP0 hS0 F rfl X'
  exact ⟨t, step t a1, b1⟩
end OWN
end
