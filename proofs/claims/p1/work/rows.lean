section
-- ===== PART A: goes FIRST, ahead of the names: the tables' words, and 'selects' of the private methods out of them =====
/-- a private method of a class that the tables say can be made, by its rows of tables_1 -/
def lw_okq (q : MethodName × Nat) : Prop := (q.1.cls ≠ "java/lang/invoke/MethodHandle" ∧ q.1.cls ≠ "java/lang/invoke/VarHandle") ∧ Cond.instantiable q.1.cls q.2 ∈ tables_1 ∧ Cond.privateMethod q.1 ∈ tables_1 ∧ Cond.instanceMethod q.1 ∈ tables_1
theorem lw_p0 : lw_okq (⟨"TuneLocks", "putNumber", "(I)V"⟩, 14) := ⟨⟨by decide +kernel, by decide +kernel⟩, List.mem_of_getElem? (i := 23) (by decide +kernel), List.mem_of_getElem? (i := 372) (by decide +kernel), List.mem_of_getElem? (i := 373) (by decide +kernel)⟩
theorem lw_p1 : lw_okq (⟨"TuneLocks$Reader", "takeToken", "()V"⟩, 11) := ⟨⟨by decide +kernel, by decide +kernel⟩, List.mem_of_getElem? (i := 384) (by decide +kernel), List.mem_of_getElem? (i := 437) (by decide +kernel), List.mem_of_getElem? (i := 438) (by decide +kernel)⟩
theorem lw_p2 : lw_okq (⟨"TuneLocks$Reader", "letterAt", "(I)Z"⟩, 11) := ⟨⟨by decide +kernel, by decide +kernel⟩, List.mem_of_getElem? (i := 384) (by decide +kernel), List.mem_of_getElem? (i := 441) (by decide +kernel), List.mem_of_getElem? (i := 442) (by decide +kernel)⟩
theorem lw_p3 : lw_okq (⟨"TuneLocks$Reader", "takeLetters", "()V"⟩, 11) := ⟨⟨by decide +kernel, by decide +kernel⟩, List.mem_of_getElem? (i := 384) (by decide +kernel), List.mem_of_getElem? (i := 445) (by decide +kernel), List.mem_of_getElem? (i := 446) (by decide +kernel)⟩
theorem lw_p4 : lw_okq (⟨"TuneLocks$Reader", "sortOfWord", "(I)I"⟩, 11) := ⟨⟨by decide +kernel, by decide +kernel⟩, List.mem_of_getElem? (i := 384) (by decide +kernel), List.mem_of_getElem? (i := 450) (by decide +kernel), List.mem_of_getElem? (i := 451) (by decide +kernel)⟩
theorem lw_p5 : lw_okq (⟨"TuneLocks$Reader", "digitAt", "(I)Z"⟩, 11) := ⟨⟨by decide +kernel, by decide +kernel⟩, List.mem_of_getElem? (i := 384) (by decide +kernel), List.mem_of_getElem? (i := 503) (by decide +kernel), List.mem_of_getElem? (i := 504) (by decide +kernel)⟩
theorem lw_p6 : lw_okq (⟨"TuneLocks$Reader", "takeDigits", "()V"⟩, 11) := ⟨⟨by decide +kernel, by decide +kernel⟩, List.mem_of_getElem? (i := 384) (by decide +kernel), List.mem_of_getElem? (i := 507) (by decide +kernel), List.mem_of_getElem? (i := 508) (by decide +kernel)⟩
theorem lw_p7 : lw_okq (⟨"TuneLocks$Reader", "readTune", "()Z"⟩, 11) := ⟨⟨by decide +kernel, by decide +kernel⟩, List.mem_of_getElem? (i := 384) (by decide +kernel), List.mem_of_getElem? (i := 514) (by decide +kernel), List.mem_of_getElem? (i := 515) (by decide +kernel)⟩
theorem lw_p8 : lw_okq (⟨"TuneLocks$Reader", "refuse", "()Z"⟩, 11) := ⟨⟨by decide +kernel, by decide +kernel⟩, List.mem_of_getElem? (i := 384) (by decide +kernel), List.mem_of_getElem? (i := 518) (by decide +kernel), List.mem_of_getElem? (i := 519) (by decide +kernel)⟩
theorem lw_p9 : lw_okq (⟨"TuneLocks$Reader", "fail", "(I)Z"⟩, 11) := ⟨⟨by decide +kernel, by decide +kernel⟩, List.mem_of_getElem? (i := 384) (by decide +kernel), List.mem_of_getElem? (i := 522) (by decide +kernel), List.mem_of_getElem? (i := 523) (by decide +kernel)⟩
theorem lw_p10 : lw_okq (⟨"TuneLocks$Reader", "take", "(I)Z"⟩, 11) := ⟨⟨by decide +kernel, by decide +kernel⟩, List.mem_of_getElem? (i := 384) (by decide +kernel), List.mem_of_getElem? (i := 530) (by decide +kernel), List.mem_of_getElem? (i := 531) (by decide +kernel)⟩
theorem lw_p11 : lw_okq (⟨"TuneLocks$Reader", "readNotes", "(LTuneLocks$Song;)Z"⟩, 11) := ⟨⟨by decide +kernel, by decide +kernel⟩, List.mem_of_getElem? (i := 384) (by decide +kernel), List.mem_of_getElem? (i := 534) (by decide +kernel), List.mem_of_getElem? (i := 535) (by decide +kernel)⟩
theorem lw_p12 : lw_okq (⟨"TuneLocks$Reader", "takeNumber", "(II)Z"⟩, 11) := ⟨⟨by decide +kernel, by decide +kernel⟩, List.mem_of_getElem? (i := 384) (by decide +kernel), List.mem_of_getElem? (i := 538) (by decide +kernel), List.mem_of_getElem? (i := 539) (by decide +kernel)⟩
theorem lw_p13 : lw_okq (⟨"TuneLocks$Reader", "readLock", "()Z"⟩, 11) := ⟨⟨by decide +kernel, by decide +kernel⟩, List.mem_of_getElem? (i := 384) (by decide +kernel), List.mem_of_getElem? (i := 546) (by decide +kernel), List.mem_of_getElem? (i := 547) (by decide +kernel)⟩
theorem lw_p14 : lw_okq (⟨"TuneLocks$Reader", "readE", "(I)Z"⟩, 11) := ⟨⟨by decide +kernel, by decide +kernel⟩, List.mem_of_getElem? (i := 384) (by decide +kernel), List.mem_of_getElem? (i := 554) (by decide +kernel), List.mem_of_getElem? (i := 555) (by decide +kernel)⟩
theorem lw_p15 : lw_okq (⟨"TuneLocks$Reader", "readBoth", "(I)Z"⟩, 11) := ⟨⟨by decide +kernel, by decide +kernel⟩, List.mem_of_getElem? (i := 384) (by decide +kernel), List.mem_of_getElem? (i := 558) (by decide +kernel), List.mem_of_getElem? (i := 559) (by decide +kernel)⟩
def lw_privs_1 : List (MethodName × Nat) := [(⟨"TuneLocks", "putNumber", "(I)V"⟩, 14), (⟨"TuneLocks$Reader", "takeToken", "()V"⟩, 11), (⟨"TuneLocks$Reader", "letterAt", "(I)Z"⟩, 11), (⟨"TuneLocks$Reader", "takeLetters", "()V"⟩, 11), (⟨"TuneLocks$Reader", "sortOfWord", "(I)I"⟩, 11), (⟨"TuneLocks$Reader", "digitAt", "(I)Z"⟩, 11), (⟨"TuneLocks$Reader", "takeDigits", "()V"⟩, 11), (⟨"TuneLocks$Reader", "readTune", "()Z"⟩, 11), (⟨"TuneLocks$Reader", "refuse", "()Z"⟩, 11), (⟨"TuneLocks$Reader", "fail", "(I)Z"⟩, 11), (⟨"TuneLocks$Reader", "take", "(I)Z"⟩, 11), (⟨"TuneLocks$Reader", "readNotes", "(LTuneLocks$Song;)Z"⟩, 11), (⟨"TuneLocks$Reader", "takeNumber", "(II)Z"⟩, 11), (⟨"TuneLocks$Reader", "readLock", "()Z"⟩, 11), (⟨"TuneLocks$Reader", "readE", "(I)Z"⟩, 11), (⟨"TuneLocks$Reader", "readBoth", "(I)Z"⟩, 11)]
theorem lw_r1 : ∀ q ∈ lw_privs_1, lw_okq q := List.forall_mem_cons.mpr ⟨lw_p0, List.forall_mem_cons.mpr ⟨lw_p1, List.forall_mem_cons.mpr ⟨lw_p2, List.forall_mem_cons.mpr ⟨lw_p3, List.forall_mem_cons.mpr ⟨lw_p4, List.forall_mem_cons.mpr ⟨lw_p5, List.forall_mem_cons.mpr ⟨lw_p6, List.forall_mem_cons.mpr ⟨lw_p7, List.forall_mem_cons.mpr ⟨lw_p8, List.forall_mem_cons.mpr ⟨lw_p9, List.forall_mem_cons.mpr ⟨lw_p10, List.forall_mem_cons.mpr ⟨lw_p11, List.forall_mem_cons.mpr ⟨lw_p12, List.forall_mem_cons.mpr ⟨lw_p13, List.forall_mem_cons.mpr ⟨lw_p14, List.forall_mem_cons.mpr ⟨lw_p15, fun _ h => absurd h List.not_mem_nil⟩⟩⟩⟩⟩⟩⟩⟩⟩⟩⟩⟩⟩⟩⟩⟩
theorem lw_p16 : lw_okq (⟨"TuneLocks$Reader", "readOne", "(I)Z"⟩, 11) := ⟨⟨by decide +kernel, by decide +kernel⟩, List.mem_of_getElem? (i := 384) (by decide +kernel), List.mem_of_getElem? (i := 562) (by decide +kernel), List.mem_of_getElem? (i := 563) (by decide +kernel)⟩
theorem lw_p17 : lw_okq (⟨"TuneLocks$Reader", "readNot", "(I)Z"⟩, 11) := ⟨⟨by decide +kernel, by decide +kernel⟩, List.mem_of_getElem? (i := 384) (by decide +kernel), List.mem_of_getElem? (i := 566) (by decide +kernel), List.mem_of_getElem? (i := 567) (by decide +kernel)⟩
theorem lw_p18 : lw_okq (⟨"TuneLocks$Reader", "readSum", "(I)Z"⟩, 11) := ⟨⟨by decide +kernel, by decide +kernel⟩, List.mem_of_getElem? (i := 384) (by decide +kernel), List.mem_of_getElem? (i := 574) (by decide +kernel), List.mem_of_getElem? (i := 575) (by decide +kernel)⟩
theorem lw_p19 : lw_okq (⟨"TuneLocks$Reader", "readUnit", "(I)Z"⟩, 11) := ⟨⟨by decide +kernel, by decide +kernel⟩, List.mem_of_getElem? (i := 384) (by decide +kernel), List.mem_of_getElem? (i := 578) (by decide +kernel), List.mem_of_getElem? (i := 579) (by decide +kernel)⟩
theorem lw_p20 : lw_okq (⟨"TuneLocks$Reader", "beginsUnit", "()Z"⟩, 11) := ⟨⟨by decide +kernel, by decide +kernel⟩, List.mem_of_getElem? (i := 384) (by decide +kernel), List.mem_of_getElem? (i := 582) (by decide +kernel), List.mem_of_getElem? (i := 583) (by decide +kernel)⟩
theorem lw_p21 : lw_okq (⟨"TuneLocks$Reader", "readSweet", "()Z"⟩, 11) := ⟨⟨by decide +kernel, by decide +kernel⟩, List.mem_of_getElem? (i := 384) (by decide +kernel), List.mem_of_getElem? (i := 586) (by decide +kernel), List.mem_of_getElem? (i := 587) (by decide +kernel)⟩
theorem lw_p22 : lw_okq (⟨"TuneLocks$Song", "outOfPace", "(ILTuneLocks$Song;I)I"⟩, 3) := ⟨⟨by decide +kernel, by decide +kernel⟩, List.mem_of_getElem? (i := 69) (by decide +kernel), List.mem_of_getElem? (i := 619) (by decide +kernel), List.mem_of_getElem? (i := 620) (by decide +kernel)⟩
theorem lw_p23 : lw_okq (⟨"TuneLocks$Hearing", "hearAt", "(III)V"⟩, 5) := ⟨⟨by decide +kernel, by decide +kernel⟩, List.mem_of_getElem? (i := 98) (by decide +kernel), List.mem_of_getElem? (i := 623) (by decide +kernel), List.mem_of_getElem? (i := 624) (by decide +kernel)⟩
theorem lw_p24 : lw_okq (⟨"TuneLocks$Town", "opensNeverWorn", "(IZ)I"⟩, 9) := ⟨⟨by decide +kernel, by decide +kernel⟩, List.mem_of_getElem? (i := 31) (by decide +kernel), List.mem_of_getElem? (i := 627) (by decide +kernel), List.mem_of_getElem? (i := 628) (by decide +kernel)⟩
theorem lw_p25 : lw_okq (⟨"TuneLocks$Questions", "push", "(I)V"⟩, 5) := ⟨⟨by decide +kernel, by decide +kernel⟩, List.mem_of_getElem? (i := 43) (by decide +kernel), List.mem_of_getElem? (i := 648) (by decide +kernel), List.mem_of_getElem? (i := 649) (by decide +kernel)⟩
theorem lw_p26 : lw_okq (⟨"TuneLocks$Questions", "pop", "()I"⟩, 5) := ⟨⟨by decide +kernel, by decide +kernel⟩, List.mem_of_getElem? (i := 43) (by decide +kernel), List.mem_of_getElem? (i := 655) (by decide +kernel), List.mem_of_getElem? (i := 656) (by decide +kernel)⟩
theorem lw_p27 : lw_okq (⟨"TuneLocks", "tellIn", "(LTuneLocks$Hearing;ILTuneLocks$Song;I)I"⟩, 14) := ⟨⟨by decide +kernel, by decide +kernel⟩, List.mem_of_getElem? (i := 23) (by decide +kernel), List.mem_of_getElem? (i := 701) (by decide +kernel), List.mem_of_getElem? (i := 702) (by decide +kernel)⟩
theorem lw_p28 : lw_okq (⟨"TuneLocks$Song", "reachOf", "(II)I"⟩, 3) := ⟨⟨by decide +kernel, by decide +kernel⟩, List.mem_of_getElem? (i := 69) (by decide +kernel), List.mem_of_getElem? (i := 813) (by decide +kernel), List.mem_of_getElem? (i := 814) (by decide +kernel)⟩
theorem lw_p29 : lw_okq (⟨"TuneLocks", "singNote", "(II)I"⟩, 14) := ⟨⟨by decide +kernel, by decide +kernel⟩, List.mem_of_getElem? (i := 23) (by decide +kernel), List.mem_of_getElem? (i := 825) (by decide +kernel), List.mem_of_getElem? (i := 826) (by decide +kernel)⟩
theorem lw_p30 : lw_okq (⟨"TuneLocks$Watches", "counts", "(II)Z"⟩, 6) := ⟨⟨by decide +kernel, by decide +kernel⟩, List.mem_of_getElem? (i := 240) (by decide +kernel), List.mem_of_getElem? (i := 888) (by decide +kernel), List.mem_of_getElem? (i := 889) (by decide +kernel)⟩
theorem lw_p31 : lw_okq (⟨"TuneLocksModel", "clearBank", "()V"⟩, 58) := ⟨⟨by decide +kernel, by decide +kernel⟩, List.mem_of_getElem? (i := 925) (by decide +kernel), List.mem_of_getElem? (i := 931) (by decide +kernel), List.mem_of_getElem? (i := 932) (by decide +kernel)⟩
def lw_privs_2 : List (MethodName × Nat) := [(⟨"TuneLocks$Reader", "readOne", "(I)Z"⟩, 11), (⟨"TuneLocks$Reader", "readNot", "(I)Z"⟩, 11), (⟨"TuneLocks$Reader", "readSum", "(I)Z"⟩, 11), (⟨"TuneLocks$Reader", "readUnit", "(I)Z"⟩, 11), (⟨"TuneLocks$Reader", "beginsUnit", "()Z"⟩, 11), (⟨"TuneLocks$Reader", "readSweet", "()Z"⟩, 11), (⟨"TuneLocks$Song", "outOfPace", "(ILTuneLocks$Song;I)I"⟩, 3), (⟨"TuneLocks$Hearing", "hearAt", "(III)V"⟩, 5), (⟨"TuneLocks$Town", "opensNeverWorn", "(IZ)I"⟩, 9), (⟨"TuneLocks$Questions", "push", "(I)V"⟩, 5), (⟨"TuneLocks$Questions", "pop", "()I"⟩, 5), (⟨"TuneLocks", "tellIn", "(LTuneLocks$Hearing;ILTuneLocks$Song;I)I"⟩, 14), (⟨"TuneLocks$Song", "reachOf", "(II)I"⟩, 3), (⟨"TuneLocks", "singNote", "(II)I"⟩, 14), (⟨"TuneLocks$Watches", "counts", "(II)Z"⟩, 6), (⟨"TuneLocksModel", "clearBank", "()V"⟩, 58)]
theorem lw_r2 : ∀ q ∈ lw_privs_2, lw_okq q := List.forall_mem_cons.mpr ⟨lw_p16, List.forall_mem_cons.mpr ⟨lw_p17, List.forall_mem_cons.mpr ⟨lw_p18, List.forall_mem_cons.mpr ⟨lw_p19, List.forall_mem_cons.mpr ⟨lw_p20, List.forall_mem_cons.mpr ⟨lw_p21, List.forall_mem_cons.mpr ⟨lw_p22, List.forall_mem_cons.mpr ⟨lw_p23, List.forall_mem_cons.mpr ⟨lw_p24, List.forall_mem_cons.mpr ⟨lw_p25, List.forall_mem_cons.mpr ⟨lw_p26, List.forall_mem_cons.mpr ⟨lw_p27, List.forall_mem_cons.mpr ⟨lw_p28, List.forall_mem_cons.mpr ⟨lw_p29, List.forall_mem_cons.mpr ⟨lw_p30, List.forall_mem_cons.mpr ⟨lw_p31, fun _ h => absurd h List.not_mem_nil⟩⟩⟩⟩⟩⟩⟩⟩⟩⟩⟩⟩⟩⟩⟩⟩
theorem lw_p32 : lw_okq (⟨"TuneLocksModel", "goOn", "()V"⟩, 58) := ⟨⟨by decide +kernel, by decide +kernel⟩, List.mem_of_getElem? (i := 925) (by decide +kernel), List.mem_of_getElem? (i := 1114) (by decide +kernel), List.mem_of_getElem? (i := 1115) (by decide +kernel)⟩
theorem lw_p33 : lw_okq (⟨"TuneLocksModel", "sign", "(I)I"⟩, 58) := ⟨⟨by decide +kernel, by decide +kernel⟩, List.mem_of_getElem? (i := 925) (by decide +kernel), List.mem_of_getElem? (i := 1118) (by decide +kernel), List.mem_of_getElem? (i := 1119) (by decide +kernel)⟩
theorem lw_p34 : lw_okq (⟨"TuneLocksModel", "isGood", "()Z"⟩, 58) := ⟨⟨by decide +kernel, by decide +kernel⟩, List.mem_of_getElem? (i := 925) (by decide +kernel), List.mem_of_getElem? (i := 1149) (by decide +kernel), List.mem_of_getElem? (i := 1150) (by decide +kernel)⟩
theorem lw_p35 : lw_okq (⟨"TuneLocksModel", "readLine", "()V"⟩, 58) := ⟨⟨by decide +kernel, by decide +kernel⟩, List.mem_of_getElem? (i := 925) (by decide +kernel), List.mem_of_getElem? (i := 1153) (by decide +kernel), List.mem_of_getElem? (i := 1154) (by decide +kernel)⟩
theorem lw_p36 : lw_okq (⟨"TuneLocksModel", "isFull", "()Z"⟩, 58) := ⟨⟨by decide +kernel, by decide +kernel⟩, List.mem_of_getElem? (i := 925) (by decide +kernel), List.mem_of_getElem? (i := 1157) (by decide +kernel), List.mem_of_getElem? (i := 1158) (by decide +kernel)⟩
theorem lw_p37 : lw_okq (⟨"TuneLocksModel", "isWord", "(J)Z"⟩, 58) := ⟨⟨by decide +kernel, by decide +kernel⟩, List.mem_of_getElem? (i := 925) (by decide +kernel), List.mem_of_getElem? (i := 1161) (by decide +kernel), List.mem_of_getElem? (i := 1162) (by decide +kernel)⟩
theorem lw_p38 : lw_okq (⟨"TuneLocksModel", "misplaced", "()V"⟩, 58) := ⟨⟨by decide +kernel, by decide +kernel⟩, List.mem_of_getElem? (i := 925) (by decide +kernel), List.mem_of_getElem? (i := 1165) (by decide +kernel), List.mem_of_getElem? (i := 1166) (by decide +kernel)⟩
theorem lw_p39 : lw_okq (⟨"TuneLocksModel", "fails", "(II)V"⟩, 58) := ⟨⟨by decide +kernel, by decide +kernel⟩, List.mem_of_getElem? (i := 925) (by decide +kernel), List.mem_of_getElem? (i := 1169) (by decide +kernel), List.mem_of_getElem? (i := 1170) (by decide +kernel)⟩
theorem lw_p40 : lw_okq (⟨"TuneLocksModel", "readTune", "()V"⟩, 58) := ⟨⟨by decide +kernel, by decide +kernel⟩, List.mem_of_getElem? (i := 925) (by decide +kernel), List.mem_of_getElem? (i := 1173) (by decide +kernel), List.mem_of_getElem? (i := 1174) (by decide +kernel)⟩
theorem lw_p41 : lw_okq (⟨"TuneLocksModel", "tuneHere", "()I"⟩, 58) := ⟨⟨by decide +kernel, by decide +kernel⟩, List.mem_of_getElem? (i := 925) (by decide +kernel), List.mem_of_getElem? (i := 1177) (by decide +kernel), List.mem_of_getElem? (i := 1178) (by decide +kernel)⟩
theorem lw_p42 : lw_okq (⟨"TuneLocksModel", "here", "([JII)I"⟩, 58) := ⟨⟨by decide +kernel, by decide +kernel⟩, List.mem_of_getElem? (i := 925) (by decide +kernel), List.mem_of_getElem? (i := 1181) (by decide +kernel), List.mem_of_getElem? (i := 1182) (by decide +kernel)⟩
theorem lw_p43 : lw_okq (⟨"TuneLocksModel", "fresh", "(Z)J"⟩, 58) := ⟨⟨by decide +kernel, by decide +kernel⟩, List.mem_of_getElem? (i := 925) (by decide +kernel), List.mem_of_getElem? (i := 1185) (by decide +kernel), List.mem_of_getElem? (i := 1186) (by decide +kernel)⟩
theorem lw_p44 : lw_okq (⟨"TuneLocksModel", "must", "(Z)V"⟩, 58) := ⟨⟨by decide +kernel, by decide +kernel⟩, List.mem_of_getElem? (i := 925) (by decide +kernel), List.mem_of_getElem? (i := 1189) (by decide +kernel), List.mem_of_getElem? (i := 1190) (by decide +kernel)⟩
theorem lw_p45 : lw_okq (⟨"TuneLocksModel", "numeral", "(II)I"⟩, 58) := ⟨⟨by decide +kernel, by decide +kernel⟩, List.mem_of_getElem? (i := 925) (by decide +kernel), List.mem_of_getElem? (i := 1193) (by decide +kernel), List.mem_of_getElem? (i := 1194) (by decide +kernel)⟩
theorem lw_p46 : lw_okq (⟨"TuneLocksModel", "readLock", "()V"⟩, 58) := ⟨⟨by decide +kernel, by decide +kernel⟩, List.mem_of_getElem? (i := 925) (by decide +kernel), List.mem_of_getElem? (i := 1197) (by decide +kernel), List.mem_of_getElem? (i := 1198) (by decide +kernel)⟩
theorem lw_p47 : lw_okq (⟨"TuneLocksModel", "e", "()V"⟩, 58) := ⟨⟨by decide +kernel, by decide +kernel⟩, List.mem_of_getElem? (i := 925) (by decide +kernel), List.mem_of_getElem? (i := 1201) (by decide +kernel), List.mem_of_getElem? (i := 1202) (by decide +kernel)⟩
def lw_privs_3 : List (MethodName × Nat) := [(⟨"TuneLocksModel", "goOn", "()V"⟩, 58), (⟨"TuneLocksModel", "sign", "(I)I"⟩, 58), (⟨"TuneLocksModel", "isGood", "()Z"⟩, 58), (⟨"TuneLocksModel", "readLine", "()V"⟩, 58), (⟨"TuneLocksModel", "isFull", "()Z"⟩, 58), (⟨"TuneLocksModel", "isWord", "(J)Z"⟩, 58), (⟨"TuneLocksModel", "misplaced", "()V"⟩, 58), (⟨"TuneLocksModel", "fails", "(II)V"⟩, 58), (⟨"TuneLocksModel", "readTune", "()V"⟩, 58), (⟨"TuneLocksModel", "tuneHere", "()I"⟩, 58), (⟨"TuneLocksModel", "here", "([JII)I"⟩, 58), (⟨"TuneLocksModel", "fresh", "(Z)J"⟩, 58), (⟨"TuneLocksModel", "must", "(Z)V"⟩, 58), (⟨"TuneLocksModel", "numeral", "(II)I"⟩, 58), (⟨"TuneLocksModel", "readLock", "()V"⟩, 58), (⟨"TuneLocksModel", "e", "()V"⟩, 58)]
theorem lw_r3 : ∀ q ∈ lw_privs_3, lw_okq q := List.forall_mem_cons.mpr ⟨lw_p32, List.forall_mem_cons.mpr ⟨lw_p33, List.forall_mem_cons.mpr ⟨lw_p34, List.forall_mem_cons.mpr ⟨lw_p35, List.forall_mem_cons.mpr ⟨lw_p36, List.forall_mem_cons.mpr ⟨lw_p37, List.forall_mem_cons.mpr ⟨lw_p38, List.forall_mem_cons.mpr ⟨lw_p39, List.forall_mem_cons.mpr ⟨lw_p40, List.forall_mem_cons.mpr ⟨lw_p41, List.forall_mem_cons.mpr ⟨lw_p42, List.forall_mem_cons.mpr ⟨lw_p43, List.forall_mem_cons.mpr ⟨lw_p44, List.forall_mem_cons.mpr ⟨lw_p45, List.forall_mem_cons.mpr ⟨lw_p46, List.forall_mem_cons.mpr ⟨lw_p47, fun _ h => absurd h List.not_mem_nil⟩⟩⟩⟩⟩⟩⟩⟩⟩⟩⟩⟩⟩⟩⟩⟩
theorem lw_p48 : lw_okq (⟨"TuneLocksModel", "pushE", "(II)V"⟩, 58) := ⟨⟨by decide +kernel, by decide +kernel⟩, List.mem_of_getElem? (i := 925) (by decide +kernel), List.mem_of_getElem? (i := 1205) (by decide +kernel), List.mem_of_getElem? (i := 1206) (by decide +kernel)⟩
theorem lw_p49 : lw_okq (⟨"TuneLocksModel", "unit", "()Z"⟩, 58) := ⟨⟨by decide +kernel, by decide +kernel⟩, List.mem_of_getElem? (i := 925) (by decide +kernel), List.mem_of_getElem? (i := 1209) (by decide +kernel), List.mem_of_getElem? (i := 1210) (by decide +kernel)⟩
theorem lw_p50 : lw_okq (⟨"TuneLocksModel", "stands", "(I)Z"⟩, 58) := ⟨⟨by decide +kernel, by decide +kernel⟩, List.mem_of_getElem? (i := 925) (by decide +kernel), List.mem_of_getElem? (i := 1213) (by decide +kernel), List.mem_of_getElem? (i := 1214) (by decide +kernel)⟩
theorem lw_p51 : lw_okq (⟨"TuneLocksModel", "wordHere", "()I"⟩, 58) := ⟨⟨by decide +kernel, by decide +kernel⟩, List.mem_of_getElem? (i := 925) (by decide +kernel), List.mem_of_getElem? (i := 1217) (by decide +kernel), List.mem_of_getElem? (i := 1218) (by decide +kernel)⟩
theorem lw_p52 : lw_okq (⟨"TuneLocksModel", "emit", "(II)V"⟩, 58) := ⟨⟨by decide +kernel, by decide +kernel⟩, List.mem_of_getElem? (i := 925) (by decide +kernel), List.mem_of_getElem? (i := 1221) (by decide +kernel), List.mem_of_getElem? (i := 1222) (by decide +kernel)⟩
theorem lw_p53 : lw_okq (⟨"TuneLocksModel", "behindUnit", "()Z"⟩, 58) := ⟨⟨by decide +kernel, by decide +kernel⟩, List.mem_of_getElem? (i := 925) (by decide +kernel), List.mem_of_getElem? (i := 1225) (by decide +kernel), List.mem_of_getElem? (i := 1226) (by decide +kernel)⟩
theorem lw_p54 : lw_okq (⟨"TuneLocksModel", "rankHere", "()I"⟩, 58) := ⟨⟨by decide +kernel, by decide +kernel⟩, List.mem_of_getElem? (i := 925) (by decide +kernel), List.mem_of_getElem? (i := 1229) (by decide +kernel), List.mem_of_getElem? (i := 1230) (by decide +kernel)⟩
theorem lw_p55 : lw_okq (⟨"TuneLocksModel", "isCompared", "()Z"⟩, 58) := ⟨⟨by decide +kernel, by decide +kernel⟩, List.mem_of_getElem? (i := 925) (by decide +kernel), List.mem_of_getElem? (i := 1233) (by decide +kernel), List.mem_of_getElem? (i := 1234) (by decide +kernel)⟩
theorem lw_p56 : lw_okq (⟨"TuneLocksModel", "readSweet", "()V"⟩, 58) := ⟨⟨by decide +kernel, by decide +kernel⟩, List.mem_of_getElem? (i := 925) (by decide +kernel), List.mem_of_getElem? (i := 1237) (by decide +kernel), List.mem_of_getElem? (i := 1238) (by decide +kernel)⟩
theorem lw_p57 : lw_okq (⟨"TuneLocksModel", "isTune", "(I)Z"⟩, 58) := ⟨⟨by decide +kernel, by decide +kernel⟩, List.mem_of_getElem? (i := 925) (by decide +kernel), List.mem_of_getElem? (i := 1249) (by decide +kernel), List.mem_of_getElem? (i := 1250) (by decide +kernel)⟩
theorem lw_p58 : lw_okq (⟨"TuneLocksModel", "songOf", "(I)I"⟩, 58) := ⟨⟨by decide +kernel, by decide +kernel⟩, List.mem_of_getElem? (i := 925) (by decide +kernel), List.mem_of_getElem? (i := 1256) (by decide +kernel), List.mem_of_getElem? (i := 1257) (by decide +kernel)⟩
theorem lw_p59 : lw_okq (⟨"TuneLocksModel", "manyOf", "(I)I"⟩, 58) := ⟨⟨by decide +kernel, by decide +kernel⟩, List.mem_of_getElem? (i := 925) (by decide +kernel), List.mem_of_getElem? (i := 1260) (by decide +kernel), List.mem_of_getElem? (i := 1261) (by decide +kernel)⟩
theorem lw_p60 : lw_okq (⟨"TuneLocksModel", "stepOf", "(II)I"⟩, 58) := ⟨⟨by decide +kernel, by decide +kernel⟩, List.mem_of_getElem? (i := 925) (by decide +kernel), List.mem_of_getElem? (i := 1268) (by decide +kernel), List.mem_of_getElem? (i := 1269) (by decide +kernel)⟩
theorem lw_p61 : lw_okq (⟨"TuneLocksModel", "offAt", "(III)I"⟩, 58) := ⟨⟨by decide +kernel, by decide +kernel⟩, List.mem_of_getElem? (i := 925) (by decide +kernel), List.mem_of_getElem? (i := 1277) (by decide +kernel), List.mem_of_getElem? (i := 1278) (by decide +kernel)⟩
theorem lw_p62 : lw_okq (⟨"TuneLocksModel", "isOutOfPace", "(IIII)Z"⟩, 58) := ⟨⟨by decide +kernel, by decide +kernel⟩, List.mem_of_getElem? (i := 925) (by decide +kernel), List.mem_of_getElem? (i := 1281) (by decide +kernel), List.mem_of_getElem? (i := 1282) (by decide +kernel)⟩
theorem lw_p63 : lw_okq (⟨"TuneLocksModel", "inWhat", "(III)I"⟩, 58) := ⟨⟨by decide +kernel, by decide +kernel⟩, List.mem_of_getElem? (i := 925) (by decide +kernel), List.mem_of_getElem? (i := 1292) (by decide +kernel), List.mem_of_getElem? (i := 1293) (by decide +kernel)⟩
def lw_privs_4 : List (MethodName × Nat) := [(⟨"TuneLocksModel", "pushE", "(II)V"⟩, 58), (⟨"TuneLocksModel", "unit", "()Z"⟩, 58), (⟨"TuneLocksModel", "stands", "(I)Z"⟩, 58), (⟨"TuneLocksModel", "wordHere", "()I"⟩, 58), (⟨"TuneLocksModel", "emit", "(II)V"⟩, 58), (⟨"TuneLocksModel", "behindUnit", "()Z"⟩, 58), (⟨"TuneLocksModel", "rankHere", "()I"⟩, 58), (⟨"TuneLocksModel", "isCompared", "()Z"⟩, 58), (⟨"TuneLocksModel", "readSweet", "()V"⟩, 58), (⟨"TuneLocksModel", "isTune", "(I)Z"⟩, 58), (⟨"TuneLocksModel", "songOf", "(I)I"⟩, 58), (⟨"TuneLocksModel", "manyOf", "(I)I"⟩, 58), (⟨"TuneLocksModel", "stepOf", "(II)I"⟩, 58), (⟨"TuneLocksModel", "offAt", "(III)I"⟩, 58), (⟨"TuneLocksModel", "isOutOfPace", "(IIII)Z"⟩, 58), (⟨"TuneLocksModel", "inWhat", "(III)I"⟩, 58)]
theorem lw_r4 : ∀ q ∈ lw_privs_4, lw_okq q := List.forall_mem_cons.mpr ⟨lw_p48, List.forall_mem_cons.mpr ⟨lw_p49, List.forall_mem_cons.mpr ⟨lw_p50, List.forall_mem_cons.mpr ⟨lw_p51, List.forall_mem_cons.mpr ⟨lw_p52, List.forall_mem_cons.mpr ⟨lw_p53, List.forall_mem_cons.mpr ⟨lw_p54, List.forall_mem_cons.mpr ⟨lw_p55, List.forall_mem_cons.mpr ⟨lw_p56, List.forall_mem_cons.mpr ⟨lw_p57, List.forall_mem_cons.mpr ⟨lw_p58, List.forall_mem_cons.mpr ⟨lw_p59, List.forall_mem_cons.mpr ⟨lw_p60, List.forall_mem_cons.mpr ⟨lw_p61, List.forall_mem_cons.mpr ⟨lw_p62, List.forall_mem_cons.mpr ⟨lw_p63, fun _ h => absurd h List.not_mem_nil⟩⟩⟩⟩⟩⟩⟩⟩⟩⟩⟩⟩⟩⟩⟩⟩
theorem lw_p64 : lw_okq (⟨"TuneLocksModel", "placeOf", "(II)I"⟩, 58) := ⟨⟨by decide +kernel, by decide +kernel⟩, List.mem_of_getElem? (i := 925) (by decide +kernel), List.mem_of_getElem? (i := 1296) (by decide +kernel), List.mem_of_getElem? (i := 1297) (by decide +kernel)⟩
theorem lw_p65 : lw_okq (⟨"TuneLocksModel", "firstOff", "(III)I"⟩, 58) := ⟨⟨by decide +kernel, by decide +kernel⟩, List.mem_of_getElem? (i := 925) (by decide +kernel), List.mem_of_getElem? (i := 1300) (by decide +kernel), List.mem_of_getElem? (i := 1301) (by decide +kernel)⟩
theorem lw_p66 : lw_okq (⟨"TuneLocksModel", "opens", "(IIZI)Z"⟩, 58) := ⟨⟨by decide +kernel, by decide +kernel⟩, List.mem_of_getElem? (i := 925) (by decide +kernel), List.mem_of_getElem? (i := 1308) (by decide +kernel), List.mem_of_getElem? (i := 1309) (by decide +kernel)⟩
theorem lw_p67 : lw_okq (⟨"TuneLocksModel", "comes", "(IIZI)I"⟩, 58) := ⟨⟨by decide +kernel, by decide +kernel⟩, List.mem_of_getElem? (i := 925) (by decide +kernel), List.mem_of_getElem? (i := 1312) (by decide +kernel), List.mem_of_getElem? (i := 1313) (by decide +kernel)⟩
theorem lw_p68 : lw_okq (⟨"TuneLocksModel", "amount", "(IIIZI)I"⟩, 58) := ⟨⟨by decide +kernel, by decide +kernel⟩, List.mem_of_getElem? (i := 925) (by decide +kernel), List.mem_of_getElem? (i := 1316) (by decide +kernel), List.mem_of_getElem? (i := 1317) (by decide +kernel)⟩
theorem lw_p69 : lw_okq (⟨"TuneLocksModel", "nearBy", "(II)I"⟩, 58) := ⟨⟨by decide +kernel, by decide +kernel⟩, List.mem_of_getElem? (i := 925) (by decide +kernel), List.mem_of_getElem? (i := 1320) (by decide +kernel), List.mem_of_getElem? (i := 1321) (by decide +kernel)⟩
theorem lw_p70 : lw_okq (⟨"TuneLocksModel", "isWithin", "(III)Z"⟩, 58) := ⟨⟨by decide +kernel, by decide +kernel⟩, List.mem_of_getElem? (i := 925) (by decide +kernel), List.mem_of_getElem? (i := 1324) (by decide +kernel), List.mem_of_getElem? (i := 1325) (by decide +kernel)⟩
theorem lw_p71 : lw_okq (⟨"TuneLocksModel", "isLock", "(I)Z"⟩, 58) := ⟨⟨by decide +kernel, by decide +kernel⟩, List.mem_of_getElem? (i := 925) (by decide +kernel), List.mem_of_getElem? (i := 1335) (by decide +kernel), List.mem_of_getElem? (i := 1336) (by decide +kernel)⟩
theorem lw_p72 : lw_okq (⟨"TuneLocksModel", "keepTunes", "(I)V"⟩, 58) := ⟨⟨by decide +kernel, by decide +kernel⟩, List.mem_of_getElem? (i := 925) (by decide +kernel), List.mem_of_getElem? (i := 1350) (by decide +kernel), List.mem_of_getElem? (i := 1351) (by decide +kernel)⟩
theorem lw_p73 : lw_okq (⟨"TuneLocksModel", "isAlike", "(II)Z"⟩, 58) := ⟨⟨by decide +kernel, by decide +kernel⟩, List.mem_of_getElem? (i := 925) (by decide +kernel), List.mem_of_getElem? (i := 1354) (by decide +kernel), List.mem_of_getElem? (i := 1355) (by decide +kernel)⟩
theorem lw_p74 : lw_okq (⟨"TuneLocksModel", "overlap", "(II)I"⟩, 58) := ⟨⟨by decide +kernel, by decide +kernel⟩, List.mem_of_getElem? (i := 925) (by decide +kernel), List.mem_of_getElem? (i := 1358) (by decide +kernel), List.mem_of_getElem? (i := 1359) (by decide +kernel)⟩
theorem lw_p75 : lw_okq (⟨"TuneLocksModel", "fits", "(III)Z"⟩, 58) := ⟨⟨by decide +kernel, by decide +kernel⟩, List.mem_of_getElem? (i := 925) (by decide +kernel), List.mem_of_getElem? (i := 1362) (by decide +kernel), List.mem_of_getElem? (i := 1363) (by decide +kernel)⟩
theorem lw_p76 : lw_okq (⟨"TuneLocksModel", "layMaster", "()V"⟩, 58) := ⟨⟨by decide +kernel, by decide +kernel⟩, List.mem_of_getElem? (i := 925) (by decide +kernel), List.mem_of_getElem? (i := 1366) (by decide +kernel), List.mem_of_getElem? (i := 1367) (by decide +kernel)⟩
theorem lw_p77 : lw_okq (⟨"TuneLocksModel", "nextRow", "()Z"⟩, 58) := ⟨⟨by decide +kernel, by decide +kernel⟩, List.mem_of_getElem? (i := 925) (by decide +kernel), List.mem_of_getElem? (i := 1370) (by decide +kernel), List.mem_of_getElem? (i := 1371) (by decide +kernel)⟩
theorem lw_p78 : lw_okq (⟨"TuneLocksModel", "roundOf", "(II)I"⟩, 58) := ⟨⟨by decide +kernel, by decide +kernel⟩, List.mem_of_getElem? (i := 925) (by decide +kernel), List.mem_of_getElem? (i := 1378) (by decide +kernel), List.mem_of_getElem? (i := 1379) (by decide +kernel)⟩
theorem lw_p79 : lw_okq (⟨"TuneLocksModel", "lengthOf", "(I)I"⟩, 58) := ⟨⟨by decide +kernel, by decide +kernel⟩, List.mem_of_getElem? (i := 925) (by decide +kernel), List.mem_of_getElem? (i := 1382) (by decide +kernel), List.mem_of_getElem? (i := 1383) (by decide +kernel)⟩
def lw_privs_5 : List (MethodName × Nat) := [(⟨"TuneLocksModel", "placeOf", "(II)I"⟩, 58), (⟨"TuneLocksModel", "firstOff", "(III)I"⟩, 58), (⟨"TuneLocksModel", "opens", "(IIZI)Z"⟩, 58), (⟨"TuneLocksModel", "comes", "(IIZI)I"⟩, 58), (⟨"TuneLocksModel", "amount", "(IIIZI)I"⟩, 58), (⟨"TuneLocksModel", "nearBy", "(II)I"⟩, 58), (⟨"TuneLocksModel", "isWithin", "(III)Z"⟩, 58), (⟨"TuneLocksModel", "isLock", "(I)Z"⟩, 58), (⟨"TuneLocksModel", "keepTunes", "(I)V"⟩, 58), (⟨"TuneLocksModel", "isAlike", "(II)Z"⟩, 58), (⟨"TuneLocksModel", "overlap", "(II)I"⟩, 58), (⟨"TuneLocksModel", "fits", "(III)Z"⟩, 58), (⟨"TuneLocksModel", "layMaster", "()V"⟩, 58), (⟨"TuneLocksModel", "nextRow", "()Z"⟩, 58), (⟨"TuneLocksModel", "roundOf", "(II)I"⟩, 58), (⟨"TuneLocksModel", "lengthOf", "(I)I"⟩, 58)]
theorem lw_r5 : ∀ q ∈ lw_privs_5, lw_okq q := List.forall_mem_cons.mpr ⟨lw_p64, List.forall_mem_cons.mpr ⟨lw_p65, List.forall_mem_cons.mpr ⟨lw_p66, List.forall_mem_cons.mpr ⟨lw_p67, List.forall_mem_cons.mpr ⟨lw_p68, List.forall_mem_cons.mpr ⟨lw_p69, List.forall_mem_cons.mpr ⟨lw_p70, List.forall_mem_cons.mpr ⟨lw_p71, List.forall_mem_cons.mpr ⟨lw_p72, List.forall_mem_cons.mpr ⟨lw_p73, List.forall_mem_cons.mpr ⟨lw_p74, List.forall_mem_cons.mpr ⟨lw_p75, List.forall_mem_cons.mpr ⟨lw_p76, List.forall_mem_cons.mpr ⟨lw_p77, List.forall_mem_cons.mpr ⟨lw_p78, List.forall_mem_cons.mpr ⟨lw_p79, fun _ h => absurd h List.not_mem_nil⟩⟩⟩⟩⟩⟩⟩⟩⟩⟩⟩⟩⟩⟩⟩⟩
theorem lw_p80 : lw_okq (⟨"TuneLocksModel", "highAt", "(II)I"⟩, 58) := ⟨⟨by decide +kernel, by decide +kernel⟩, List.mem_of_getElem? (i := 925) (by decide +kernel), List.mem_of_getElem? (i := 1386) (by decide +kernel), List.mem_of_getElem? (i := 1387) (by decide +kernel)⟩
theorem lw_p81 : lw_okq (⟨"TuneLocksModel", "deafAt", "(IIII)I"⟩, 58) := ⟨⟨by decide +kernel, by decide +kernel⟩, List.mem_of_getElem? (i := 925) (by decide +kernel), List.mem_of_getElem? (i := 1398) (by decide +kernel), List.mem_of_getElem? (i := 1399) (by decide +kernel)⟩
theorem lw_p82 : lw_okq (⟨"TuneLocksModel", "moved", "(IIII)I"⟩, 58) := ⟨⟨by decide +kernel, by decide +kernel⟩, List.mem_of_getElem? (i := 925) (by decide +kernel), List.mem_of_getElem? (i := 1402) (by decide +kernel), List.mem_of_getElem? (i := 1403) (by decide +kernel)⟩
def lw_privs_6 : List (MethodName × Nat) := [(⟨"TuneLocksModel", "highAt", "(II)I"⟩, 58), (⟨"TuneLocksModel", "deafAt", "(IIII)I"⟩, 58), (⟨"TuneLocksModel", "moved", "(IIII)I"⟩, 58)]
theorem lw_r6 : ∀ q ∈ lw_privs_6, lw_okq q := List.forall_mem_cons.mpr ⟨lw_p80, List.forall_mem_cons.mpr ⟨lw_p81, List.forall_mem_cons.mpr ⟨lw_p82, fun _ h => absurd h List.not_mem_nil⟩⟩⟩
def lw_privs : List (MethodName × Nat) := lw_privs_1 ++ (lw_privs_2 ++ (lw_privs_3 ++ (lw_privs_4 ++ (lw_privs_5 ++ (lw_privs_6)))))
def lw_tbl : List Cond := k2_sels lw_privs ++ tables_1
theorem lw_privs_ok : ∀ q ∈ lw_privs, lw_okq q := by
  show ∀ q ∈ lw_privs_1 ++ (lw_privs_2 ++ (lw_privs_3 ++ (lw_privs_4 ++ (lw_privs_5 ++ (lw_privs_6))))), lw_okq q
  exact List.forall_mem_append.mpr ⟨lw_r1, List.forall_mem_append.mpr ⟨lw_r2, List.forall_mem_append.mpr ⟨lw_r3, List.forall_mem_append.mpr ⟨lw_r4, List.forall_mem_append.mpr ⟨lw_r5, lw_r6⟩⟩⟩⟩⟩
end
section
def RX0 : String := "TuneLocks$Canon"
def TX0 : u_T := fun k => match k with
  | 0 => ("TuneLocks$Canon", "moments", "[I", true)
  | _ => ("TuneLocks$Canon", "count", "I", false)
def tyX0 : Nat → FieldType := fun k => match k with
  | 0 => .array .int
  | _ => .int
abbrev wsX00 : List Cond := u_ws RX0 TX0 2
theorem nmX0 : ∀ a, a < 2 → ∀ b, b < 2 → a ≠ b → (TX0 a).2.1 ≠ (TX0 b).2.1 := by decide +kernel
theorem tyX0_ok : ∀ k, k < 2 → parseFieldDescriptor (TX0 k).2.2.1 = some (tyX0 k) := by decide +kernel
abbrev cX0_init : ByteArray := prog_2_method_1_code
def yX0_init : MethodName := ⟨RX0, "<init>", "()V"⟩
abbrev cX0_take : ByteArray := prog_2_method_2_code
def yX0_take : MethodName := ⟨RX0, "take", "(LTuneLocks$Song;)V"⟩
abbrev cX0_notSweet : ByteArray := prog_2_method_3_code
def yX0_notSweet : MethodName := ⟨RX0, "notSweet", "(I[Z)I"⟩
abbrev cX0_bestLater : ByteArray := prog_2_method_4_code
def yX0_bestLater : MethodName := ⟨RX0, "bestLater", "([Z)I"⟩
def RX1 : String := "TuneLocks$Deal"
def TX1 : u_T := fun k => match k with
  | 0 => ("TuneLocks$Deal", "nearBits", "[I", true)
  | 1 => ("TuneLocks$Deal", "best", "I", false)
  | _ => ("TuneLocks$Deal", "bestSize", "I", false)
def tyX1 : Nat → FieldType := fun k => match k with
  | 0 => .array .int
  | 1 => .int
  | _ => .int
abbrev wsX10 : List Cond := u_ws RX1 TX1 3
theorem nmX1 : ∀ a, a < 3 → ∀ b, b < 3 → a ≠ b → (TX1 a).2.1 ≠ (TX1 b).2.1 := by decide +kernel
theorem tyX1_ok : ∀ k, k < 3 → parseFieldDescriptor (TX1 k).2.2.1 = some (tyX1 k) := by decide +kernel
abbrev cX1_init : ByteArray := prog_3_method_1_code
def yX1_init : MethodName := ⟨RX1, "<init>", "()V"⟩
abbrev cX1_choose : ByteArray := prog_3_method_2_code
def yX1_choose : MethodName := ⟨RX1, "choose", "(LTuneLocks$Town;I)I"⟩
abbrev cX1_pick : ByteArray := prog_3_method_3_code
def yX1_pick : MethodName := ⟨RX1, "pick", "(LTuneLocks$Deal;III)V"⟩
def RX2 : String := "TuneLocks$Hearing"
def TX2 : u_T := fun k => match k with
  | 0 => ("TuneLocks$Hearing", "place", "[I", true)
  | 1 => ("TuneLocks$Hearing", "least", "[I", true)
  | 2 => ("TuneLocks$Hearing", "atFirst", "[I", true)
  | 3 => ("TuneLocks$Hearing", "atLast", "[I", true)
  | _ => ("TuneLocks$Hearing", "notes", "I", false)
def tyX2 : Nat → FieldType := fun k => match k with
  | 0 => .array .int
  | 1 => .array .int
  | 2 => .array .int
  | 3 => .array .int
  | _ => .int
abbrev wsX20 : List Cond := u_ws RX2 TX2 5
theorem nmX2 : ∀ a, a < 5 → ∀ b, b < 5 → a ≠ b → (TX2 a).2.1 ≠ (TX2 b).2.1 := by decide +kernel
theorem tyX2_ok : ∀ k, k < 5 → parseFieldDescriptor (TX2 k).2.2.1 = some (tyX2 k) := by decide +kernel
abbrev cX2_init : ByteArray := prog_4_method_1_code
def yX2_init : MethodName := ⟨RX2, "<init>", "()V"⟩
abbrev cX2_hearAll : ByteArray := prog_4_method_2_code
def yX2_hearAll : MethodName := ⟨RX2, "hearAll", "(LTuneLocks$Song;LTuneLocks$Town;)V"⟩
abbrev cX2_hearLast : ByteArray := prog_4_method_3_code
def yX2_hearLast : MethodName := ⟨RX2, "hearLast", "(LTuneLocks$Song;LTuneLocks$Town;)V"⟩
abbrev cX2_hearAt : ByteArray := prog_4_method_4_code
def yX2_hearAt : MethodName := ⟨RX2, "hearAt", "(III)V"⟩
def RX3 : String := "TuneLocks$Laying"
def TX3 : u_T := fun k => match k with
  | 0 => ("TuneLocks$Laying", "members", "[I", true)
  | 1 => ("TuneLocks$Laying", "lengths", "[I", true)
  | 2 => ("TuneLocks$Laying", "count", "I", false)
  | 3 => ("TuneLocks$Laying", "overlaps", "[[I", true)
  | 4 => ("TuneLocks$Laying", "row", "[I", true)
  | 5 => ("TuneLocks$Laying", "bestRow", "[I", true)
  | _ => ("TuneLocks$Laying", "fewest", "I", false)
def tyX3 : Nat → FieldType := fun k => match k with
  | 0 => .array .int
  | 1 => .array .int
  | 2 => .int
  | 3 => .array (.array .int)
  | 4 => .array .int
  | 5 => .array .int
  | _ => .int
abbrev wsX30 : List Cond := u_ws RX3 TX3 7
theorem nmX3 : ∀ a, a < 7 → ∀ b, b < 7 → a ≠ b → (TX3 a).2.1 ≠ (TX3 b).2.1 := by decide +kernel
theorem tyX3_ok : ∀ k, k < 7 → parseFieldDescriptor (TX3 k).2.2.1 = some (tyX3 k) := by decide +kernel
abbrev cX3_init : ByteArray := prog_5_method_1_code
def yX3_init : MethodName := ⟨RX3, "<init>", "()V"⟩
abbrev cX3_fewestNotes : ByteArray := prog_5_method_2_code
def yX3_fewestNotes : MethodName := ⟨RX3, "fewestNotes", "()I"⟩
abbrev cX3_laidAt : ByteArray := prog_5_method_3_code
def yX3_laidAt : MethodName := ⟨RX3, "laidAt", "(I)I"⟩
abbrev cX3_lay : ByteArray := prog_5_method_4_code
def yX3_lay : MethodName := ⟨RX3, "lay", "(LTuneLocks$Town;I)V"⟩
abbrev cX3_isLeftOut : ByteArray := prog_5_method_5_code
def yX3_isLeftOut : MethodName := ⟨RX3, "isLeftOut", "(LTuneLocks$Town;II)Z"⟩
abbrev cX3_overlap : ByteArray := prog_5_method_6_code
def yX3_overlap : MethodName := ⟨RX3, "overlap", "(LTuneLocks$Song;LTuneLocks$Song;)I"⟩
abbrev cX3_layNext : ByteArray := prog_5_method_7_code
def yX3_layNext : MethodName := ⟨RX3, "layNext", "(LTuneLocks$Laying;III)V"⟩
def RX4 : String := "TuneLocks$Lock"
def TX4 : u_T := fun k => match k with
  | 0 => ("TuneLocks$Lock", "name", "J", false)
  | 1 => ("TuneLocks$Lock", "near", "I", false)
  | 2 => ("TuneLocks$Lock", "from", "I", false)
  | 3 => ("TuneLocks$Lock", "to", "I", false)
  | 4 => ("TuneLocks$Lock", "toldByDay", "I", false)
  | _ => ("TuneLocks$Lock", "toldAtNight", "I", false)
def tyX4 : Nat → FieldType := fun k => match k with
  | 0 => .long
  | 1 => .int
  | 2 => .int
  | 3 => .int
  | 4 => .int
  | _ => .int
abbrev wsX40 : List Cond := u_ws RX4 TX4 6
theorem nmX4 : ∀ a, a < 6 → ∀ b, b < 6 → a ≠ b → (TX4 a).2.1 ≠ (TX4 b).2.1 := by decide +kernel
theorem tyX4_ok : ∀ k, k < 6 → parseFieldDescriptor (TX4 k).2.2.1 = some (tyX4 k) := by decide +kernel
abbrev cX4_init : ByteArray := prog_6_method_1_code
def yX4_init : MethodName := ⟨RX4, "<init>", "()V"⟩
abbrev cX4_nearWorn : ByteArray := prog_6_method_2_code
def yX4_nearWorn : MethodName := ⟨RX4, "nearWorn", "(I)I"⟩
abbrev cX4_opensToldBits : ByteArray := prog_6_method_3_code
def yX4_opensToldBits : MethodName := ⟨RX4, "opensToldBits", "(Z)I"⟩
def RX5 : String := "TuneLocks$Questions"
def TX5 : u_T := fun k => match k with
  | 0 => ("TuneLocks$Questions", "sorts", "[I", true)
  | 1 => ("TuneLocks$Questions", "values", "[I", true)
  | 2 => ("TuneLocks$Questions", "count", "I", false)
  | 3 => ("TuneLocks$Questions", "stack", "[I", true)
  | _ => ("TuneLocks$Questions", "top", "I", false)
def tyX5 : Nat → FieldType := fun k => match k with
  | 0 => .array .int
  | 1 => .array .int
  | 2 => .int
  | 3 => .array .int
  | _ => .int
abbrev wsX50 : List Cond := u_ws RX5 TX5 5
theorem nmX5 : ∀ a, a < 5 → ∀ b, b < 5 → a ≠ b → (TX5 a).2.1 ≠ (TX5 b).2.1 := by decide +kernel
theorem tyX5_ok : ∀ k, k < 5 → parseFieldDescriptor (TX5 k).2.2.1 = some (tyX5 k) := by decide +kernel
abbrev cX5_init : ByteArray := prog_7_method_1_code
def yX5_init : MethodName := ⟨RX5, "<init>", "()V"⟩
abbrev cX5_add : ByteArray := prog_7_method_2_code
def yX5_add : MethodName := ⟨RX5, "add", "(II)V"⟩
abbrev cX5_answer : ByteArray := prog_7_method_3_code
def yX5_answer : MethodName := ⟨RX5, "answer", "(LTuneLocks$Lock;LTuneLocks$Hearing;ZI)I"⟩
abbrev cX5_push : ByteArray := prog_7_method_4_code
def yX5_push : MethodName := ⟨RX5, "push", "(I)V"⟩
abbrev cX5_pop : ByteArray := prog_7_method_5_code
def yX5_pop : MethodName := ⟨RX5, "pop", "()I"⟩
abbrev cX5_isNear : ByteArray := prog_7_method_6_code
def yX5_isNear : MethodName := ⟨RX5, "isNear", "([III)I"⟩
abbrev cX5_join : ByteArray := prog_7_method_7_code
def yX5_join : MethodName := ⟨RX5, "join", "(III)I"⟩
def RX6 : String := "TuneLocks$Reader"
def TX6 : u_T := fun k => match k with
  | 0 => ("TuneLocks$Reader", "text", "[B", true)
  | 1 => ("TuneLocks$Reader", "size", "I", true)
  | 2 => ("TuneLocks$Reader", "town", "LTuneLocks$Town;", true)
  | 3 => ("TuneLocks$Reader", "at", "I", false)
  | 4 => ("TuneLocks$Reader", "sort", "I", false)
  | 5 => ("TuneLocks$Reader", "place", "I", false)
  | 6 => ("TuneLocks$Reader", "number", "I", false)
  | 7 => ("TuneLocks$Reader", "word", "J", false)
  | 8 => ("TuneLocks$Reader", "sweetTold", "Z", false)
  | 9 => ("TuneLocks$Reader", "fault", "I", false)
  | _ => ("TuneLocks$Reader", "faultPlace", "I", false)
def tyX6 : Nat → FieldType := fun k => match k with
  | 0 => .array .byte
  | 1 => .int
  | 2 => .object "TuneLocks$Town"
  | 3 => .int
  | 4 => .int
  | 5 => .int
  | 6 => .int
  | 7 => .long
  | 8 => .boolean
  | 9 => .int
  | _ => .int
abbrev wsX60 : List Cond := u_ws RX6 TX6 11
theorem nmX6 : ∀ a, a < 11 → ∀ b, b < 11 → a ≠ b → (TX6 a).2.1 ≠ (TX6 b).2.1 := by decide +kernel
theorem tyX6_ok : ∀ k, k < 11 → parseFieldDescriptor (TX6 k).2.2.1 = some (tyX6 k) := by decide +kernel
abbrev cX6_init : ByteArray := prog_8_method_1_code
def yX6_init : MethodName := ⟨RX6, "<init>", "([BILTuneLocks$Town;)V"⟩
abbrev cX6_readTown : ByteArray := prog_8_method_2_code
def yX6_readTown : MethodName := ⟨RX6, "readTown", "()Z"⟩
abbrev cX6_readTune : ByteArray := prog_8_method_3_code
def yX6_readTune : MethodName := ⟨RX6, "readTune", "()Z"⟩
abbrev cX6_readNotes : ByteArray := prog_8_method_4_code
def yX6_readNotes : MethodName := ⟨RX6, "readNotes", "(LTuneLocks$Song;)Z"⟩
abbrev cX6_readLock : ByteArray := prog_8_method_5_code
def yX6_readLock : MethodName := ⟨RX6, "readLock", "()Z"⟩
abbrev cX6_readSweet : ByteArray := prog_8_method_6_code
def yX6_readSweet : MethodName := ⟨RX6, "readSweet", "()Z"⟩
abbrev cX6_readE : ByteArray := prog_8_method_7_code
def yX6_readE : MethodName := ⟨RX6, "readE", "(I)Z"⟩
abbrev cX6_readBoth : ByteArray := prog_8_method_8_code
def yX6_readBoth : MethodName := ⟨RX6, "readBoth", "(I)Z"⟩
abbrev cX6_readOne : ByteArray := prog_8_method_9_code
def yX6_readOne : MethodName := ⟨RX6, "readOne", "(I)Z"⟩
abbrev cX6_readNot : ByteArray := prog_8_method_10_code
def yX6_readNot : MethodName := ⟨RX6, "readNot", "(I)Z"⟩
abbrev cX6_readSum : ByteArray := prog_8_method_11_code
def yX6_readSum : MethodName := ⟨RX6, "readSum", "(I)Z"⟩
abbrev cX6_readUnit : ByteArray := prog_8_method_12_code
def yX6_readUnit : MethodName := ⟨RX6, "readUnit", "(I)Z"⟩
abbrev cX6_beginsUnit : ByteArray := prog_8_method_13_code
def yX6_beginsUnit : MethodName := ⟨RX6, "beginsUnit", "()Z"⟩
abbrev cX6_take : ByteArray := prog_8_method_14_code
def yX6_take : MethodName := ⟨RX6, "take", "(I)Z"⟩
abbrev cX6_takeNumber : ByteArray := prog_8_method_15_code
def yX6_takeNumber : MethodName := ⟨RX6, "takeNumber", "(II)Z"⟩
abbrev cX6_refuse : ByteArray := prog_8_method_16_code
def yX6_refuse : MethodName := ⟨RX6, "refuse", "()Z"⟩
abbrev cX6_fail : ByteArray := prog_8_method_17_code
def yX6_fail : MethodName := ⟨RX6, "fail", "(I)Z"⟩
abbrev cX6_takeToken : ByteArray := prog_8_method_18_code
def yX6_takeToken : MethodName := ⟨RX6, "takeToken", "()V"⟩
abbrev cX6_takeLetters : ByteArray := prog_8_method_19_code
def yX6_takeLetters : MethodName := ⟨RX6, "takeLetters", "()V"⟩
abbrev cX6_takeDigits : ByteArray := prog_8_method_20_code
def yX6_takeDigits : MethodName := ⟨RX6, "takeDigits", "()V"⟩
abbrev cX6_sortOfWord : ByteArray := prog_8_method_21_code
def yX6_sortOfWord : MethodName := ⟨RX6, "sortOfWord", "(I)I"⟩
abbrev cX6_letterAt : ByteArray := prog_8_method_22_code
def yX6_letterAt : MethodName := ⟨RX6, "letterAt", "(I)Z"⟩
abbrev cX6_digitAt : ByteArray := prog_8_method_23_code
def yX6_digitAt : MethodName := ⟨RX6, "digitAt", "(I)Z"⟩
abbrev cX6_isSign : ByteArray := prog_8_method_24_code
def yX6_isSign : MethodName := ⟨RX6, "isSign", "(I)Z"⟩
def RX7 : String := "TuneLocks$Scene"
def TX7 : u_T := fun k => match k with
  | 0 => ("TuneLocks$Scene", "voice", "LTuneLocks$Song;", true)
  | 1 => ("TuneLocks$Scene", "atNight", "Z", false)
  | 2 => ("TuneLocks$Scene", "open", "I", false)
  | 3 => ("TuneLocks$Scene", "worn", "[I", true)
  | _ => ("TuneLocks$Scene", "kept", "Z", false)
def tyX7 : Nat → FieldType := fun k => match k with
  | 0 => .object "TuneLocks$Song"
  | 1 => .boolean
  | 2 => .int
  | 3 => .array .int
  | _ => .boolean
abbrev wsX70 : List Cond := u_ws RX7 TX7 5
theorem nmX7 : ∀ a, a < 5 → ∀ b, b < 5 → a ≠ b → (TX7 a).2.1 ≠ (TX7 b).2.1 := by decide +kernel
theorem tyX7_ok : ∀ k, k < 5 → parseFieldDescriptor (TX7 k).2.2.1 = some (tyX7 k) := by decide +kernel
abbrev cX7_init : ByteArray := prog_9_method_1_code
def yX7_init : MethodName := ⟨RX7, "<init>", "()V"⟩
abbrev cX7_clear : ByteArray := prog_9_method_2_code
def yX7_clear : MethodName := ⟨RX7, "clear", "()V"⟩
abbrev cX7_becomeLike : ByteArray := prog_9_method_3_code
def yX7_becomeLike : MethodName := ⟨RX7, "becomeLike", "(LTuneLocks$Scene;)V"⟩
def RX8 : String := "TuneLocks$Song"
def TX8 : u_T := fun k => match k with
  | 0 => ("TuneLocks$Song", "high", "[I", true)
  | 1 => ("TuneLocks$Song", "length", "[I", true)
  | _ => ("TuneLocks$Song", "count", "I", false)
def tyX8 : Nat → FieldType := fun k => match k with
  | 0 => .array .int
  | 1 => .array .int
  | _ => .int
abbrev wsX80 : List Cond := u_ws RX8 TX8 3
theorem nmX8 : ∀ a, a < 3 → ∀ b, b < 3 → a ≠ b → (TX8 a).2.1 ≠ (TX8 b).2.1 := by decide +kernel
theorem tyX8_ok : ∀ k, k < 3 → parseFieldDescriptor (TX8 k).2.2.1 = some (tyX8 k) := by decide +kernel
abbrev cX8_init : ByteArray := prog_10_method_1_code
def yX8_init : MethodName := ⟨RX8, "<init>", "(I)V"⟩
abbrev cX8_add : ByteArray := prog_10_method_2_code
def yX8_add : MethodName := ⟨RX8, "add", "(II)V"⟩
abbrev cX8_becomeLike : ByteArray := prog_10_method_3_code
def yX8_becomeLike : MethodName := ⟨RX8, "becomeLike", "(LTuneLocks$Song;)V"⟩
abbrev cX8_riseTo : ByteArray := prog_10_method_4_code
def yX8_riseTo : MethodName := ⟨RX8, "riseTo", "(I)I"⟩
abbrev cX8_offAt : ByteArray := prog_10_method_5_code
def yX8_offAt : MethodName := ⟨RX8, "offAt", "(LTuneLocks$Song;I)I"⟩
abbrev cX8_offOfFirst : ByteArray := prog_10_method_6_code
def yX8_offOfFirst : MethodName := ⟨RX8, "offOfFirst", "(ILTuneLocks$Song;I)I"⟩
abbrev cX8_outOfPace : ByteArray := prog_10_method_7_code
def yX8_outOfPace : MethodName := ⟨RX8, "outOfPace", "(ILTuneLocks$Song;I)I"⟩
abbrev cX8_firstOffAt : ByteArray := prog_10_method_8_code
def yX8_firstOffAt : MethodName := ⟨RX8, "firstOffAt", "(LTuneLocks$Song;I)I"⟩
abbrev cX8_deafOffAt : ByteArray := prog_10_method_9_code
def yX8_deafOffAt : MethodName := ⟨RX8, "deafOffAt", "(LTuneLocks$Song;II)I"⟩
abbrev cX8_reachOf : ByteArray := prog_10_method_10_code
def yX8_reachOf : MethodName := ⟨RX8, "reachOf", "(II)I"⟩
def RX9 : String := "TuneLocks$Town"
def TX9 : u_T := fun k => match k with
  | 0 => ("TuneLocks$Town", "tunes", "[LTuneLocks$Song;", true)
  | 1 => ("TuneLocks$Town", "tuneNames", "[J", true)
  | 2 => ("TuneLocks$Town", "hearings", "[LTuneLocks$Hearing;", true)
  | 3 => ("TuneLocks$Town", "tuneCount", "I", false)
  | 4 => ("TuneLocks$Town", "locks", "[LTuneLocks$Lock;", true)
  | 5 => ("TuneLocks$Town", "lockCount", "I", false)
  | 6 => ("TuneLocks$Town", "questions", "LTuneLocks$Questions;", true)
  | 7 => ("TuneLocks$Town", "units", "I", false)
  | _ => ("TuneLocks$Town", "sweet", "[Z", true)
def tyX9 : Nat → FieldType := fun k => match k with
  | 0 => .array (.object "TuneLocks$Song")
  | 1 => .array .long
  | 2 => .array (.object "TuneLocks$Hearing")
  | 3 => .int
  | 4 => .array (.object "TuneLocks$Lock")
  | 5 => .int
  | 6 => .object "TuneLocks$Questions"
  | 7 => .int
  | _ => .array .boolean
abbrev wsX90 : List Cond := u_ws RX9 TX9 9
theorem nmX9 : ∀ a, a < 9 → ∀ b, b < 9 → a ≠ b → (TX9 a).2.1 ≠ (TX9 b).2.1 := by decide +kernel
theorem tyX9_ok : ∀ k, k < 9 → parseFieldDescriptor (TX9 k).2.2.1 = some (tyX9 k) := by decide +kernel
abbrev cX9_init : ByteArray := prog_11_method_1_code
def yX9_init : MethodName := ⟨RX9, "<init>", "()V"⟩
abbrev cX9_clear : ByteArray := prog_11_method_2_code
def yX9_clear : MethodName := ⟨RX9, "clear", "()V"⟩
abbrev cX9_sweetenUntold : ByteArray := prog_11_method_3_code
def yX9_sweetenUntold : MethodName := ⟨RX9, "sweetenUntold", "()V"⟩
abbrev cX9_hasTune : ByteArray := prog_11_method_4_code
def yX9_hasTune : MethodName := ⟨RX9, "hasTune", "(I)Z"⟩
abbrev cX9_hasLock : ByteArray := prog_11_method_5_code
def yX9_hasLock : MethodName := ⟨RX9, "hasLock", "(I)Z"⟩
abbrev cX9_tuneNamed : ByteArray := prog_11_method_6_code
def yX9_tuneNamed : MethodName := ⟨RX9, "tuneNamed", "(J)I"⟩
abbrev cX9_hasLockNamed : ByteArray := prog_11_method_7_code
def yX9_hasLockNamed : MethodName := ⟨RX9, "hasLockNamed", "(J)Z"⟩
abbrev cX9_prepare : ByteArray := prog_11_method_8_code
def yX9_prepare : MethodName := ⟨RX9, "prepare", "()V"⟩
abbrev cX9_opensNeverWorn : ByteArray := prog_11_method_9_code
def yX9_opensNeverWorn : MethodName := ⟨RX9, "opensNeverWorn", "(IZ)I"⟩
abbrev cX9_ask : ByteArray := prog_11_method_10_code
def yX9_ask : MethodName := ⟨RX9, "ask", "(ILTuneLocks$Hearing;ZI)I"⟩
abbrev cX9_opensTo : ByteArray := prog_11_method_11_code
def yX9_opensTo : MethodName := ⟨RX9, "opensTo", "(ILTuneLocks$Hearing;ZI)Z"⟩
abbrev cX9_isNear : ByteArray := prog_11_method_12_code
def yX9_isNear : MethodName := ⟨RX9, "isNear", "(III)Z"⟩
abbrev cX9_isIn : ByteArray := prog_11_method_13_code
def yX9_isIn : MethodName := ⟨RX9, "isIn", "(III)Z"⟩
def RX10 : String := "TuneLocks$Watches"
def TX10 : u_T := fun k => match k with
  | 0 => ("TuneLocks$Watches", "watched", "[I", true)
  | 1 => ("TuneLocks$Watches", "atNight", "[Z", true)
  | 2 => ("TuneLocks$Watches", "didOpen", "[Z", true)
  | 3 => ("TuneLocks$Watches", "toldAt", "[I", true)
  | 4 => ("TuneLocks$Watches", "untoldAt", "[I", true)
  | _ => ("TuneLocks$Watches", "count", "I", false)
def tyX10 : Nat → FieldType := fun k => match k with
  | 0 => .array .int
  | 1 => .array .boolean
  | 2 => .array .boolean
  | 3 => .array .int
  | 4 => .array .int
  | _ => .int
abbrev wsX100 : List Cond := u_ws RX10 TX10 6
theorem nmX10 : ∀ a, a < 6 → ∀ b, b < 6 → a ≠ b → (TX10 a).2.1 ≠ (TX10 b).2.1 := by decide +kernel
theorem tyX10_ok : ∀ k, k < 6 → parseFieldDescriptor (TX10 k).2.2.1 = some (tyX10 k) := by decide +kernel
abbrev cX10_init : ByteArray := prog_12_method_1_code
def yX10_init : MethodName := ⟨RX10, "<init>", "()V"⟩
abbrev cX10_clear : ByteArray := prog_12_method_2_code
def yX10_clear : MethodName := ⟨RX10, "clear", "()V"⟩
abbrev cX10_tell : ByteArray := prog_12_method_3_code
def yX10_tell : MethodName := ⟨RX10, "tell", "(IZZI)I"⟩
abbrev cX10_takeBack : ByteArray := prog_12_method_4_code
def yX10_takeBack : MethodName := ⟨RX10, "takeBack", "(II)Z"⟩
abbrev cX10_counts : ByteArray := prog_12_method_5_code
def yX10_counts : MethodName := ⟨RX10, "counts", "(II)Z"⟩
abbrev cX10_leftAt : ByteArray := prog_12_method_6_code
def yX10_leftAt : MethodName := ⟨RX10, "leftAt", "(ILTuneLocks$Town;)I"⟩
def RX11 : String := "TuneLocks"
def TX11 : u_T := fun k => match k with
  | 0 => ("TuneLocks", "tape", "[B", true)
  | 1 => ("TuneLocks", "tapeSize", "I", false)
  | 2 => ("TuneLocks", "here", "LTuneLocks$Town;", false)
  | 3 => ("TuneLocks", "spare", "LTuneLocks$Town;", false)
  | 4 => ("TuneLocks", "latestFault", "I", false)
  | 5 => ("TuneLocks", "latestPlace", "I", false)
  | 6 => ("TuneLocks", "now", "LTuneLocks$Scene;", true)
  | 7 => ("TuneLocks", "boxes", "[LTuneLocks$Scene;", true)
  | 8 => ("TuneLocks", "ear", "LTuneLocks$Hearing;", true)
  | 9 => ("TuneLocks", "watches", "LTuneLocks$Watches;", true)
  | 10 => ("TuneLocks", "time", "I", false)
  | 11 => ("TuneLocks", "deal", "LTuneLocks$Deal;", true)
  | 12 => ("TuneLocks", "laying", "LTuneLocks$Laying;", true)
  | _ => ("TuneLocks", "canon", "LTuneLocks$Canon;", true)
def tyX11 : Nat → FieldType := fun k => match k with
  | 0 => .array .byte
  | 1 => .int
  | 2 => .object "TuneLocks$Town"
  | 3 => .object "TuneLocks$Town"
  | 4 => .int
  | 5 => .int
  | 6 => .object "TuneLocks$Scene"
  | 7 => .array (.object "TuneLocks$Scene")
  | 8 => .object "TuneLocks$Hearing"
  | 9 => .object "TuneLocks$Watches"
  | 10 => .int
  | 11 => .object "TuneLocks$Deal"
  | 12 => .object "TuneLocks$Laying"
  | _ => .object "TuneLocks$Canon"
abbrev wsX110 : List Cond := u_ws RX11 TX11 14
theorem nmX11 : ∀ a, a < 14 → ∀ b, b < 14 → a ≠ b → (TX11 a).2.1 ≠ (TX11 b).2.1 := by decide +kernel
theorem tyX11_ok : ∀ k, k < 14 → parseFieldDescriptor (TX11 k).2.2.1 = some (tyX11 k) := by decide +kernel
abbrev cX11_init : ByteArray := prog_1_method_1_code
def yX11_init : MethodName := ⟨RX11, "<init>", "()V"⟩
abbrev cX11_feed : ByteArray := prog_1_method_2_code
def yX11_feed : MethodName := ⟨RX11, "feed", "(IIIII)I"⟩
abbrev cX11_putNumber : ByteArray := prog_1_method_3_code
def yX11_putNumber : MethodName := ⟨RX11, "putNumber", "(I)V"⟩
abbrev cX11_end : ByteArray := prog_1_method_4_code
def yX11_end : MethodName := ⟨RX11, "end", "(I)I"⟩
abbrev cX11_town : ByteArray := prog_1_method_5_code
def yX11_town : MethodName := ⟨RX11, "town", "()I"⟩
abbrev cX11_fault : ByteArray := prog_1_method_6_code
def yX11_fault : MethodName := ⟨RX11, "fault", "(I)I"⟩
abbrev cX11_notes : ByteArray := prog_1_method_7_code
def yX11_notes : MethodName := ⟨RX11, "notes", "(I)I"⟩
abbrev cX11_step : ByteArray := prog_1_method_8_code
def yX11_step : MethodName := ⟨RX11, "step", "(II)I"⟩
abbrev cX11_off : ByteArray := prog_1_method_9_code
def yX11_off : MethodName := ⟨RX11, "off", "(III)I"⟩
abbrev cX11_in : ByteArray := prog_1_method_10_code
def yX11_in : MethodName := ⟨RX11, "in", "(III)I"⟩
abbrev cX11_tellIn : ByteArray := prog_1_method_11_code
def yX11_tellIn : MethodName := ⟨RX11, "tellIn", "(LTuneLocks$Hearing;ILTuneLocks$Song;I)I"⟩
abbrev cX11_doors : ByteArray := prog_1_method_12_code
def yX11_doors : MethodName := ⟨RX11, "doors", "(IZ)I"⟩
abbrev cX11_asked : ByteArray := prog_1_method_13_code
def yX11_asked : MethodName := ⟨RX11, "asked", "(IIZ)I"⟩
abbrev cX11_least : ByteArray := prog_1_method_14_code
def yX11_least : MethodName := ⟨RX11, "least", "(IZ)I"⟩
abbrev cX11_dealt : ByteArray := prog_1_method_15_code
def yX11_dealt : MethodName := ⟨RX11, "dealt", "(I)I"⟩
abbrev cX11_master : ByteArray := prog_1_method_16_code
def yX11_master : MethodName := ⟨RX11, "master", "(II)I"⟩
abbrev cX11_round : ByteArray := prog_1_method_17_code
def yX11_round : MethodName := ⟨RX11, "round", "(II)I"⟩
abbrev cX11_good : ByteArray := prog_1_method_18_code
def yX11_good : MethodName := ⟨RX11, "good", "(II)I"⟩
abbrev cX11_deaf : ByteArray := prog_1_method_19_code
def yX11_deaf : MethodName := ⟨RX11, "deaf", "(III)I"⟩
abbrev cX11_sing : ByteArray := prog_1_method_20_code
def yX11_sing : MethodName := ⟨RX11, "sing", "(II)I"⟩
abbrev cX11_canBeSung : ByteArray := prog_1_method_21_code
def yX11_canBeSung : MethodName := ⟨RX11, "canBeSung", "(I)Z"⟩
abbrev cX11_singNote : ByteArray := prog_1_method_22_code
def yX11_singNote : MethodName := ⟨RX11, "singNote", "(II)I"⟩
abbrev cX11_song : ByteArray := prog_1_method_23_code
def yX11_song : MethodName := ⟨RX11, "song", "(II)I"⟩
abbrev cX11_silence : ByteArray := prog_1_method_24_code
def yX11_silence : MethodName := ⟨RX11, "silence", "()I"⟩
abbrev cX11_shut : ByteArray := prog_1_method_25_code
def yX11_shut : MethodName := ⟨RX11, "shut", "(I)Z"⟩
abbrev cX11_night : ByteArray := prog_1_method_26_code
def yX11_night : MethodName := ⟨RX11, "night", "(Z)Z"⟩
abbrev cX11_lock : ByteArray := prog_1_method_27_code
def yX11_lock : MethodName := ⟨RX11, "lock", "(II)I"⟩
abbrev cX11_heard : ByteArray := prog_1_method_28_code
def yX11_heard : MethodName := ⟨RX11, "heard", "(II)I"⟩
abbrev cX11_watch : ByteArray := prog_1_method_29_code
def yX11_watch : MethodName := ⟨RX11, "watch", "(IZZ)I"⟩
abbrev cX11_untell : ByteArray := prog_1_method_30_code
def yX11_untell : MethodName := ⟨RX11, "untell", "(I)Z"⟩
abbrev cX11_later : ByteArray := prog_1_method_31_code
def yX11_later : MethodName := ⟨RX11, "later", "(I)I"⟩
abbrev cX11_left : ByteArray := prog_1_method_32_code
def yX11_left : MethodName := ⟨RX11, "left", "(I)I"⟩
abbrev cX11_next : ByteArray := prog_1_method_33_code
def yX11_next : MethodName := ⟨RX11, "next", "(II)I"⟩
abbrev cX11_image : ByteArray := prog_1_method_34_code
def yX11_image : MethodName := ⟨RX11, "image", "(I)I"⟩
abbrev cX11_back : ByteArray := prog_1_method_35_code
def yX11_back : MethodName := ⟨RX11, "back", "(I)I"⟩
abbrev cX11_about : ByteArray := prog_1_method_36_code
def yX11_about : MethodName := ⟨RX11, "about", "(I)I"⟩
def RX12 : String := "TuneLocksModel"
def TX12 : u_T := fun k => match k with
  | 0 => ("TuneLocksModel", "tape", "[B", true)
  | 1 => ("TuneLocksModel", "text", "[B", true)
  | 2 => ("TuneLocksModel", "taped", "I", false)
  | 3 => ("TuneLocksModel", "size", "I", false)
  | 4 => ("TuneLocksModel", "faultKind", "I", false)
  | 5 => ("TuneLocksModel", "faultPlace", "I", false)
  | 6 => ("TuneLocksModel", "at", "I", false)
  | 7 => ("TuneLocksModel", "end", "I", false)
  | 8 => ("TuneLocksModel", "token", "I", false)
  | 9 => ("TuneLocksModel", "number", "I", false)
  | 10 => ("TuneLocksModel", "name", "J", false)
  | 11 => ("TuneLocksModel", "tunes", "[I", true)
  | 12 => ("TuneLocksModel", "locks", "[I", true)
  | 13 => ("TuneLocksModel", "unitsOf", "[I", true)
  | 14 => ("TuneLocksModel", "sweets", "[I", true)
  | 15 => ("TuneLocksModel", "songMany", "[I", true)
  | 16 => ("TuneLocksModel", "high", "[I", true)
  | 17 => ("TuneLocksModel", "length", "[I", true)
  | 18 => ("TuneLocksModel", "near", "[I", true)
  | 19 => ("TuneLocksModel", "lFrom", "[I", true)
  | 20 => ("TuneLocksModel", "lTo", "[I", true)
  | 21 => ("TuneLocksModel", "isSweet", "[Z", true)
  | 22 => ("TuneLocksModel", "tName", "[J", true)
  | 23 => ("TuneLocksModel", "lName", "[J", true)
  | 24 => ("TuneLocksModel", "code", "[I", true)
  | 25 => ("TuneLocksModel", "codeNumber", "[I", true)
  | 26 => ("TuneLocksModel", "eWhat", "[I", true)
  | 27 => ("TuneLocksModel", "eSign", "[I", true)
  | 28 => ("TuneLocksModel", "pile", "[I", true)
  | 29 => ("TuneLocksModel", "bank", "I", false)
  | 30 => ("TuneLocksModel", "rb", "I", false)
  | 31 => ("TuneLocksModel", "codes", "I", false)
  | 32 => ("TuneLocksModel", "within", "I", false)
  | 33 => ("TuneLocksModel", "piled", "I", false)
  | 34 => ("TuneLocksModel", "voice", "I", false)
  | 35 => ("TuneLocksModel", "isOpen", "[Z", true)
  | 36 => ("TuneLocksModel", "worn", "[I", true)
  | 37 => ("TuneLocksModel", "isNight", "Z", false)
  | 38 => ("TuneLocksModel", "nears", "[I", true)
  | 39 => ("TuneLocksModel", "laid", "[I", true)
  | 40 => ("TuneLocksModel", "tried", "[I", true)
  | 41 => ("TuneLocksModel", "kept", "[I", true)
  | 42 => ("TuneLocksModel", "over", "[I", true)
  | 43 => ("TuneLocksModel", "keptMany", "I", false)
  | 44 => ("TuneLocksModel", "fewNotes", "I", false)
  | 45 => ("TuneLocksModel", "wLock", "[I", true)
  | 46 => ("TuneLocksModel", "wTold", "[I", true)
  | 47 => ("TuneLocksModel", "wUntold", "[I", true)
  | 48 => ("TuneLocksModel", "wNight", "[Z", true)
  | 49 => ("TuneLocksModel", "wOpened", "[Z", true)
  | 50 => ("TuneLocksModel", "watches", "I", false)
  | 51 => ("TuneLocksModel", "time", "I", false)
  | 52 => ("TuneLocksModel", "boxMany", "[I", true)
  | 53 => ("TuneLocksModel", "boxHigh", "[I", true)
  | 54 => ("TuneLocksModel", "boxLength", "[I", true)
  | 55 => ("TuneLocksModel", "boxWorn", "[I", true)
  | 56 => ("TuneLocksModel", "boxOpen", "[Z", true)
  | _ => ("TuneLocksModel", "boxNight", "[Z", true)
def tyX12 : Nat → FieldType := fun k => match k with
  | 0 => .array .byte
  | 1 => .array .byte
  | 2 => .int
  | 3 => .int
  | 4 => .int
  | 5 => .int
  | 6 => .int
  | 7 => .int
  | 8 => .int
  | 9 => .int
  | 10 => .long
  | 11 => .array .int
  | 12 => .array .int
  | 13 => .array .int
  | 14 => .array .int
  | 15 => .array .int
  | 16 => .array .int
  | 17 => .array .int
  | 18 => .array .int
  | 19 => .array .int
  | 20 => .array .int
  | 21 => .array .boolean
  | 22 => .array .long
  | 23 => .array .long
  | 24 => .array .int
  | 25 => .array .int
  | 26 => .array .int
  | 27 => .array .int
  | 28 => .array .int
  | 29 => .int
  | 30 => .int
  | 31 => .int
  | 32 => .int
  | 33 => .int
  | 34 => .int
  | 35 => .array .boolean
  | 36 => .array .int
  | 37 => .boolean
  | 38 => .array .int
  | 39 => .array .int
  | 40 => .array .int
  | 41 => .array .int
  | 42 => .array .int
  | 43 => .int
  | 44 => .int
  | 45 => .array .int
  | 46 => .array .int
  | 47 => .array .int
  | 48 => .array .boolean
  | 49 => .array .boolean
  | 50 => .int
  | 51 => .int
  | 52 => .array .int
  | 53 => .array .int
  | 54 => .array .int
  | 55 => .array .int
  | 56 => .array .boolean
  | _ => .array .boolean
abbrev wsX120 : List Cond := u_ws RX12 TX12 58
theorem nmX12 : ∀ a, a < 58 → ∀ b, b < 58 → a ≠ b → (TX12 a).2.1 ≠ (TX12 b).2.1 := by decide +kernel
theorem tyX12_ok : ∀ k, k < 58 → parseFieldDescriptor (TX12 k).2.2.1 = some (tyX12 k) := by decide +kernel
abbrev cX12_init : ByteArray := prog_14_method_1_code
def yX12_init : MethodName := ⟨RX12, "<init>", "()V"⟩
abbrev cX12_sign : ByteArray := prog_14_method_2_code
def yX12_sign : MethodName := ⟨RX12, "sign", "(I)I"⟩
abbrev cX12_isLetter : ByteArray := prog_14_method_3_code
def yX12_isLetter : MethodName := ⟨RX12, "isLetter", "(I)Z"⟩
abbrev cX12_isDigit : ByteArray := prog_14_method_4_code
def yX12_isDigit : MethodName := ⟨RX12, "isDigit", "(I)Z"⟩
abbrev cX12_fails : ByteArray := prog_14_method_5_code
def yX12_fails : MethodName := ⟨RX12, "fails", "(II)V"⟩
abbrev cX12_isGood : ByteArray := prog_14_method_6_code
def yX12_isGood : MethodName := ⟨RX12, "isGood", "()Z"⟩
abbrev cX12_isKept : ByteArray := prog_14_method_7_code
def yX12_isKept : MethodName := ⟨RX12, "isKept", "(J)Z"⟩
abbrev cX12_isSign : ByteArray := prog_14_method_8_code
def yX12_isSign : MethodName := ⟨RX12, "isSign", "(I)Z"⟩
abbrev cX12_goOn : ByteArray := prog_14_method_9_code
def yX12_goOn : MethodName := ⟨RX12, "goOn", "()V"⟩
abbrev cX12_stands : ByteArray := prog_14_method_10_code
def yX12_stands : MethodName := ⟨RX12, "stands", "(I)Z"⟩
abbrev cX12_isWord : ByteArray := prog_14_method_11_code
def yX12_isWord : MethodName := ⟨RX12, "isWord", "(J)Z"⟩
abbrev cX12_misplaced : ByteArray := prog_14_method_12_code
def yX12_misplaced : MethodName := ⟨RX12, "misplaced", "()V"⟩
abbrev cX12_must : ByteArray := prog_14_method_13_code
def yX12_must : MethodName := ⟨RX12, "must", "(Z)V"⟩
abbrev cX12_numeral : ByteArray := prog_14_method_14_code
def yX12_numeral : MethodName := ⟨RX12, "numeral", "(II)I"⟩
abbrev cX12_clearBank : ByteArray := prog_14_method_15_code
def yX12_clearBank : MethodName := ⟨RX12, "clearBank", "()V"⟩
abbrev cX12_town : ByteArray := prog_14_method_16_code
def yX12_town : MethodName := ⟨RX12, "town", "()I"⟩
abbrev cX12_isFull : ByteArray := prog_14_method_17_code
def yX12_isFull : MethodName := ⟨RX12, "isFull", "()Z"⟩
abbrev cX12_readLine : ByteArray := prog_14_method_18_code
def yX12_readLine : MethodName := ⟨RX12, "readLine", "()V"⟩
abbrev cX12_here : ByteArray := prog_14_method_19_code
def yX12_here : MethodName := ⟨RX12, "here", "([JII)I"⟩
abbrev cX12_tuneHere : ByteArray := prog_14_method_20_code
def yX12_tuneHere : MethodName := ⟨RX12, "tuneHere", "()I"⟩
abbrev cX12_fresh : ByteArray := prog_14_method_21_code
def yX12_fresh : MethodName := ⟨RX12, "fresh", "(Z)J"⟩
abbrev cX12_readTune : ByteArray := prog_14_method_22_code
def yX12_readTune : MethodName := ⟨RX12, "readTune", "()V"⟩
abbrev cX12_readSweet : ByteArray := prog_14_method_23_code
def yX12_readSweet : MethodName := ⟨RX12, "readSweet", "()V"⟩
abbrev cX12_readLock : ByteArray := prog_14_method_24_code
def yX12_readLock : MethodName := ⟨RX12, "readLock", "()V"⟩
abbrev cX12_emit : ByteArray := prog_14_method_25_code
def yX12_emit : MethodName := ⟨RX12, "emit", "(II)V"⟩
abbrev cX12_pushE : ByteArray := prog_14_method_26_code
def yX12_pushE : MethodName := ⟨RX12, "pushE", "(II)V"⟩
abbrev cX12_e : ByteArray := prog_14_method_27_code
def yX12_e : MethodName := ⟨RX12, "e", "()V"⟩
abbrev cX12_wordHere : ByteArray := prog_14_method_28_code
def yX12_wordHere : MethodName := ⟨RX12, "wordHere", "()I"⟩
abbrev cX12_unit : ByteArray := prog_14_method_29_code
def yX12_unit : MethodName := ⟨RX12, "unit", "()Z"⟩
abbrev cX12_rankHere : ByteArray := prog_14_method_30_code
def yX12_rankHere : MethodName := ⟨RX12, "rankHere", "()I"⟩
abbrev cX12_isCompared : ByteArray := prog_14_method_31_code
def yX12_isCompared : MethodName := ⟨RX12, "isCompared", "()Z"⟩
abbrev cX12_behindUnit : ByteArray := prog_14_method_32_code
def yX12_behindUnit : MethodName := ⟨RX12, "behindUnit", "()Z"⟩
abbrev cX12_come : ByteArray := prog_14_method_33_code
def yX12_come : MethodName := ⟨RX12, "come", "(III)I"⟩
abbrev cX12_fault : ByteArray := prog_14_method_34_code
def yX12_fault : MethodName := ⟨RX12, "fault", "(I)I"⟩
abbrev cX12_isIn : ByteArray := prog_14_method_35_code
def yX12_isIn : MethodName := ⟨RX12, "isIn", "(III)Z"⟩
abbrev cX12_isTune : ByteArray := prog_14_method_36_code
def yX12_isTune : MethodName := ⟨RX12, "isTune", "(I)Z"⟩
abbrev cX12_isLock : ByteArray := prog_14_method_37_code
def yX12_isLock : MethodName := ⟨RX12, "isLock", "(I)Z"⟩
abbrev cX12_songOf : ByteArray := prog_14_method_38_code
def yX12_songOf : MethodName := ⟨RX12, "songOf", "(I)I"⟩
abbrev cX12_manyOf : ByteArray := prog_14_method_39_code
def yX12_manyOf : MethodName := ⟨RX12, "manyOf", "(I)I"⟩
abbrev cX12_away : ByteArray := prog_14_method_40_code
def yX12_away : MethodName := ⟨RX12, "away", "(I)I"⟩
abbrev cX12_stepOf : ByteArray := prog_14_method_41_code
def yX12_stepOf : MethodName := ⟨RX12, "stepOf", "(II)I"⟩
abbrev cX12_isOutOfPace : ByteArray := prog_14_method_42_code
def yX12_isOutOfPace : MethodName := ⟨RX12, "isOutOfPace", "(IIII)Z"⟩
abbrev cX12_offAt : ByteArray := prog_14_method_43_code
def yX12_offAt : MethodName := ⟨RX12, "offAt", "(III)I"⟩
abbrev cX12_placeOf : ByteArray := prog_14_method_44_code
def yX12_placeOf : MethodName := ⟨RX12, "placeOf", "(II)I"⟩
abbrev cX12_firstOff : ByteArray := prog_14_method_45_code
def yX12_firstOff : MethodName := ⟨RX12, "firstOff", "(III)I"⟩
abbrev cX12_inWhat : ByteArray := prog_14_method_46_code
def yX12_inWhat : MethodName := ⟨RX12, "inWhat", "(III)I"⟩
abbrev cX12_isWithin : ByteArray := prog_14_method_47_code
def yX12_isWithin : MethodName := ⟨RX12, "isWithin", "(III)Z"⟩
abbrev cX12_notes : ByteArray := prog_14_method_48_code
def yX12_notes : MethodName := ⟨RX12, "notes", "(I)I"⟩
abbrev cX12_step : ByteArray := prog_14_method_49_code
def yX12_step : MethodName := ⟨RX12, "step", "(II)I"⟩
abbrev cX12_off : ByteArray := prog_14_method_50_code
def yX12_off : MethodName := ⟨RX12, "off", "(III)I"⟩
abbrev cX12_in : ByteArray := prog_14_method_51_code
def yX12_in : MethodName := ⟨RX12, "in", "(III)I"⟩
abbrev cX12_nearBy : ByteArray := prog_14_method_52_code
def yX12_nearBy : MethodName := ⟨RX12, "nearBy", "(II)I"⟩
abbrev cX12_amount : ByteArray := prog_14_method_53_code
def yX12_amount : MethodName := ⟨RX12, "amount", "(IIIZI)I"⟩
abbrev cX12_comes : ByteArray := prog_14_method_54_code
def yX12_comes : MethodName := ⟨RX12, "comes", "(IIZI)I"⟩
abbrev cX12_opens : ByteArray := prog_14_method_55_code
def yX12_opens : MethodName := ⟨RX12, "opens", "(IIZI)Z"⟩
abbrev cX12_doors : ByteArray := prog_14_method_56_code
def yX12_doors : MethodName := ⟨RX12, "doors", "(IZ)I"⟩
abbrev cX12_asked : ByteArray := prog_14_method_57_code
def yX12_asked : MethodName := ⟨RX12, "asked", "(IIZ)I"⟩
abbrev cX12_bitsOf : ByteArray := prog_14_method_58_code
def yX12_bitsOf : MethodName := ⟨RX12, "bitsOf", "(I)I"⟩
abbrev cX12_dealt : ByteArray := prog_14_method_59_code
def yX12_dealt : MethodName := ⟨RX12, "dealt", "(I)I"⟩
abbrev cX12_isAlike : ByteArray := prog_14_method_60_code
def yX12_isAlike : MethodName := ⟨RX12, "isAlike", "(II)Z"⟩
abbrev cX12_overlap : ByteArray := prog_14_method_61_code
def yX12_overlap : MethodName := ⟨RX12, "overlap", "(II)I"⟩
abbrev cX12_fits : ByteArray := prog_14_method_62_code
def yX12_fits : MethodName := ⟨RX12, "fits", "(III)Z"⟩
abbrev cX12_keepTunes : ByteArray := prog_14_method_63_code
def yX12_keepTunes : MethodName := ⟨RX12, "keepTunes", "(I)V"⟩
abbrev cX12_layMaster : ByteArray := prog_14_method_64_code
def yX12_layMaster : MethodName := ⟨RX12, "layMaster", "()V"⟩
abbrev cX12_nextRow : ByteArray := prog_14_method_65_code
def yX12_nextRow : MethodName := ⟨RX12, "nextRow", "()Z"⟩
abbrev cX12_master : ByteArray := prog_14_method_66_code
def yX12_master : MethodName := ⟨RX12, "master", "(II)I"⟩
abbrev cX12_lengthOf : ByteArray := prog_14_method_67_code
def yX12_lengthOf : MethodName := ⟨RX12, "lengthOf", "(I)I"⟩
abbrev cX12_highAt : ByteArray := prog_14_method_68_code
def yX12_highAt : MethodName := ⟨RX12, "highAt", "(II)I"⟩
abbrev cX12_roundOf : ByteArray := prog_14_method_69_code
def yX12_roundOf : MethodName := ⟨RX12, "roundOf", "(II)I"⟩
abbrev cX12_round : ByteArray := prog_14_method_70_code
def yX12_round : MethodName := ⟨RX12, "round", "(II)I"⟩
abbrev cX12_good : ByteArray := prog_14_method_71_code
def yX12_good : MethodName := ⟨RX12, "good", "(II)I"⟩
abbrev cX12_moved : ByteArray := prog_14_method_72_code
def yX12_moved : MethodName := ⟨RX12, "moved", "(IIII)I"⟩
abbrev cX12_deafAt : ByteArray := prog_14_method_73_code
def yX12_deafAt : MethodName := ⟨RX12, "deafAt", "(IIII)I"⟩
abbrev cX12_lower : ByteArray := prog_14_method_74_code
def yX12_lower : MethodName := ⟨RX12, "lower", "(II)I"⟩
abbrev cX12_deaf : ByteArray := prog_14_method_75_code
def yX12_deaf : MethodName := ⟨RX12, "deaf", "(III)I"⟩
abbrev cX12_least : ByteArray := prog_14_method_76_code
def yX12_least : MethodName := ⟨RX12, "least", "(IZ)I"⟩
abbrev cX12_sing : ByteArray := prog_14_method_77_code
def yX12_sing : MethodName := ⟨RX12, "sing", "(II)I"⟩
abbrev cX12_song : ByteArray := prog_14_method_78_code
def yX12_song : MethodName := ⟨RX12, "song", "(II)I"⟩
abbrev cX12_silence : ByteArray := prog_14_method_79_code
def yX12_silence : MethodName := ⟨RX12, "silence", "()I"⟩
abbrev cX12_shut : ByteArray := prog_14_method_80_code
def yX12_shut : MethodName := ⟨RX12, "shut", "(I)Z"⟩
abbrev cX12_night : ByteArray := prog_14_method_81_code
def yX12_night : MethodName := ⟨RX12, "night", "(Z)Z"⟩
abbrev cX12_lock : ByteArray := prog_14_method_82_code
def yX12_lock : MethodName := ⟨RX12, "lock", "(II)I"⟩
abbrev cX12_heard : ByteArray := prog_14_method_83_code
def yX12_heard : MethodName := ⟨RX12, "heard", "(II)I"⟩
abbrev cX12_watch : ByteArray := prog_14_method_84_code
def yX12_watch : MethodName := ⟨RX12, "watch", "(IZZ)I"⟩
abbrev cX12_untell : ByteArray := prog_14_method_85_code
def yX12_untell : MethodName := ⟨RX12, "untell", "(I)Z"⟩
abbrev cX12_later : ByteArray := prog_14_method_86_code
def yX12_later : MethodName := ⟨RX12, "later", "(I)I"⟩
abbrev cX12_left : ByteArray := prog_14_method_87_code
def yX12_left : MethodName := ⟨RX12, "left", "(I)I"⟩
abbrev cX12_next : ByteArray := prog_14_method_88_code
def yX12_next : MethodName := ⟨RX12, "next", "(II)I"⟩
abbrev cX12_image : ByteArray := prog_14_method_89_code
def yX12_image : MethodName := ⟨RX12, "image", "(I)I"⟩
abbrev cX12_back : ByteArray := prog_14_method_90_code
def yX12_back : MethodName := ⟨RX12, "back", "(I)I"⟩
abbrev cX12_about : ByteArray := prog_14_method_91_code
def yX12_about : MethodName := ⟨RX12, "about", "(I)I"⟩
abbrev cX12_feed : ByteArray := prog_14_method_92_code
def yX12_feed : MethodName := ⟨RX12, "feed", "(IIIII)I"⟩
abbrev cX12_end : ByteArray := prog_14_method_93_code
def yX12_end : MethodName := ⟨RX12, "end", "(I)I"⟩
def RJ6 : String := "java/lang/Integer"
abbrev cJ6_bitCount_0f7a4 : ByteArray := prog_15_method_49_code
def yJ6_bitCount_0f7a4 : MethodName := ⟨RJ6, "bitCount", "(I)I"⟩
def RJ9 : String := "java/lang/Math"
abbrev cJ9_abs_0f7a4 : ByteArray := prog_16_method_59_code
def yJ9_abs_0f7a4 : MethodName := ⟨RJ9, "abs", "(I)I"⟩
abbrev cJ9_max_7cf53 : ByteArray := prog_16_method_65_code
def yJ9_max_7cf53 : MethodName := ⟨RJ9, "max", "(II)I"⟩
abbrev cJ9_min_7cf53 : ByteArray := prog_16_method_69_code
def yJ9_min_7cf53 : MethodName := ⟨RJ9, "min", "(II)I"⟩
def RJ0 : String := "java/lang/String"
abbrev cJ0_length_8abf5 : ByteArray := prog_17_method_54_code
def yJ0_length_8abf5 : MethodName := ⟨RJ0, "length", "()I"⟩
abbrev cJ0_charAt_5068e : ByteArray := prog_17_method_56_code
def yJ0_charAt_5068e : MethodName := ⟨RJ0, "charAt", "(I)C"⟩
abbrev cJ0_coder_7d493 : ByteArray := prog_17_method_152_code
def yJ0_coder_7d493 : MethodName := ⟨RJ0, "coder", "()B"⟩
abbrev cJ0_isLatin1_aae02 : ByteArray := prog_17_method_154_code
def yJ0_isLatin1_aae02 : MethodName := ⟨RJ0, "isLatin1", "()Z"⟩
abbrev cJ0_checkIndex_df160 : ByteArray := prog_17_method_155_code
def yJ0_checkIndex_df160 : MethodName := ⟨RJ0, "checkIndex", "(II)V"⟩
def RJ1 : String := "java/lang/StringLatin1"
abbrev cJ1_charAt_3b067 : ByteArray := prog_18_method_2_code
def yJ1_charAt_3b067 : MethodName := ⟨RJ1, "charAt", "([BI)C"⟩
def RJ2 : String := "java/lang/StringUTF16"
abbrev cJ2_getChar_3b067 : ByteArray := prog_19_method_5_code
def yJ2_getChar_3b067 : MethodName := ⟨RJ2, "getChar", "([BI)C"⟩
abbrev cJ2_length_9d52b : ByteArray := prog_19_method_6_code
def yJ2_length_9d52b : MethodName := ⟨RJ2, "length", "([B)I"⟩
abbrev cJ2_charAt_3b067 : ByteArray := prog_19_method_83_code
def yJ2_charAt_3b067 : MethodName := ⟨RJ2, "charAt", "([BI)C"⟩
abbrev cJ2_checkIndex_2214a : ByteArray := prog_19_method_91_code
def yJ2_checkIndex_2214a : MethodName := ⟨RJ2, "checkIndex", "(I[B)V"⟩
def RJ10 : String := "java/lang/System"
def RJ7 : String := "java/util/Arrays"
abbrev cJ7_fill_53178 : ByteArray := prog_21_method_103_code
def yJ7_fill_53178 : MethodName := ⟨RJ7, "fill", "([II)V"⟩
def RJ3 : String := "jdk/internal/util/Preconditions"
abbrev cJ3_checkIndex_8e157 : ByteArray := prog_22_method_11_code
def yJ3_checkIndex_8e157 : MethodName := ⟨RJ3, "checkIndex", "(IILjava/util/function/BiFunction;)I"⟩
def RL : String := "TuneLocksLaw"
abbrev cL_law : ByteArray := code
def yL_law : MethodName := ⟨RL, "law", "([I)Z"⟩
abbrev vwCl : List vw_C := [(RX0, TX0, 2), (RX1, TX1, 3), (RX2, TX2, 5), (RX3, TX3, 7), (RX4, TX4, 6), (RX5, TX5, 5), (RX6, TX6, 11), (RX7, TX7, 5), (RX8, TX8, 3), (RX9, TX9, 9), (RX10, TX10, 6), (RX11, TX11, 14), (RX12, TX12, 58)]
end
section
/-! the words of the tables that hold at a callee too -/
def TBg : List Cond := lw_tbl.filter goodWord
theorem tb_mem {w : Cond} (i : Nat) (h : lw_tbl[i]? = some w) (hg : goodWord w = true) : w ∈ TBg := List.mem_filter.mpr ⟨List.mem_of_getElem? h, hg⟩
theorem tb_in {w : Cond} (h : w ∈ TBg) : w ∈ lw_tbl := (List.mem_filter.mp h).1
theorem tb_list {ws : List Cond} (ps : List Nat) (h : ws = ps.filterMap (fun i => lw_tbl[i]?)) (hg : ws.all goodWord = true) : ∀ w ∈ ws, w ∈ TBg := fun w hw => by
  have h1 := List.all_eq_true.mp hg w hw
  rw [h] at hw
  obtain ⟨i, -, hi⟩ := List.mem_filterMap.mp hw
  exact tb_mem i hi h1
theorem tb_good : ∀ w ∈ TBg, goodWord w = true := fun w h => (List.mem_filter.mp h).2
theorem gd {ws : List Cond} (h : ∀ w ∈ ws, w ∈ TBg) : GoodIn TBg ws := fun w hw => ⟨h w hw, good_of_word (tb_good w (h w hw))⟩
theorem gc {y : MethodName} {cc : ByteArray} {n : Nat} {r : Option FieldType} (h5 : Cond.code y cc n r ∈ TBg) : GoodIn TBg (.code y cc n r :: TBg) := gd (fun w hw => by
  rcases List.mem_cons.mp hw with rfl | hw
  · exact h5
  · exact hw)
theorem gv {own C : String} {idx : Nat} {y : MethodName} {cc : ByteArray} {n : Nat} {r : Option FieldType} (h1 : Cond.methodLink own idx y ∈ TBg) (h2 : Cond.instanceMethod y ∈ TBg) (h3 : Cond.selects C y y ∈ TBg) (h4 : Cond.initialized C ∈ TBg) (h5 : Cond.code y cc n r ∈ TBg) : GoodIn TBg (wsV own idx C y (.code y cc n r :: TBg)) := gd (fun w hw => by
  unfold wsV at hw
  rcases List.mem_append.mp hw with hw | hw
  · simp only [List.mem_cons, List.not_mem_nil, or_false] at hw
    rcases hw with rfl | rfl | rfl | rfl <;> assumption
  · rcases List.mem_cons.mp hw with rfl | hw
    · exact h5
    · exact hw)
theorem gs {own : String} {idx : Nat} {y : MethodName} {cc : ByteArray} {n : Nat} {r : Option FieldType} (h1 : Cond.methodLink own idx y ∈ TBg) (h2 : Cond.static y ∈ TBg) (h4 : Cond.initialized y.cls ∈ TBg) (h5 : Cond.code y cc n r ∈ TBg) : GoodIn TBg (va_wsS own idx y (.code y cc n r :: TBg)) := gd (fun w hw => by
  unfold va_wsS at hw
  rcases List.mem_append.mp hw with hw | hw
  · simp only [List.mem_cons, List.not_mem_nil, or_false] at hw
    rcases hw with rfl | rfl | rfl <;> assumption
  · rcases List.mem_cons.mp hw with rfl | hw
    · exact h5
    · exact hw)
theorem iX0 : ∀ w ∈ wsX00, w ∈ TBg := tb_list [402, 404] (by decide +kernel) (by decide +kernel)
theorem iX1 : ∀ w ∈ wsX10, w ∈ TBg := tb_list [357, 359, 361] (by decide +kernel) (by decide +kernel)
theorem iX2 : ∀ w ∈ wsX20, w ∈ TBg := tb_list [199, 201, 203, 205, 207] (by decide +kernel) (by decide +kernel)
theorem iX3 : ∀ w ∈ wsX30, w ∈ TBg := tb_list [379, 381, 383, 385, 387, 389, 391] (by decide +kernel) (by decide +kernel)
theorem iX4 : ∀ w ∈ wsX40, w ∈ TBg := tb_list [227, 229, 231, 233, 235, 237] (by decide +kernel) (by decide +kernel)
theorem iX5 : ∀ w ∈ wsX50, w ∈ TBg := tb_list [138, 140, 142, 144, 146] (by decide +kernel) (by decide +kernel)
theorem iX6 : ∀ w ∈ wsX60, w ∈ TBg := tb_list [488, 490, 492, 494, 496, 498, 500, 502, 504, 506, 508] (by decide +kernel) (by decide +kernel)
theorem iX7 : ∀ w ∈ wsX70, w ∈ TBg := tb_list [308, 310, 312, 314, 316] (by decide +kernel) (by decide +kernel)
theorem iX8 : ∀ w ∈ wsX80, w ∈ TBg := tb_list [173, 175, 177] (by decide +kernel) (by decide +kernel)
theorem iX9 : ∀ w ∈ wsX90, w ∈ TBg := tb_list [271, 273, 275, 277, 279, 281, 283, 285, 287] (by decide +kernel) (by decide +kernel)
theorem iX10 : ∀ w ∈ wsX100, w ∈ TBg := tb_list [335, 337, 339, 341, 343, 345] (by decide +kernel) (by decide +kernel)
theorem iX11 : ∀ w ∈ wsX110, w ∈ TBg := tb_list [421, 423, 425, 427, 429, 431, 433, 435, 437, 439, 441, 443, 445, 447] (by decide +kernel) (by decide +kernel)
theorem iX12 : ∀ w ∈ wsX120, w ∈ TBg := tb_list [1075, 1077, 1079, 1081, 1083, 1085, 1087, 1089, 1091, 1093, 1095, 1097, 1099, 1101, 1103, 1105, 1107, 1109, 1111, 1113, 1115, 1117, 1119, 1121, 1123, 1125, 1127, 1129, 1131, 1133, 1135, 1137, 1139, 1141, 1143, 1145, 1147, 1149, 1151, 1153, 1155, 1157, 1159, 1161, 1163, 1165, 1167, 1169, 1171, 1173, 1175, 1177, 1179, 1181, 1183, 1185, 1187, 1189] (by decide +kernel) (by decide +kernel)
end
section

/-! own rows: the array classes, the nest mates' words, entry and end of a method, frames of calls -/
def TY (cy : Nat → ClassId) : List (ClassId × FieldType) := [(cy 0, .int), (cy 1, .byte), (cy 2, .boolean), (cy 3, .long), (cy 4, .object "TuneLocks$Song"), (cy 5, .object "TuneLocks$Hearing"), (cy 6, .object "TuneLocks$Lock"), (cy 7, .object "TuneLocks$Scene")]
def nst : List Cond := [.fieldLinkNest RX11 104 "TuneLocks$Scene" "voice" "LTuneLocks$Song;" "TuneLocks",
  .fieldLinkNest RX11 113 "TuneLocks$Town" "lockCount" "I" "TuneLocks",
  .fieldLinkNest RX11 120 "TuneLocks$Town" "tunes" "[LTuneLocks$Song;" "TuneLocks",
  .fieldLinkNest RX11 124 "TuneLocks$Song" "count" "I" "TuneLocks",
  .fieldLinkNest RX11 138 "TuneLocks$Town" "hearings" "[LTuneLocks$Hearing;" "TuneLocks",
  .fieldLinkNest RX11 146 "TuneLocks$Hearing" "place" "[I" "TuneLocks",
  .fieldLinkNest RX11 150 "TuneLocks$Hearing" "least" "[I" "TuneLocks",
  .fieldLinkNest RX11 156 "TuneLocks$Scene" "worn" "[I" "TuneLocks",
  .fieldLinkNest RX11 170 "TuneLocks$Town" "tuneCount" "I" "TuneLocks",
  .fieldLinkNest RX11 197 "TuneLocks$Town" "sweet" "[Z" "TuneLocks",
  .fieldLinkNest RX11 227 "TuneLocks$Scene" "open" "I" "TuneLocks",
  .fieldLinkNest RX11 230 "TuneLocks$Scene" "atNight" "Z" "TuneLocks",
  .fieldLinkNest RX11 234 "TuneLocks$Song" "high" "[I" "TuneLocks",
  .fieldLinkNest RX11 237 "TuneLocks$Song" "length" "[I" "TuneLocks",
  .fieldLinkNest RX11 240 "TuneLocks$Town" "locks" "[LTuneLocks$Lock;" "TuneLocks",
  .fieldLinkNest RX11 278 "TuneLocks$Scene" "kept" "Z" "TuneLocks",
  .fieldLinkNest RX11 281 "TuneLocks$Watches" "count" "I" "TuneLocks",
  .fieldLinkNest RX11 282 "TuneLocks$Town" "units" "I" "TuneLocks",
  .fieldLinkNest RX11 89 "TuneLocks$Reader" "fault" "I" "TuneLocks",
  .fieldLinkNest RX11 95 "TuneLocks$Reader" "faultPlace" "I" "TuneLocks",
  .fieldLinkNest RX0 19 "TuneLocks$Song" "count" "I" "TuneLocks",
  .fieldLinkNest RX0 22 "TuneLocks$Song" "length" "[I" "TuneLocks",
  .fieldLinkNest RX0 25 "TuneLocks$Song" "high" "[I" "TuneLocks",
  .fieldLinkNest RX1 15 "TuneLocks$Town" "tuneCount" "I" "TuneLocks",
  .fieldLinkNest RX2 24 "TuneLocks$Song" "count" "I" "TuneLocks",
  .fieldLinkNest RX2 33 "TuneLocks$Town" "tuneCount" "I" "TuneLocks",
  .fieldLinkNest RX2 38 "TuneLocks$Town" "tunes" "[LTuneLocks$Song;" "TuneLocks",
  .fieldLinkNest RX3 36 "TuneLocks$Town" "tuneCount" "I" "TuneLocks",
  .fieldLinkNest RX3 45 "TuneLocks$Town" "tunes" "[LTuneLocks$Song;" "TuneLocks",
  .fieldLinkNest RX3 49 "TuneLocks$Song" "count" "I" "TuneLocks",
  .fieldLinkNest RX5 34 "TuneLocks$Lock" "from" "I" "TuneLocks",
  .fieldLinkNest RX5 37 "TuneLocks$Lock" "to" "I" "TuneLocks",
  .fieldLinkNest RX5 44 "TuneLocks$Hearing" "least" "[I" "TuneLocks",
  .fieldLinkNest RX5 53 "TuneLocks$Hearing" "atFirst" "[I" "TuneLocks",
  .fieldLinkNest RX5 56 "TuneLocks$Hearing" "atLast" "[I" "TuneLocks",
  .fieldLinkNest RX5 59 "TuneLocks$Hearing" "notes" "I" "TuneLocks",
  .fieldLinkNest RX6 109 "TuneLocks$Town" "lockCount" "I" "TuneLocks",
  .fieldLinkNest RX6 116 "TuneLocks$Town" "locks" "[LTuneLocks$Lock;" "TuneLocks",
  .fieldLinkNest RX6 120 "TuneLocks$Lock" "name" "J" "TuneLocks",
  .fieldLinkNest RX6 125 "TuneLocks$Lock" "near" "I" "TuneLocks",
  .fieldLinkNest RX6 128 "TuneLocks$Town" "questions" "LTuneLocks$Questions;" "TuneLocks",
  .fieldLinkNest RX6 132 "TuneLocks$Questions" "count" "I" "TuneLocks",
  .fieldLinkNest RX6 135 "TuneLocks$Lock" "from" "I" "TuneLocks",
  .fieldLinkNest RX6 141 "TuneLocks$Lock" "to" "I" "TuneLocks",
  .fieldLinkNest RX6 144 "TuneLocks$Town" "sweet" "[Z" "TuneLocks",
  .fieldLinkNest RX6 167 "TuneLocks$Town" "units" "I" "TuneLocks",
  .fieldLinkNest RX6 63 "TuneLocks$Town" "tuneCount" "I" "TuneLocks",
  .fieldLinkNest RX6 78 "TuneLocks$Town" "tuneNames" "[J" "TuneLocks",
  .fieldLinkNest RX6 85 "TuneLocks$Town" "tunes" "[LTuneLocks$Song;" "TuneLocks",
  .fieldLinkNest RX6 93 "TuneLocks$Song" "count" "I" "TuneLocks",
  .fieldLinkNest RX7 24 "TuneLocks$Song" "count" "I" "TuneLocks",
  .fieldLinkNest RX9 103 "TuneLocks$Hearing" "least" "[I" "TuneLocks",
  .fieldLinkNest RX9 59 "TuneLocks$Questions" "count" "I" "TuneLocks",
  .fieldLinkNest RX9 66 "TuneLocks$Lock" "name" "J" "TuneLocks",
  .fieldLinkNest RX9 78 "TuneLocks$Lock" "toldByDay" "I" "TuneLocks",
  .fieldLinkNest RX9 81 "TuneLocks$Lock" "toldAtNight" "I" "TuneLocks",
  .fieldLinkNest RX9 92 "TuneLocks$Hearing" "notes" "I" "TuneLocks",
  .fieldLinkNest RX10 32 "TuneLocks$Town" "tuneCount" "I" "TuneLocks",
  .fieldLinkNest RX10 45 "TuneLocks$Town" "locks" "[LTuneLocks$Lock;" "TuneLocks",
  .methodLinkNest RX11 29 yX7_init "TuneLocks",
  .methodLinkNest RX11 40 yX2_init "TuneLocks",
  .methodLinkNest RX11 47 yX10_init "TuneLocks",
  .methodLinkNest RX11 54 yX1_init "TuneLocks",
  .methodLinkNest RX11 61 yX3_init "TuneLocks",
  .methodLinkNest RX11 68 yX0_init "TuneLocks",
  .methodLinkNest RX9 35 yX5_init "TuneLocks",
  .methodLinkNest RX9 47 yX2_init "TuneLocks",
  .methodLinkNest RX9 48 yX4_init "TuneLocks"]
def isNst : Cond → Bool
  | .fieldLinkNest .. => true
  | .methodLinkNest .. => true
  | _ => false
theorem nst_all : nst.all isNst = true := by decide +kernel
theorem nst_tab : ∀ w ∈ nst, w.onTables = true := by decide +kernel
theorem df0 : ∀ j, j < 2 → defaultValue (tyX0 j) = vp_V [.null, .int 0] j := by decide +kernel
theorem df1 : ∀ j, j < 3 → defaultValue (tyX1 j) = vp_V [.null, .int 0, .int 0] j := by decide +kernel
theorem df2 : ∀ j, j < 5 → defaultValue (tyX2 j) = vp_V [.null, .null, .null, .null, .int 0] j := by decide +kernel
theorem df3 : ∀ j, j < 7 → defaultValue (tyX3 j) = vp_V [.null, .null, .int 0, .null, .null, .null, .int 0] j := by decide +kernel
theorem df4 : ∀ j, j < 6 → defaultValue (tyX4 j) = vp_V [.long 0, .int 0, .int 0, .int 0, .int 0, .int 0] j := by decide +kernel
theorem df5 : ∀ j, j < 5 → defaultValue (tyX5 j) = vp_V [.null, .null, .int 0, .null, .int 0] j := by decide +kernel
theorem df6 : ∀ j, j < 11 → defaultValue (tyX6 j) = vp_V [.null, .int 0, .null, .int 0, .int 0, .int 0, .int 0, .long 0, .int 0, .int 0, .int 0] j := by decide +kernel
theorem df7 : ∀ j, j < 5 → defaultValue (tyX7 j) = vp_V [.null, .int 0, .int 0, .null, .int 0] j := by decide +kernel
theorem df8 : ∀ j, j < 3 → defaultValue (tyX8 j) = vp_V [.null, .null, .int 0] j := by decide +kernel
theorem df9 : ∀ j, j < 9 → defaultValue (tyX9 j) = vp_V [.null, .null, .null, .int 0, .null, .int 0, .null, .int 0, .null] j := by decide +kernel
theorem df10 : ∀ j, j < 6 → defaultValue (tyX10 j) = vp_V [.null, .null, .null, .null, .null, .int 0] j := by decide +kernel
theorem df11 : ∀ j, j < 14 → defaultValue (tyX11 j) = vp_V [.null, .int 0, .null, .null, .int 0, .int 0, .null, .null, .null, .null, .int 0, .null, .null, .null] j := by decide +kernel
theorem df12 : ∀ j, j < 58 → defaultValue (tyX12 j) = vp_V [.null, .null, .int 0, .int 0, .int 0, .int 0, .int 0, .int 0, .int 0, .int 0, .long 0, .null, .null, .null, .null, .null, .null, .null, .null, .null, .null, .null, .null, .null, .null, .null, .null, .null, .null, .int 0, .int 0, .int 0, .int 0, .int 0, .int 0, .null, .null, .int 0, .null, .null, .null, .null, .null, .int 0, .int 0, .null, .null, .null, .null, .null, .int 0, .int 0, .null, .null, .null, .null, .null, .null] j := by decide +kernel
def AOI (U : State) : Prop := (Cond.arrayOver (.array .int)).before #[] U = true
theorem AOI.moved {u U : State} (hvm : u.vm.Alike U.vm) (h : AOI u) : AOI U := by
  obtain ⟨comp, c, k, h1, h2, h3, h4, h5⟩ := Jvm.Stand.arrayOver_specB h
  obtain ⟨k', hk', he⟩ := hvm.2.2 _ _ h3
  have hi : (U.vm.classes.findIdx? fun (x : Class) => match x.kind with | .array component _ => component == comp | _ => false) = some c := by
    refine (va_idx_bare U.vm comp).symm.trans ?_
    first | rw [hvm.bare_eq] | rw [← hvm.bare_eq]
    exact (va_idx_bare u.vm comp).trans h2
  have hkind : k'.kind = .array comp (.array .int) := by rw [he]; exact h4
  have f1 : U.vm.findClass (FieldType.array .int).toString = some comp := by rw [hvm.findClass]; exact h1
  have f2 : U.vm.findClass ("[" ++ (FieldType.array .int).toString) = some c := by rw [hvm.findClass]; exact h5
  unfold AOI Cond.before Cond.holds
  simp only [Cond.value]
  rw [f1, Option.bind_some]
  refine (congrArg (fun o : Option Nat => (o.bind (fun c => (U.vm.classes[c]?).map fun (k : Class) => match k.kind with | .array _ ty => decide (ty = FieldType.array .int) && decide (U.vm.findClass ("[" ++ (FieldType.array .int).toString) = some c) | _ => false) == some true)) hi).trans ?_
  simp [hk', hkind, f2]
def NK (U : State) : Prop := (∀ w ∈ nst, va_Nw w U) ∧ va_AO "TuneLocks$Song" U ∧ va_AO "TuneLocks$Hearing" U ∧ va_AO "TuneLocks$Lock" U ∧ va_AO "TuneLocks$Scene" U ∧ AOI U
theorem NK.warm {s U : State} (hW : s.WarmedH U.vm) (h : NK s) : NK U := by
  refine ⟨?_, va_AO.moved hW.alike h.2.1, va_AO.moved hW.alike h.2.2.1, va_AO.moved hW.alike h.2.2.2.1, va_AO.moved hW.alike h.2.2.2.2.1, AOI.moved hW.alike h.2.2.2.2.2⟩
  intro w hw
  have h1 := h.1 w hw
  have h2 : isNst w = true := List.all_eq_true.mp nst_all w hw
  match w, h2, h1 with
  | .fieldLinkNest .., _, h1 => exact va_Nw.warmF hW h1
  | .methodLinkNest .., _, h1 => exact va_Nw.warmM hW h1
theorem NK.same {u U : State} (hv : u.vm = U.vm) (h : NK u) : NK U := by
  have ha : u.vm.Alike U.vm := by rw [hv]; exact Vm.Alike.refl _
  exact ⟨fun w hw => va_Nw.same (nst_tab w hw) hv (h.1 w hw), va_AO.moved ha h.2.1, va_AO.moved ha h.2.2.1, va_AO.moved ha h.2.2.2.1, va_AO.moved ha h.2.2.2.2.1, AOI.moved ha h.2.2.2.2.2⟩
def En (G : va_G) (cy : Nat → ClassId) (ws : va_W) (sz : Nat) (U : State) : Prop := U.heap.size = sz ∧ va_P G vwCl ws U.heap ∧ va_K G vwCl (TY cy) U ∧ va_D (fun _ => True) ws ∧ NK U
def Ex (G : va_G) (A : Nat → Prop) (ws : va_W) (t : State) : Prop := va_P G vwCl ws t.heap ∧ va_D A ws
theorem En.blind {G : va_G} {cy : Nat → ClassId} {ws : va_W} {sz : Nat} {av : List Value} : FrameBlind (va_Pc av (En G cy ws sz)) := fun a U g mk q => by
  obtain ⟨q0, q1, q2, q3, q4, q5⟩ := q
  exact ⟨q0, q1, q2, va_K.moved (u := U) (U := U.calling g mk a) (Vm.Alike.refl U.vm) q3, q4, NK.same (u := U) (U := U.calling g mk a) rfl q5⟩
theorem En.of {G : va_G} {cy : Nat → ClassId} {ws : va_W} {H : Heap} {A : Nat → Prop} {s U : State} (hU : U.heap = H) (hW : s.WarmedH U.vm) (hP : va_P G vwCl ws H) (hK : va_K G vwCl (TY cy) s) (hD : va_D A ws) (hN : NK s) : En G cy ws H.size U :=
  ⟨by rw [hU], by rw [hU]; exact hP, va_K.moved hW.alike hK, hD.weaken (fun _ _ _ _ => trivial), NK.warm hW hN⟩
/-- a call that writes nothing old: all stays -/
theorem fr_keep {G : va_G} {cl : List vw_C} {ws : va_W} {H H1 : Heap} (hP : va_P G cl ws H) (hk : ∀ q : Nat, q < H.size → ¬ va_A [] H.size q → H1[q]? = H[q]?) : va_P G cl ws H1 :=
  hP.kept (fun k x hx => hk x.1 ((hP k x hx).lt) (fun h => by
    rcases h with ⟨k9, e9, h9⟩ | h
    · simp at h9
    · exact absurd ((hP k x hx).lt) (Nat.not_lt.mpr h)))
theorem fr_new {A : Nat → Prop} {H0 H : Heap} {locs : List Loc} (hS : va_S A H0 H locs) (hA : ∀ q, H0.size ≤ q → A q) : ∀ q, va_A [] H.size q → A q := fun q h => by
  rcases h with ⟨k9, e9, h9⟩ | h
  · simp at h9
  · exact hA q (Nat.le_trans hS.1 h)
/-- cells laid back at their places -/
def pu : va_W → List Nat → va_W → va_W
  | ws, i :: is, x :: xs => pu (ws.set i x) is xs
  | ws, _, _ => ws
theorem pu_get : ∀ (is : List Nat) (xs ws : va_W) (j : Nat), (pu ws is xs)[j]? = ws[j]? ∨ ∃ t : Nat, is[t]? = some j ∧ ∃ x, xs[t]? = some x ∧ (pu ws is xs)[j]? = some x := by
  intro is
  induction is with
  | nil => intro xs ws j; left; simp [pu]
  | cons i is ih =>
    intro xs ws j
    cases xs with
    | nil => left; simp [pu]
    | cons x xs =>
      rcases ih xs (ws.set i x) j with h | ⟨t, h1, y, h2, h3⟩
      · show (pu (ws.set i x) is xs)[j]? = _ ∨ _
        rw [List.getElem?_set] at h
        by_cases e : i = j
        · subst e
          rw [if_pos rfl] at h
          by_cases hl : i < ws.length
          · rw [if_pos hl] at h
            right
            exact ⟨0, rfl, x, rfl, h⟩
          · left
            rw [if_neg hl] at h
            rw [List.getElem?_eq_none (Nat.le_of_not_lt hl)]
            exact h
        · left
          rw [if_neg e] at h
          exact h
      · right
        exact ⟨t + 1, h1, y, h2, h3⟩
theorem fr_put {G : va_G} {cl : List vw_C} {A : Nat → Prop} {ws wc w1 : va_W} {H H1 : Heap} (hP : va_P G cl ws H) (hD : va_D A ws) (is : List Nat) (hC : is.map (fun i => ws[i]?) = wc.map some) (hadr : w1.map Prod.fst = wc.map Prod.fst) (hcov : is.map (fun i => (pu ws is w1)[i]?) = w1.map some)
    (hk : ∀ q : Nat, q < H.size → ¬ va_A wc H.size q → H1[q]? = H[q]?) (hP1 : va_P G cl w1 H1) : va_P G cl (pu ws is w1) H1 ∧ va_D A (pu ws is w1) := by
  have hlen : is.length = wc.length := by
    have := congrArg List.length hC
    simpa using this
  have hlen1 : w1.length = wc.length := by
    have := congrArg List.length hadr
    simpa using this
  have hat : ∀ (t : Nat) (x : Nat × va_E), w1[t]? = some x → ∃ i y, is[t]? = some i ∧ wc[t]? = some y ∧ ws[i]? = some y ∧ x.1 = y.1 := by
    intro t x hx
    have ht : t < wc.length := by
      have := (List.getElem?_eq_some_iff.mp hx).1
      omega
    have hi : t < is.length := by omega
    have e1 : (is.map (fun i => ws[i]?))[t]? = (wc.map some)[t]? := by rw [hC]
    rw [List.getElem?_map, List.getElem?_map, List.getElem?_eq_getElem hi, List.getElem?_eq_getElem ht] at e1
    have e2 : (w1.map Prod.fst)[t]? = (wc.map Prod.fst)[t]? := by rw [hadr]
    rw [List.getElem?_map, List.getElem?_map, hx, List.getElem?_eq_getElem ht] at e2
    exact ⟨is[t], wc[t], List.getElem?_eq_getElem hi, List.getElem?_eq_getElem ht, by simpa using e1, by simpa using e2⟩
  have key : ∀ (j : Nat) (x : Nat × va_E), (pu ws is w1)[j]? = some x → (∃ y, ws[j]? = some y ∧ x.1 = y.1) ∧ va_at G cl x H1 := by
    intro j x hx
    by_cases hj : j ∈ is
    · obtain ⟨t, ht⟩ := List.getElem?_of_mem hj
      have htl : t < is.length := (List.getElem?_eq_some_iff.mp ht).1
      have ht1 : t < w1.length := by omega
      have e1 : (is.map (fun i => (pu ws is w1)[i]?))[t]? = (w1.map some)[t]? := by rw [hcov]
      rw [List.getElem?_map, List.getElem?_map, ht, List.getElem?_eq_getElem ht1] at e1
      have e3 : (pu ws is w1)[j]? = some w1[t] := by simpa using e1
      rw [hx] at e3
      have hw : w1[t]? = some x := by rw [List.getElem?_eq_getElem ht1]; exact e3.symm
      obtain ⟨i, y, g1, g2, g3, g4⟩ := hat t x hw
      rw [ht] at g1
      cases g1
      exact ⟨⟨y, g3, g4⟩, hP1 t x hw⟩
    · rcases pu_get is w1 ws j with h | ⟨t, h1, y, h2, h3⟩
      · rw [hx] at h
        have hw : ws[j]? = some x := h.symm
        refine ⟨⟨x, hw, rfl⟩, ?_⟩
        have hat0 := hP j x hw
        refine hat0.kept (hk x.1 hat0.lt ?_)
        intro hA
        rcases hA with ⟨k, e, he⟩ | hge
        · have hkl : k < wc.length := (List.getElem?_eq_some_iff.mp he).1
          have hki : k < is.length := by omega
          have e1 : (is.map (fun i => ws[i]?))[k]? = (wc.map some)[k]? := by rw [hC]
          rw [List.getElem?_map, List.getElem?_map, he, List.getElem?_eq_getElem hki] at e1
          have e3 : ws[is[k]]? = some (x.1, e) := by simpa using e1
          have := hD.1 (is[k]) j _ _ e3 hw rfl
          exact hj (this ▸ List.getElem_mem hki)
        · exact absurd hat0.lt (Nat.not_lt.mpr hge)
      · exact absurd (List.mem_of_getElem? h1) hj
  refine ⟨fun j x hx => (key j x hx).2, fun i j x y hi hj hxy => ?_, fun j x hx => ?_⟩
  · obtain ⟨⟨x', hx1, hx2⟩, -⟩ := key i x hi
    obtain ⟨⟨y', hy1, hy2⟩, -⟩ := key j y hj
    exact hD.1 i j x' y' hx1 hy1 (by rw [← hx2, ← hy2]; exact hxy)
  · obtain ⟨⟨x', hx1, hx2⟩, -⟩ := key j x hx
    rw [hx2]
    exact hD.2 j x' hx1
/-- the object made last is built: what it comes to lies behind the rest -/
theorem fr_last {G : va_G} {cl : List vw_C} {A : Nat → Prop} {ws w1 : va_W} {x : Nat × va_E} {H H1 : Heap} (hP : va_P G cl (ws ++ [x]) H) (hD : va_D A (ws ++ [x])) (hF : ∀ q, va_A [x] H.size q → A q)
    (hk : ∀ q : Nat, q < H.size → ¬ va_A [x] H.size q → H1[q]? = H[q]?) (hP1 : va_P G cl w1 H1) (hD1 : va_D (va_A [x] H.size) w1) : va_P G cl (ws ++ w1) H1 ∧ va_D A (ws ++ w1) := by
  have hlt : ∀ (j : Nat) (y : Nat × va_E), ws[j]? = some y → (ws ++ [x])[j]? = some y := fun j y hy => by
    rw [List.getElem?_append_left ((List.getElem?_eq_some_iff.mp hy).1)]
    exact hy
  have hxl : (ws ++ [x])[ws.length]? = some x := by simp
  have hno : ∀ (j : Nat) (y : Nat × va_E), ws[j]? = some y → ¬ va_A [x] H.size y.1 := fun j y hy hA => by
    have hyP := hP j y (hlt j y hy)
    rcases hA with ⟨k, e, he⟩ | hge
    · have hk0 : k < 1 := (List.getElem?_eq_some_iff.mp he).1
      rw [show k = 0 by omega] at he
      have hx0 : x = (y.1, e) := by simpa using he
      have := hD.1 j ws.length y x (hlt j y hy) hxl (by rw [hx0])
      have hl := (List.getElem?_eq_some_iff.mp hy).1
      omega
    · exact absurd hyP.lt (Nat.not_lt.mpr hge)
  have hPw : va_P G cl ws H1 := fun j y hy => (hP j y (hlt j y hy)).kept (hk y.1 (hP j y (hlt j y hy)).lt (hno j y hy))
  refine ⟨hPw.app hP1, fun i j p q hi hj hpq => ?_, fun j q hq => ?_⟩
  · by_cases h1 : i < ws.length <;> by_cases h2 : j < ws.length
    · rw [List.getElem?_append_left h1] at hi
      rw [List.getElem?_append_left h2] at hj
      exact hD.1 i j p q (hlt i p hi) (hlt j q hj) hpq
    · rw [List.getElem?_append_left h1] at hi
      rw [List.getElem?_append_right (by omega)] at hj
      exact absurd (hpq ▸ hD1.2 _ q hj) (hno i p hi)
    · rw [List.getElem?_append_right (by omega)] at hi
      rw [List.getElem?_append_left h2] at hj
      exact absurd (hpq ▸ hD1.2 _ p hi) (hno j q hj)
    · rw [List.getElem?_append_right (by omega)] at hi
      rw [List.getElem?_append_right (by omega)] at hj
      have := hD1.1 _ _ p q hi hj hpq
      omega
  · by_cases h1 : j < ws.length
    · rw [List.getElem?_append_left h1] at hq
      exact hD.2 j q (hlt j q hq)
    · rw [List.getElem?_append_right (by omega)] at hq
      exact hF _ (hD1.2 _ q hq)
theorem fr_lastF {A : Nat → Prop} {ws : va_W} {x : Nat × va_E} {H0 H : Heap} {locs : List Loc} (hD : va_D A (ws ++ [x])) (hS : va_S A H0 H locs) (hA : ∀ q, H0.size ≤ q → A q) : ∀ q, va_A [x] H.size q → A q := fun q h => by
  rcases h with ⟨k, e, he⟩ | h
  · have hk0 : k < 1 := (List.getElem?_eq_some_iff.mp he).1
    rw [show k = 0 by omega] at he
    have hx0 : x = (q, e) := by simpa using he
    have := hD.2 ws.length x (by simp)
    rw [hx0] at this
    exact this
  · exact hA q (Nat.le_trans hS.1 h)
theorem fr_lastP {G : va_G} {cl : List vw_C} {ws : va_W} {x : Nat × va_E} {H : Heap} (hP : va_P G cl (ws ++ [x]) H) : va_P G cl [x] H := fun k q h => by
  have hk0 : k < 1 := (List.getElem?_eq_some_iff.mp h).1
  rw [show k = 0 by omega] at h
  exact hP ws.length q (by rw [List.getElem?_append_right (Nat.le_refl _)]; simpa using h)
theorem fr_lastD {ws : va_W} {x : Nat × va_E} : va_D (fun _ => True) [x] := ⟨fun i j p q hi hj _ => by
  have h1 : i < 1 := (List.getElem?_eq_some_iff.mp hi).1
  have h2 : j < 1 := (List.getElem?_eq_some_iff.mp hj).1
  omega, fun _ _ _ => trivial⟩
/-- what lies ahead goes, what lies behind stays -/
theorem fr_drop {G : va_G} {cl : List vw_C} {A : Nat → Prop} {w1 w2 : va_W} {H H1 : Heap} (hP : va_P G cl (w1 ++ w2) H) (hD : va_D A (w1 ++ w2)) (hk : ∀ q : Nat, q < H.size → ¬ va_A w1 H.size q → H1[q]? = H[q]?) : va_P G cl w2 H1 ∧ va_D A w2 := by
  have hr : ∀ (j : Nat) (y : Nat × va_E), w2[j]? = some y → (w1 ++ w2)[w1.length + j]? = some y := fun j y hy => by
    rw [List.getElem?_append_right (Nat.le_add_right _ _), Nat.add_sub_cancel_left]
    exact hy
  refine ⟨fun j y hy => ?_, fun i j p q hi hj hpq => ?_, fun j q hq => hD.2 _ q (hr j q hq)⟩
  · have h0 := hP _ y (hr j y hy)
    refine h0.kept (hk y.1 h0.lt (fun hA => ?_))
    rcases hA with ⟨k, e, he⟩ | hge
    · have hkl : k < w1.length := (List.getElem?_eq_some_iff.mp he).1
      have := hD.1 k (w1.length + j) (y.1, e) y (by rw [List.getElem?_append_left hkl]; exact he) (hr j y hy) rfl
      omega
    · exact absurd h0.lt (Nat.not_lt.mpr hge)
  · have := hD.1 _ _ p q (hr i p hi) (hr j q hj) hpq
    omega
theorem fr_left {G : va_G} {cl : List vw_C} {A : Nat → Prop} {w1 w2 : va_W} {H : Heap} (hP : va_P G cl (w1 ++ w2) H) (hD : va_D A (w1 ++ w2)) : va_P G cl w1 H ∧ va_D A w1 := by
  have hr : ∀ (j : Nat) (y : Nat × va_E), w1[j]? = some y → (w1 ++ w2)[j]? = some y := fun j y hy => by
    rw [List.getElem?_append_left ((List.getElem?_eq_some_iff.mp hy).1)]
    exact hy
  exact ⟨fun j y hy => hP j y (hr j y hy), fun i j p q hi hj hpq => hD.1 i j p q (hr i p hi) (hr j q hj) hpq, fun j q hq => hD.2 j q (hr j q hq)⟩
theorem fr_leftF {A : Nat → Prop} {w1 w2 : va_W} {H0 H : Heap} {locs : List Loc} (hD : va_D A (w1 ++ w2)) (hS : va_S A H0 H locs) (hA : ∀ q, H0.size ≤ q → A q) : ∀ q, va_A w1 H.size q → A q := fun q h => by
  rcases h with ⟨k, e, he⟩ | h
  · exact hD.2 k (q, e) (by rw [List.getElem?_append_left ((List.getElem?_eq_some_iff.mp he).1)]; exact he)
  · exact hA q (Nat.le_trans hS.1 h)
theorem fr_free {A : Nat → Prop} {ws : va_W} {H0 H : Heap} {locs : List Loc} (hD : va_D A ws) (hS : va_S A H0 H locs) (hA : ∀ q, H0.size ≤ q → A q) : ∀ q, va_A ws H.size q → A q := fun q h => by
  rcases h with ⟨k, e, he⟩ | h
  · exact hD.2 k (q, e) he
  · exact hA q (Nat.le_trans hS.1 h)
theorem in_lit {i : Int32} {n : Nat} (h : (decide (i < 0) || decide (n ≤ i.toNatClampNeg)) = false) : vp_in i n := by
  simp at h
  intro hc
  rcases hc with h1 | h1
  · exact absurd h1 (by simpa using h.1)
  · exact absurd h1 (by simpa using h.2)
theorem upd_same (v : Int32) (k : Nat) : upd (fun _ => v) k v = fun _ => v := by
  funext j
  unfold upd
  split <;> rfl
/-- the array class of a kind is one -/
theorem cy_one {G : va_G} {cl : List vw_C} {tys : List (ClassId × FieldType)} {s : State} {cA cB : ClassId} {ty : FieldType} (hK : va_K G cl (tys ++ [(cA, ty)]) s) (k : Nat) (hk : tys[k]? = some (cB, ty)) : cA = cB := by
  have h1 := (hK.2 tys.length (cA, ty) (by simp)).2
  have h2 := (hK.2 k (cB, ty) (by rw [List.getElem?_append_left ((List.getElem?_eq_some_iff.mp hk).1)]; exact hk)).2
  cases ty <;> simp only [va_RA] at h1 h2 <;> first | exact Option.some.inj (h1.symm.trans h2) | (obtain ⟨-, -, -, -, -, h1⟩ := h1; obtain ⟨-, -, -, -, -, h2⟩ := h2; exact Option.some.inj (h1.symm.trans h2))
def lst (l : List Nat) (k : Nat) : Nat := l.getD k 0
def lsf (l : List (Nat → Int32)) (k : Nat) : Nat → Int32 := l.getD k (fun _ => 0)
def swF : Nat → Value := fun j => .int (([0, 3, 4, 7, 8, 9] : List Int32).getD j 0)
def SWt (t : Nat) (A : Nat → Prop) (U : State) : Prop := va_Z "TuneLocks$Town" "SWEET_UNTOLD" "[I" (.ref t) A U U.heap ∧ va_T .int t 6 swF A U U.heap
def EnS (G : va_G) (cy : Nat → ClassId) (ws : va_W) (sz : Nat) (t : Nat) (U : State) : Prop := En G cy ws sz U ∧ SWt t (va_A ws sz) U
theorem SWt.of {t : Nat} {A A1 : Nat → Prop} {s U : State} {H : Heap} {locs : List Loc} (h : SWt t A s) (hS : va_S A s.heap H locs) (hF : ∀ q, A1 q → A q) (hU : U.heap = H) (hW : s.WarmedH U.vm) : SWt t A1 U := by
  have h1 := (va_Z.moved hW.alike (va_Z.narrow (va_Z.kept h.1 hS.2.1) hF))
  have h2 := (va_T.moved hW.alike (va_T.narrow (va_T.kept h.2 hS.2.1) hF))
  rw [← hU] at h1 h2
  exact ⟨h1, h2⟩
theorem EnS.blind {G : va_G} {cy : Nat → ClassId} {ws : va_W} {sz t : Nat} {av : List Value} : FrameBlind (va_Pc av (EnS G cy ws sz t)) := fun a U g mk q => by
  obtain ⟨q0, q1, q2⟩ := q
  obtain ⟨-, q1'⟩ := En.blind (av := a.toList) a U g mk ⟨by simp, q1⟩
  exact ⟨q0, q1', va_Z.moved (u := U) (U := U.calling g mk a) (Vm.Alike.refl U.vm) q2.1, va_T.moved (u := U) (U := U.calling g mk a) (Vm.Alike.refl U.vm) q2.2⟩
theorem ow_lt (a b : Int32) : a < b ↔ a.toInt < b.toInt := Int32.lt_iff_toInt_lt
theorem ow_le (a b : Int32) : a ≤ b ↔ a.toInt ≤ b.toInt := Int32.le_iff_toInt_le
theorem ow_eq (a b : Int32) : a = b ↔ a.toInt = b.toInt := ⟨fun h => by rw [h], fun h => Int32.toInt_inj.mp h⟩
theorem ow_i0 {P : Prop} [Decidable P] {r : Int32} (h : r = if P then 1 else 0) (c : r = 0) : ¬ P := fun hp => by
  rw [if_pos hp] at h
  rw [h] at c
  exact absurd c (by decide)
theorem ow_i1 {P : Prop} [Decidable P] {r : Int32} (h : r = if P then 1 else 0) (c : ¬ r = 0) : P := by
  by_cases hp : P
  · exact hp
  · rw [if_neg hp] at h
    exact absurd h c
/-- a number is one of the first n, or none of them -/
theorem ow_cut (x : Int32) (n : Nat) (hn : n < 2 ^ 31) : (∃ j, j < n ∧ x = nI j) ∨ (x.toInt < 0 ∨ (n : Int) ≤ x.toInt) := by
  rcases pk_ix x hn with h | h | ⟨j, h1, h2⟩
  · right; left
    have := (ow_lt x 0).mp h
    have z : (0 : Int32).toInt = 0 := by decide
    omega
  · right; right
    have := (ow_le (nI n) x).mp h
    rw [nI_toInt hn] at this
    exact this
  · left
    exact ⟨j, h1, h2⟩
section OWN
variable {p : Program} {l : Launch} {e : Env} {R : Room} {s : State} {m : MethodId} {args : Array Value} {below : List Frame} {meth : Method} {c : Code} {H : Heap} {locs : List Loc} {cells slots : Nat} {Q : State → Prop}
variable {cc : ByteArray} {pc : Nat} {ls : Array Slot} {rest : List Value} {D : va_G} {cl : List vw_C} {A : Nat → Prop} {a : Nat} {cy : Nat → ClassId} {ws : va_W} {H0 : Heap}
theorem ow_newa (hexec : p.tables.exec = Jvm.exec) (hb : c.code = cc) {atype : ArrayType} (harr : (Cond.arrayClass (newarray.typeOf atype)).before args s = true) {ty : FieldType} (hty : newarray.typeOf atype = ty) (hK : va_K D cl (TY cy) s) (hP : va_P D cl ws H) (hD : va_D A ws) (hS : va_S A H0 H locs) (hA : ∀ q, H0.size ≤ q → A q) (k : Nat) {cB : ClassId} (hk : (TY cy)[k]? = some (cB, ty))
    {n : Int32} {N' : Nat} {a0 : vp_A} (ha : ∀ cA : ClassId, vp_cell cA a0 = arrV cA N' (fun _ => defaultValue ty)) (hn : ¬ n < 0) (hN : n.toNatClampNeg = N') (hbytes : N' * componentBytes ty ≤ 536870912) (hcells : cells + 1 ≤ R.cells) (hslots : slots + N' ≤ R.slots) (hdg : decode cc pc = .ok (.newarray atype, 2))
    (kk : ∀ (q : Nat) (H1 : Heap), va_P D cl (ws ++ [(q, .inl (cB, a0))]) H1 → va_D A (ws ++ [(q, .inl (cB, a0))]) → va_S A H0 H1 locs →
      W p l e R s m args below meth c H1 locs (cells + 1) (slots + N') Q (F0 m (pc + 2) ls (.ref q :: rest))) : W p l e R s m args below meth c H locs cells slots Q (F0 m pc ls (.int n :: rest)) := by
  refine va_newa hexec hb harr hty hK hP hD hS hA ha hn hN hbytes hcells hslots hdg (fun q cA H1 hK1 hP1 hD1 hS1 => ?_)
  have e1 := cy_one hK1 k hk
  subst e1
  exact kk q H1 hP1 hD1 hS1
theorem ow_newq (hexec : p.tables.exec = Jvm.exec) (hb : c.code = cc) {own C : String} {index : Nat} (hown : s.vm.findClass own = some m.cls) (hclink : (Cond.classLink own index C).before args s = true) (hN9 : va_AO C s) (hK : va_K D cl (TY cy) s) (hP : va_P D cl ws H) (hD : va_D A ws) (hS : va_S A H0 H locs) (hA : ∀ q, H0.size ≤ q → A q) (k : Nat) {cB : ClassId} (hk : (TY cy)[k]? = some (cB, .object C))
    {n : Int32} {N' : Nat} (hn : ¬ n < 0) (hN : n.toNatClampNeg = N') (hbytes : N' * 4 ≤ 536870912) (hcells : cells + 1 ≤ R.cells) (hslots : slots + N' ≤ R.slots) (hdg : decode cc pc = .ok (.anewarray index, 3))
    (kk : ∀ (q : Nat) (H1 : Heap), va_P D cl (ws ++ [(q, .inl (cB, N', .inr (.inr (.inr (.inr (fun _ => none))))))]) H1 → va_D A (ws ++ [(q, .inl (cB, N', .inr (.inr (.inr (.inr (fun _ => none))))))]) → va_S A H0 H1 locs →
      W p l e R s m args below meth c H1 locs (cells + 1) (slots + N') Q (F0 m (pc + 3) ls (.ref q :: rest))) : W p l e R s m args below meth c H locs cells slots Q (F0 m pc ls (.int n :: rest)) := by
  refine va_newq hexec hb hown hclink hN9 hK hP hD hS hA hn hN hbytes hcells hslots hdg (fun q cA H1 hK1 hP1 hD1 hS1 => ?_)
  have e1 := cy_one hK1 k hk
  subst e1
  exact kk q H1 hP1 hD1 hS1
/-- a store into an array of ints, what it holds then is not told -/
theorem ow_iast (hexec : p.tables.exec = Jvm.exec) (hb : c.code = cc) (hK : va_K D cl (TY cy) s) (hP : va_P D cl ws H) (hD : va_D A ws) (hS : va_S A H0 H locs) (q0 : Nat) {n : Nat} {f : Nat → Int32} (ha : ws[q0]? = some (a, .inl (cy 0, n, .inl f))) {i : Int32} {x : Int32} (hin : vp_in i n) (hdg : decode cc pc = .ok (.iastore, 1))
    (kk : ∀ (f1 : Nat → Int32) (H1 : Heap) (locs1 : List Loc), va_P D cl (ws.set q0 (a, .inl (cy 0, n, .inl f1))) H1 → va_D A (ws.set q0 (a, .inl (cy 0, n, .inl f1))) → va_S A H0 H1 locs1 → W p l e R s m args below meth c H1 locs1 cells slots Q (F0 m (pc + 1) ls rest)) : W p l e R s m args below meth c H locs cells slots Q (F0 m pc ls (.int x :: .int i :: .ref a :: rest)) :=
  va_iast hexec hb hK hP hD hS q0 0 ha rfl hin hdg (fun H1 l1 h1 h2 h3 => kk _ H1 l1 h1 h2 h3)
theorem ow_bast (hexec : p.tables.exec = Jvm.exec) (hb : c.code = cc) (hK : va_K D cl (TY cy) s) (hP : va_P D cl ws H) (hD : va_D A ws) (hS : va_S A H0 H locs) (q0 : Nat) {n : Nat} {f : Nat → Int32} (ha : ws[q0]? = some (a, .inl (cy 1, n, .inl f))) {i : Int32} {x : Int32} (hin : vp_in i n) (hdg : decode cc pc = .ok (.bastore, 1))
    (kk : ∀ (f1 : Nat → Int32) (H1 : Heap) (locs1 : List Loc), va_P D cl (ws.set q0 (a, .inl (cy 1, n, .inl f1))) H1 → va_D A (ws.set q0 (a, .inl (cy 1, n, .inl f1))) → va_S A H0 H1 locs1 → W p l e R s m args below meth c H1 locs1 cells slots Q (F0 m (pc + 1) ls rest)) : W p l e R s m args below meth c H locs cells slots Q (F0 m pc ls (.int x :: .int i :: .ref a :: rest)) :=
  va_bast hexec hb hK hP hD hS q0 1 ha rfl hin hdg (fun H1 l1 h1 h2 h3 => kk _ H1 l1 h1 h2 h3)
theorem ow_zast (hexec : p.tables.exec = Jvm.exec) (hb : c.code = cc) (hK : va_K D cl (TY cy) s) (hP : va_P D cl ws H) (hD : va_D A ws) (hS : va_S A H0 H locs) (q0 : Nat) {n : Nat} {f : Nat → Int32} (ha : ws[q0]? = some (a, .inl (cy 2, n, .inl f))) {i : Int32} {x : Int32} (hin : vp_in i n) (hdg : decode cc pc = .ok (.bastore, 1))
    (kk : ∀ (f1 : Nat → Int32) (H1 : Heap) (locs1 : List Loc), va_P D cl (ws.set q0 (a, .inl (cy 2, n, .inl f1))) H1 → va_D A (ws.set q0 (a, .inl (cy 2, n, .inl f1))) → va_S A H0 H1 locs1 → W p l e R s m args below meth c H1 locs1 cells slots Q (F0 m (pc + 1) ls rest)) : W p l e R s m args below meth c H locs cells slots Q (F0 m pc ls (.int x :: .int i :: .ref a :: rest)) :=
  va_zast hexec hb hK hP hD hS q0 2 ha rfl hin hdg (fun H1 l1 h1 h2 h3 => kk _ H1 l1 h1 h2 h3)
/-- a store into an array of ints, of a number that stands everywhere in it -/
theorem ow_iastS (hexec : p.tables.exec = Jvm.exec) (hb : c.code = cc) (hK : va_K D cl (TY cy) s) (hP : va_P D cl ws H) (hD : va_D A ws) (hS : va_S A H0 H locs) (q0 : Nat) {n : Nat} {i : Int32} {x : Int32} (ha : ws[q0]? = some (a, .inl (cy 0, n, .inl (fun _ => x)))) (hin : vp_in i n) (hdg : decode cc pc = .ok (.iastore, 1))
    (kk : ∀ (H1 : Heap) (locs1 : List Loc), va_P D cl (ws.set q0 (a, .inl (cy 0, n, .inl (fun _ => x)))) H1 → va_D A (ws.set q0 (a, .inl (cy 0, n, .inl (fun _ => x)))) → va_S A H0 H1 locs1 → W p l e R s m args below meth c H1 locs1 cells slots Q (F0 m (pc + 1) ls rest)) : W p l e R s m args below meth c H locs cells slots Q (F0 m pc ls (.int x :: .int i :: .ref a :: rest)) :=
  va_iast hexec hb hK hP hD hS q0 0 ha rfl hin hdg (fun H1 l1 h1 h2 h3 => kk H1 l1 (by rw [upd_same] at h1; exact h1) (by rw [upd_same] at h2; exact h2) h3)
theorem ow_astq (hexec : p.tables.exec = Jvm.exec) (hb : c.code = cc) {tys : List (ClassId × FieldType)} (hK : va_K D cl tys s) (hP : va_P D cl ws H) (hD : va_D A ws) (hS : va_S A H0 H locs) (q0 t0 qk ci : Nat) {cA : ClassId} {r : vw_C} {n v : Nat} {vs : List Value} {f : Nat → Option Nat} (ha : ws[q0]? = some (a, .inl (cA, n, .inr (.inr (.inr (.inr f)))))) (ht : tys[t0]? = some (cA, .object r.1)) (hv : ws[qk]? = some (v, .inr (ci, vs))) (hc : cl[ci]? = some r) {i : Int32} (hin : vp_in i n) (hdg : decode cc pc = .ok (.aastore, 1))
    (kk : ∀ (f1 : Nat → Option Nat) (H1 : Heap) (locs1 : List Loc), va_P D cl (ws.set q0 (a, .inl (cA, n, .inr (.inr (.inr (.inr f1)))))) H1 → va_D A (ws.set q0 (a, .inl (cA, n, .inr (.inr (.inr (.inr f1)))))) → va_S A H0 H1 locs1 → W p l e R s m args below meth c H1 locs1 cells slots Q (F0 m (pc + 1) ls rest)) : W p l e R s m args below meth c H locs cells slots Q (F0 m pc ls (.ref v :: .int i :: .ref a :: rest)) :=
  va_astq hexec hb hK hP hD hS q0 t0 qk ci ha ht hv hc hin hdg (fun H1 l1 h1 h2 h3 => kk _ H1 l1 h1 h2 h3)
/-- a number that is known by another name -/
theorem ow_top {x : Int32} (y : Int32) (h : x = y) (k : W p l e R s m args below meth c H locs cells slots Q (F0 m pc ls (.int y :: rest))) : W p l e R s m args below meth c H locs cells slots Q (F0 m pc ls (.int x :: rest)) := by rw [h]; exact k
/-- new int[n][k], of which only the reference is kept -/
theorem ow_mna (hexec : p.tables.exec = Jvm.exec) (hb : c.code = cc) {own : String} {index : Nat} {ty : FieldType} (hown : s.vm.findClass own = some m.cls) (hclink : (Cond.classLink own index ("[" ++ (FieldType.array ty).toString)).before args s = true) (hover : (Cond.arrayOver (.array ty)).before args s = true) (harr : (Cond.arrayClass ty).before args s = true)
    (hP : va_P D cl ws H) (hS : va_S A H0 H locs) {n k : Int32} {N' K' : Nat} (hn : ¬ n < 0) (hk : ¬ k < 0) (hN : n.toNatClampNeg = N') (hM : k.toNatClampNeg = K')
    (hb1 : N' * 4 ≤ 536870912) (hb2 : K' * componentBytes ty ≤ 536870912) (hb3 : K' ≤ 536870912) (hdf : fits ty (defaultValue ty) = true) (hdd : (defaultValue ty).isDefault = true) (hcells : cells + (1 + N') ≤ R.cells) (hslots : slots + (N' + N' * K') ≤ R.slots) (hdg : decode cc pc = .ok (.multianewarray index 2, 4))
    (kk : ∀ (q : Nat) (H1 : Heap), va_P D cl ws H1 → va_S A H0 H1 locs → W p l e R s m args below meth c H1 locs (cells + 1 + N') (slots + N' + N' * K') Q (F0 m (pc + 4) ls (.ref q :: rest))) : W p l e R s m args below meth c H locs cells slots Q (F0 m pc ls (.int k :: .int n :: rest)) := by
  subst hN
  subst hM
  intro T hT Xs
  obtain ⟨vm₁, cA, comp, -, fA, fC, hO, -, X', step⟩ := Jvm.Stand.multianewarray2F Xs hexec hown hclink hover harr (g := F0 m pc ls (.int k :: .int n :: rest)) rfl (by rw [hb]; exact hdg) rfl hn hk hb1 hb2 hb3 hdf hdd hcells hslots
  generalize hF : Jvm.Free.Multi.fill (T.setVm vm₁) cA comp n.toNatClampNeg k.toNatClampNeg (defaultValue ty) n.toNatClampNeg = F at X' step
  have hTh : (T.setVm vm₁).heap = H := hT
  obtain ⟨f1, f2, -, -⟩ := Jvm.Free.Multi.fill_facts (T.setVm vm₁) cA comp n.toNatClampNeg k.toNatClampNeg (defaultValue ty) n.toNatClampNeg
  rw [hF, hTh] at f1
  have hold : ∀ x : Nat, x < H.size → F.heap[x]? = H[x]? := fun x hx => by
    have := Jvm.Free.Multi.fill_old (T.setVm vm₁) cA comp n.toNatClampNeg k.toNatClampNeg (defaultValue ty) (a := x) (by rw [hTh]; exact hx) n.toNatClampNeg
    rw [hF, hTh] at this
    exact this
  have hP0 : va_P D cl ws F.heap := hP.kept (fun k9 x hx => hold x.1 ((hP k9 x hx).lt))
  have hS0 : va_S A H0 F.heap locs := ⟨Nat.le_trans hS.1 (by omega), fun x h1 h2 => (hold x (Nat.lt_of_lt_of_le h1 hS.1)).trans (hS.2.1 x h1 h2), hS.2.2⟩
  obtain ⟨t, a1, b1⟩ := kk T.heap.size F.heap hP0 hS0 F rfl X'
  exact ⟨t, step t a1, b1⟩
end OWN
end
section
theorem k_0 : (Cond.methodLink RX4 3 objectInit) ∈ TBg := tb_mem 214 (by decide +kernel) (by decide +kernel)
theorem k_1 : (Cond.instanceMethod objectInit) ∈ TBg := tb_mem 111 (by decide +kernel) (by decide +kernel)
theorem k_2 : (Cond.code objectInit ⟨#[0xb1]⟩ 1 none) ∈ TBg := tb_mem 112 (by decide +kernel) (by decide +kernel)
theorem k_3 : (Cond.methodLink RX0 3 objectInit) ∈ TBg := tb_mem 399 (by decide +kernel) (by decide +kernel)
theorem k_4 : (Cond.arrayClass .int) ∈ TBg := tb_mem 151 (by decide +kernel) (by decide +kernel)
theorem k_5 : (Cond.fieldLink RX0 9 "TuneLocks$Canon" "moments" "[I") ∈ TBg := tb_mem 400 (by decide +kernel) (by decide +kernel)
theorem k_6 : (Cond.methodLink RX1 3 objectInit) ∈ TBg := tb_mem 353 (by decide +kernel) (by decide +kernel)
theorem k_7 : (Cond.fieldLink RX1 9 "TuneLocks$Deal" "nearBits" "[I") ∈ TBg := tb_mem 354 (by decide +kernel) (by decide +kernel)
theorem k_8 : (Cond.methodLink RX2 3 objectInit) ∈ TBg := tb_mem 185 (by decide +kernel) (by decide +kernel)
theorem k_9 : (Cond.fieldLink RX2 9 "TuneLocks$Hearing" "place" "[I") ∈ TBg := tb_mem 186 (by decide +kernel) (by decide +kernel)
theorem k_10 : (Cond.fieldLink RX2 15 "TuneLocks$Hearing" "least" "[I") ∈ TBg := tb_mem 188 (by decide +kernel) (by decide +kernel)
theorem k_11 : (Cond.fieldLink RX2 18 "TuneLocks$Hearing" "atFirst" "[I") ∈ TBg := tb_mem 192 (by decide +kernel) (by decide +kernel)
theorem k_12 : (Cond.fieldLink RX2 21 "TuneLocks$Hearing" "atLast" "[I") ∈ TBg := tb_mem 194 (by decide +kernel) (by decide +kernel)
theorem k_13 : (Cond.methodLink RX5 3 objectInit) ∈ TBg := tb_mem 130 (by decide +kernel) (by decide +kernel)
theorem k_14 : (Cond.fieldLink RX5 11 "TuneLocks$Questions" "sorts" "[I") ∈ TBg := tb_mem 131 (by decide +kernel) (by decide +kernel)
theorem k_15 : (Cond.fieldLink RX5 15 "TuneLocks$Questions" "values" "[I") ∈ TBg := tb_mem 132 (by decide +kernel) (by decide +kernel)
theorem k_16 : (Cond.fieldLink RX5 18 "TuneLocks$Questions" "stack" "[I") ∈ TBg := tb_mem 136 (by decide +kernel) (by decide +kernel)
theorem k_17 : (Cond.methodLink RX10 3 objectInit) ∈ TBg := tb_mem 327 (by decide +kernel) (by decide +kernel)
theorem k_18 : (Cond.fieldLink RX10 9 "TuneLocks$Watches" "watched" "[I") ∈ TBg := tb_mem 328 (by decide +kernel) (by decide +kernel)
theorem k_19 : (Cond.arrayClass .boolean) ∈ TBg := tb_mem 180 (by decide +kernel) (by decide +kernel)
theorem k_20 : (Cond.fieldLink RX10 15 "TuneLocks$Watches" "atNight" "[Z") ∈ TBg := tb_mem 329 (by decide +kernel) (by decide +kernel)
theorem k_21 : (Cond.fieldLink RX10 19 "TuneLocks$Watches" "didOpen" "[Z") ∈ TBg := tb_mem 330 (by decide +kernel) (by decide +kernel)
theorem k_22 : (Cond.fieldLink RX10 22 "TuneLocks$Watches" "toldAt" "[I") ∈ TBg := tb_mem 331 (by decide +kernel) (by decide +kernel)
theorem k_23 : (Cond.fieldLink RX10 25 "TuneLocks$Watches" "untoldAt" "[I") ∈ TBg := tb_mem 332 (by decide +kernel) (by decide +kernel)
theorem k_24 : (Cond.methodLink RX8 3 objectInit) ∈ TBg := tb_mem 156 (by decide +kernel) (by decide +kernel)
theorem k_25 : (Cond.methodLink RX8 9 Lib.Math.max.name) ∈ TBg := tb_mem 157 (by decide +kernel) (by decide +kernel)
theorem k_26 : (Cond.static Lib.Math.max.name) ∈ TBg := tb_mem 158 (by decide +kernel) (by decide +kernel)
theorem k_27 : (Cond.initialized "java/lang/Math") ∈ TBg := tb_mem 88 (by decide +kernel) (by decide +kernel)
theorem k_28 : (Cond.code Lib.Math.max.name Lib.Math.max.code 2 (some .int)) ∈ TBg := tb_mem 159 (by decide +kernel) (by decide +kernel)
theorem k_29 : (Cond.fieldLink RX8 15 "TuneLocks$Song" "high" "[I") ∈ TBg := tb_mem 160 (by decide +kernel) (by decide +kernel)
theorem k_30 : (Cond.fieldLink RX8 21 "TuneLocks$Song" "length" "[I") ∈ TBg := tb_mem 163 (by decide +kernel) (by decide +kernel)
theorem k_31 : (Cond.methodLink RX3 3 objectInit) ∈ TBg := tb_mem 369 (by decide +kernel) (by decide +kernel)
theorem k_32 : (Cond.fieldLink RX3 9 "TuneLocks$Laying" "members" "[I") ∈ TBg := tb_mem 372 (by decide +kernel) (by decide +kernel)
theorem k_33 : (Cond.fieldLink RX3 15 "TuneLocks$Laying" "lengths" "[I") ∈ TBg := tb_mem 373 (by decide +kernel) (by decide +kernel)
theorem k_34 : (Cond.classLink RX3 18 "[[I") ∈ TBg := tb_mem 370 (by decide +kernel) (by decide +kernel)
theorem k_35 : (Cond.fieldLink RX3 20 "TuneLocks$Laying" "overlaps" "[[I") ∈ TBg := tb_mem 375 (by decide +kernel) (by decide +kernel)
theorem k_36 : (Cond.fieldLink RX3 23 "TuneLocks$Laying" "row" "[I") ∈ TBg := tb_mem 376 (by decide +kernel) (by decide +kernel)
theorem k_37 : (Cond.fieldLink RX3 26 "TuneLocks$Laying" "bestRow" "[I") ∈ TBg := tb_mem 377 (by decide +kernel) (by decide +kernel)
theorem k_38 : (Cond.methodLink RX7 3 objectInit) ∈ TBg := tb_mem 295 (by decide +kernel) (by decide +kernel)
theorem k_39 : (Cond.classLink RX7 9 RX8) ∈ TBg := tb_mem 296 (by decide +kernel) (by decide +kernel)
theorem k_40 : (Cond.instantiable RX8 3) ∈ TBg := tb_mem 152 (by decide +kernel) (by decide +kernel)
theorem k_41 : (Cond.initialized RX8) ∈ TBg := tb_mem 87 (by decide +kernel) (by decide +kernel)
theorem k_42 : (Cond.code yX8_init cX8_init 2 none) ∈ TBg := tb_mem 155 (by decide +kernel) (by decide +kernel)
theorem k_43 : (Cond.methodLink RX7 11 yX8_init) ∈ TBg := tb_mem 297 (by decide +kernel) (by decide +kernel)
theorem k_44 : (Cond.instanceMethod yX8_init) ∈ TBg := tb_mem 154 (by decide +kernel) (by decide +kernel)
theorem k_45 : (Cond.fieldLink RX7 14 "TuneLocks$Scene" "voice" "LTuneLocks$Song;") ∈ TBg := tb_mem 298 (by decide +kernel) (by decide +kernel)
theorem k_46 : (Cond.fieldLink RX7 20 "TuneLocks$Scene" "worn" "[I") ∈ TBg := tb_mem 304 (by decide +kernel) (by decide +kernel)
theorem k_47 : (Cond.fieldLink RX9 49 "TuneLocks$Town" "tuneCount" "I") ∈ TBg := tb_mem 249 (by decide +kernel) (by decide +kernel)
theorem k_48 : (Cond.methodLink RX9 3 objectInit) ∈ TBg := tb_mem 118 (by decide +kernel) (by decide +kernel)
theorem k_49 : (Cond.classLink RX9 9 RX8) ∈ TBg := tb_mem 119 (by decide +kernel) (by decide +kernel)
theorem k_50 : (Cond.fieldLink RX9 11 "TuneLocks$Town" "tunes" "[LTuneLocks$Song;") ∈ TBg := tb_mem 240 (by decide +kernel) (by decide +kernel)
theorem k_51 : (Cond.arrayClass .long) ∈ TBg := tb_mem 150 (by decide +kernel) (by decide +kernel)
theorem k_52 : (Cond.fieldLink RX9 17 "TuneLocks$Town" "tuneNames" "[J") ∈ TBg := tb_mem 245 (by decide +kernel) (by decide +kernel)
theorem k_53 : (Cond.classLink RX9 21 RX2) ∈ TBg := tb_mem 121 (by decide +kernel) (by decide +kernel)
theorem k_54 : (Cond.fieldLink RX9 23 "TuneLocks$Town" "hearings" "[LTuneLocks$Hearing;") ∈ TBg := tb_mem 247 (by decide +kernel) (by decide +kernel)
theorem k_55 : (Cond.classLink RX9 27 RX4) ∈ TBg := tb_mem 123 (by decide +kernel) (by decide +kernel)
theorem k_56 : (Cond.fieldLink RX9 29 "TuneLocks$Town" "locks" "[LTuneLocks$Lock;") ∈ TBg := tb_mem 256 (by decide +kernel) (by decide +kernel)
theorem k_57 : (Cond.classLink RX9 33 RX5) ∈ TBg := tb_mem 125 (by decide +kernel) (by decide +kernel)
theorem k_58 : (Cond.instantiable RX5 5) ∈ TBg := tb_mem 126 (by decide +kernel) (by decide +kernel)
theorem k_59 : (Cond.initialized RX5) ∈ TBg := tb_mem 86 (by decide +kernel) (by decide +kernel)
theorem k_60 : (Cond.code yX5_init cX5_init 1 none) ∈ TBg := tb_mem 129 (by decide +kernel) (by decide +kernel)
theorem k_61 : (Cond.instanceMethod yX5_init) ∈ TBg := tb_mem 128 (by decide +kernel) (by decide +kernel)
theorem k_62 : (Cond.fieldLink RX9 36 "TuneLocks$Town" "questions" "LTuneLocks$Questions;") ∈ TBg := tb_mem 263 (by decide +kernel) (by decide +kernel)
theorem k_63 : (Cond.fieldLink RX9 40 "TuneLocks$Town" "sweet" "[Z") ∈ TBg := tb_mem 268 (by decide +kernel) (by decide +kernel)
theorem k_64 : (Cond.methodLink RX9 44 yX8_init) ∈ TBg := tb_mem 153 (by decide +kernel) (by decide +kernel)
theorem k_65 : (Cond.instantiable RX2 5) ∈ TBg := tb_mem 181 (by decide +kernel) (by decide +kernel)
theorem k_66 : (Cond.initialized RX2) ∈ TBg := tb_mem 89 (by decide +kernel) (by decide +kernel)
theorem k_67 : (Cond.code yX2_init cX2_init 1 none) ∈ TBg := tb_mem 184 (by decide +kernel) (by decide +kernel)
theorem k_68 : (Cond.instanceMethod yX2_init) ∈ TBg := tb_mem 183 (by decide +kernel) (by decide +kernel)
theorem k_69 : (Cond.instantiable RX4 6) ∈ TBg := tb_mem 210 (by decide +kernel) (by decide +kernel)
theorem k_70 : (Cond.initialized RX4) ∈ TBg := tb_mem 90 (by decide +kernel) (by decide +kernel)
theorem k_71 : (Cond.code yX4_init cX4_init 1 none) ∈ TBg := tb_mem 213 (by decide +kernel) (by decide +kernel)
theorem k_72 : (Cond.instanceMethod yX4_init) ∈ TBg := tb_mem 212 (by decide +kernel) (by decide +kernel)
theorem k_73 : (Cond.methodLink RX11 1 objectInit) ∈ TBg := tb_mem 110 (by decide +kernel) (by decide +kernel)
theorem k_74 : (Cond.arrayClass .byte) ∈ TBg := tb_mem 149 (by decide +kernel) (by decide +kernel)
theorem k_75 : (Cond.fieldLink RX11 9 "TuneLocks" "tape" "[B") ∈ TBg := tb_mem 407 (by decide +kernel) (by decide +kernel)
theorem k_76 : (Cond.classLink RX11 13 RX9) ∈ TBg := tb_mem 113 (by decide +kernel) (by decide +kernel)
theorem k_77 : (Cond.instantiable RX9 9) ∈ TBg := tb_mem 114 (by decide +kernel) (by decide +kernel)
theorem k_78 : (Cond.initialized RX9) ∈ TBg := tb_mem 85 (by decide +kernel) (by decide +kernel)
theorem k_79 : (Cond.code yX9_init cX9_init 2 none) ∈ TBg := tb_mem 117 (by decide +kernel) (by decide +kernel)
theorem k_80 : (Cond.methodLink RX11 15 yX9_init) ∈ TBg := tb_mem 115 (by decide +kernel) (by decide +kernel)
theorem k_81 : (Cond.instanceMethod yX9_init) ∈ TBg := tb_mem 116 (by decide +kernel) (by decide +kernel)
theorem k_82 : (Cond.fieldLink RX11 16 "TuneLocks" "here" "LTuneLocks$Town;") ∈ TBg := tb_mem 409 (by decide +kernel) (by decide +kernel)
theorem k_83 : (Cond.fieldLink RX11 20 "TuneLocks" "spare" "LTuneLocks$Town;") ∈ TBg := tb_mem 410 (by decide +kernel) (by decide +kernel)
theorem k_84 : (Cond.fieldLink RX11 23 "TuneLocks" "latestPlace" "I") ∈ TBg := tb_mem 412 (by decide +kernel) (by decide +kernel)
theorem k_85 : (Cond.classLink RX11 27 RX7) ∈ TBg := tb_mem 290 (by decide +kernel) (by decide +kernel)
theorem k_86 : (Cond.instantiable RX7 5) ∈ TBg := tb_mem 291 (by decide +kernel) (by decide +kernel)
theorem k_87 : (Cond.initialized RX7) ∈ TBg := tb_mem 91 (by decide +kernel) (by decide +kernel)
theorem k_88 : (Cond.code yX7_init cX7_init 1 none) ∈ TBg := tb_mem 294 (by decide +kernel) (by decide +kernel)
theorem k_89 : (Cond.instanceMethod yX7_init) ∈ TBg := tb_mem 293 (by decide +kernel) (by decide +kernel)
theorem k_90 : (Cond.fieldLink RX11 30 "TuneLocks" "now" "LTuneLocks$Scene;") ∈ TBg := tb_mem 413 (by decide +kernel) (by decide +kernel)
theorem k_91 : (Cond.fieldLink RX11 34 "TuneLocks" "boxes" "[LTuneLocks$Scene;") ∈ TBg := tb_mem 414 (by decide +kernel) (by decide +kernel)
theorem k_92 : (Cond.classLink RX11 38 RX2) ∈ TBg := tb_mem 320 (by decide +kernel) (by decide +kernel)
theorem k_93 : (Cond.fieldLink RX11 41 "TuneLocks" "ear" "LTuneLocks$Hearing;") ∈ TBg := tb_mem 415 (by decide +kernel) (by decide +kernel)
theorem k_94 : (Cond.classLink RX11 45 RX10) ∈ TBg := tb_mem 322 (by decide +kernel) (by decide +kernel)
theorem k_95 : (Cond.instantiable RX10 6) ∈ TBg := tb_mem 323 (by decide +kernel) (by decide +kernel)
theorem k_96 : (Cond.initialized RX10) ∈ TBg := tb_mem 92 (by decide +kernel) (by decide +kernel)
theorem k_97 : (Cond.code yX10_init cX10_init 1 none) ∈ TBg := tb_mem 326 (by decide +kernel) (by decide +kernel)
theorem k_98 : (Cond.instanceMethod yX10_init) ∈ TBg := tb_mem 325 (by decide +kernel) (by decide +kernel)
theorem k_99 : (Cond.fieldLink RX11 48 "TuneLocks" "watches" "LTuneLocks$Watches;") ∈ TBg := tb_mem 416 (by decide +kernel) (by decide +kernel)
theorem k_100 : (Cond.classLink RX11 52 RX1) ∈ TBg := tb_mem 348 (by decide +kernel) (by decide +kernel)
theorem k_101 : (Cond.instantiable RX1 3) ∈ TBg := tb_mem 349 (by decide +kernel) (by decide +kernel)
theorem k_102 : (Cond.initialized RX1) ∈ TBg := tb_mem 93 (by decide +kernel) (by decide +kernel)
theorem k_103 : (Cond.code yX1_init cX1_init 1 none) ∈ TBg := tb_mem 352 (by decide +kernel) (by decide +kernel)
theorem k_104 : (Cond.instanceMethod yX1_init) ∈ TBg := tb_mem 351 (by decide +kernel) (by decide +kernel)
theorem k_105 : (Cond.fieldLink RX11 55 "TuneLocks" "deal" "LTuneLocks$Deal;") ∈ TBg := tb_mem 418 (by decide +kernel) (by decide +kernel)
theorem k_106 : (Cond.classLink RX11 59 RX3) ∈ TBg := tb_mem 364 (by decide +kernel) (by decide +kernel)
theorem k_107 : (Cond.instantiable RX3 7) ∈ TBg := tb_mem 365 (by decide +kernel) (by decide +kernel)
theorem k_108 : (Cond.initialized RX3) ∈ TBg := tb_mem 94 (by decide +kernel) (by decide +kernel)
theorem k_109 : (Cond.code yX3_init cX3_init 1 none) ∈ TBg := tb_mem 368 (by decide +kernel) (by decide +kernel)
theorem k_110 : (Cond.instanceMethod yX3_init) ∈ TBg := tb_mem 367 (by decide +kernel) (by decide +kernel)
theorem k_111 : (Cond.fieldLink RX11 62 "TuneLocks" "laying" "LTuneLocks$Laying;") ∈ TBg := tb_mem 419 (by decide +kernel) (by decide +kernel)
theorem k_112 : (Cond.classLink RX11 66 RX0) ∈ TBg := tb_mem 394 (by decide +kernel) (by decide +kernel)
theorem k_113 : (Cond.instantiable RX0 2) ∈ TBg := tb_mem 395 (by decide +kernel) (by decide +kernel)
theorem k_114 : (Cond.initialized RX0) ∈ TBg := tb_mem 95 (by decide +kernel) (by decide +kernel)
theorem k_115 : (Cond.code yX0_init cX0_init 1 none) ∈ TBg := tb_mem 398 (by decide +kernel) (by decide +kernel)
theorem k_116 : (Cond.instanceMethod yX0_init) ∈ TBg := tb_mem 397 (by decide +kernel) (by decide +kernel)
theorem k_117 : (Cond.fieldLink RX11 69 "TuneLocks" "canon" "LTuneLocks$Canon;") ∈ TBg := tb_mem 420 (by decide +kernel) (by decide +kernel)
theorem k_118 : (Cond.fieldLink RX9 53 "TuneLocks$Town" "lockCount" "I") ∈ TBg := tb_mem 260 (by decide +kernel) (by decide +kernel)
theorem k_119 : (Cond.fieldLink RX11 73 "TuneLocks" "tapeSize" "I") ∈ TBg := tb_mem 408 (by decide +kernel) (by decide +kernel)
theorem k_120 : (Cond.fieldLink RX8 24 "TuneLocks$Song" "count" "I") ∈ TBg := tb_mem 166 (by decide +kernel) (by decide +kernel)
theorem k_121 : (Cond.fieldLink RX7 28 "TuneLocks$Scene" "atNight" "Z") ∈ TBg := tb_mem 300 (by decide +kernel) (by decide +kernel)
theorem k_122 : (Cond.fieldLink RX7 32 "TuneLocks$Scene" "open" "I") ∈ TBg := tb_mem 302 (by decide +kernel) (by decide +kernel)
theorem k_123 : (Cond.code yJ7_fill_53178 cJ7_fill_53178 4 none) ∈ TBg := tb_mem 750 (by decide +kernel) (by decide +kernel)
theorem k_124 : (Cond.methodLink RX7 35 yJ7_fill_53178) ∈ TBg := tb_mem 748 (by decide +kernel) (by decide +kernel)
theorem k_125 : (Cond.static yJ7_fill_53178) ∈ TBg := tb_mem 749 (by decide +kernel) (by decide +kernel)
theorem k_126 : (Cond.initialized RJ7) ∈ TBg := tb_mem 102 (by decide +kernel) (by decide +kernel)
theorem k_127 : (Cond.fieldLink RX7 41 "TuneLocks$Scene" "kept" "Z") ∈ TBg := tb_mem 306 (by decide +kernel) (by decide +kernel)
theorem k_128 : (Cond.code yX8_becomeLike cX8_becomeLike 3 none) ∈ TBg := tb_mem 996 (by decide +kernel) (by decide +kernel)
theorem k_129 : (Cond.methodLink RX7 44 yX8_becomeLike) ∈ TBg := tb_mem 993 (by decide +kernel) (by decide +kernel)
theorem k_130 : (Cond.instanceMethod yX8_becomeLike) ∈ TBg := tb_mem 994 (by decide +kernel) (by decide +kernel)
theorem k_131 : (Cond.selects RX8 yX8_becomeLike yX8_becomeLike) ∈ TBg := tb_mem 995 (by decide +kernel) (by decide +kernel)
theorem k_132 : (Cond.methodLink RX7 48 arraycopyName) ∈ TBg := tb_mem 998 (by decide +kernel) (by decide +kernel)
theorem k_133 : (Cond.native arraycopyName) ∈ TBg := tb_mem 856 (by decide +kernel) (by decide +kernel)
theorem k_134 : (Cond.static arraycopyName) ∈ TBg := tb_mem 855 (by decide +kernel) (by decide +kernel)
theorem k_135 : (Cond.initialized "java/lang/System") ∈ TBg := tb_mem 104 (by decide +kernel) (by decide +kernel)
theorem k_136 : (Cond.fieldLink RX2 30 "TuneLocks$Hearing" "notes" "I") ∈ TBg := tb_mem 196 (by decide +kernel) (by decide +kernel)
theorem k_137 : (Cond.fieldLink RX10 28 "TuneLocks$Watches" "count" "I") ∈ TBg := tb_mem 333 (by decide +kernel) (by decide +kernel)
theorem k_138 : (Cond.fieldLink RX1 28 "TuneLocks$Deal" "bestSize" "I") ∈ TBg := tb_mem 356 (by decide +kernel) (by decide +kernel)
theorem k_139 : (Cond.fieldLink RX1 25 "TuneLocks$Deal" "best" "I") ∈ TBg := tb_mem 355 (by decide +kernel) (by decide +kernel)
theorem k_140 : (Cond.code yX1_pick cX1_pick 5 none) ∈ TBg := tb_mem 827 (by decide +kernel) (by decide +kernel)
theorem k_141 : (Cond.methodLink RX1 31 yX1_pick) ∈ TBg := tb_mem 825 (by decide +kernel) (by decide +kernel)
theorem k_142 : (Cond.static yX1_pick) ∈ TBg := tb_mem 826 (by decide +kernel) (by decide +kernel)
theorem k_143 : (Cond.fieldLink RX3 29 "TuneLocks$Laying" "fewest" "I") ∈ TBg := tb_mem 378 (by decide +kernel) (by decide +kernel)
theorem k_144 : (Cond.fieldLink RX3 33 "TuneLocks$Laying" "count" "I") ∈ TBg := tb_mem 374 (by decide +kernel) (by decide +kernel)
theorem k_145 : (Cond.methodLink RX3 74 arraycopyName) ∈ TBg := tb_mem 854 (by decide +kernel) (by decide +kernel)
theorem k_146 : (Cond.code yX3_layNext cX3_layNext 6 none) ∈ TBg := tb_mem 853 (by decide +kernel) (by decide +kernel)
theorem k_147 : (Cond.methodLink RX3 56 yX3_layNext) ∈ TBg := tb_mem 851 (by decide +kernel) (by decide +kernel)
theorem k_148 : (Cond.static yX3_layNext) ∈ TBg := tb_mem 852 (by decide +kernel) (by decide +kernel)
theorem k_149 : (Cond.constant RJ6 265 (1431655765)) ∈ TBg := tb_mem 835 (by decide +kernel) (by decide +kernel)
theorem k_150 : (Cond.constant RJ6 266 (858993459)) ∈ TBg := tb_mem 836 (by decide +kernel) (by decide +kernel)
theorem k_151 : (Cond.constant RJ6 267 (252645135)) ∈ TBg := tb_mem 837 (by decide +kernel) (by decide +kernel)
theorem k_152 : (Cond.methodLink RX6 3 objectInit) ∈ TBg := tb_mem 471 (by decide +kernel) (by decide +kernel)
theorem k_153 : (Cond.fieldLink RX6 9 "TuneLocks$Reader" "faultPlace" "I") ∈ TBg := tb_mem 486 (by decide +kernel) (by decide +kernel)
theorem k_154 : (Cond.fieldLink RX6 15 "TuneLocks$Reader" "text" "[B") ∈ TBg := tb_mem 475 (by decide +kernel) (by decide +kernel)
theorem k_155 : (Cond.methodLink RX6 19 Lib.Math.min.name) ∈ TBg := tb_mem 472 (by decide +kernel) (by decide +kernel)
theorem k_156 : (Cond.static Lib.Math.min.name) ∈ TBg := tb_mem 473 (by decide +kernel) (by decide +kernel)
theorem k_157 : (Cond.code Lib.Math.min.name Lib.Math.min.code 2 (some .int)) ∈ TBg := tb_mem 474 (by decide +kernel) (by decide +kernel)
theorem k_158 : (Cond.fieldLink RX6 25 "TuneLocks$Reader" "size" "I") ∈ TBg := tb_mem 476 (by decide +kernel) (by decide +kernel)
theorem k_159 : (Cond.fieldLink RX6 28 "TuneLocks$Reader" "town" "LTuneLocks$Town;") ∈ TBg := tb_mem 477 (by decide +kernel) (by decide +kernel)
theorem k_160 : (Cond.fieldLink RX6 176 "TuneLocks$Reader" "at" "I") ∈ TBg := tb_mem 478 (by decide +kernel) (by decide +kernel)
theorem k_161 : (Cond.fieldLink RX6 173 "TuneLocks$Reader" "place" "I") ∈ TBg := tb_mem 480 (by decide +kernel) (by decide +kernel)
theorem k_162 : (Cond.fieldLink RX6 40 "TuneLocks$Reader" "sort" "I") ∈ TBg := tb_mem 479 (by decide +kernel) (by decide +kernel)
theorem k_163 : (Cond.fieldLink RX9 56 "TuneLocks$Town" "units" "I") ∈ TBg := tb_mem 265 (by decide +kernel) (by decide +kernel)
theorem k_164 : (Cond.fieldLink RX9 62 "TuneLocks$Town" "SWEET_UNTOLD" "[I") ∈ TBg := tb_mem 676 (by decide +kernel) (by decide +kernel)
theorem k_165 : (Cond.code yX9_clear cX9_clear 2 none) ∈ TBg := tb_mem 518 (by decide +kernel) (by decide +kernel)
theorem k_166 : (Cond.methodLink RX6 32 yX9_clear) ∈ TBg := tb_mem 515 (by decide +kernel) (by decide +kernel)
theorem k_167 : (Cond.instanceMethod yX9_clear) ∈ TBg := tb_mem 516 (by decide +kernel) (by decide +kernel)
theorem k_168 : (Cond.selects RX9 yX9_clear yX9_clear) ∈ TBg := tb_mem 517 (by decide +kernel) (by decide +kernel)
theorem k_169 : (Cond.code yX6_takeToken cX6_takeToken 1 none) ∈ TBg := tb_mem 522 (by decide +kernel) (by decide +kernel)
theorem k_170 : (Cond.methodLink RX6 37 yX6_takeToken) ∈ TBg := tb_mem 519 (by decide +kernel) (by decide +kernel)
theorem k_171 : (Cond.instanceMethod yX6_takeToken) ∈ TBg := tb_mem 521 (by decide +kernel) (by decide +kernel)
theorem k_172 : (Cond.selects RX6 yX6_takeToken yX6_takeToken) ∈ TBg := tb_mem 1 (by decide +kernel) (by decide +kernel)
theorem k_173 : (Cond.initialized RX6) ∈ TBg := tb_mem 97 (by decide +kernel) (by decide +kernel)
theorem k_174 : (Cond.fieldLink RX6 56 "TuneLocks$Reader" "sweetTold" "Z") ∈ TBg := tb_mem 483 (by decide +kernel) (by decide +kernel)
theorem k_175 : (Cond.code yX9_sweetenUntold cX9_sweetenUntold 2 none) ∈ TBg := tb_mem 675 (by decide +kernel) (by decide +kernel)
theorem k_176 : (Cond.methodLink RX6 60 yX9_sweetenUntold) ∈ TBg := tb_mem 672 (by decide +kernel) (by decide +kernel)
theorem k_177 : (Cond.instanceMethod yX9_sweetenUntold) ∈ TBg := tb_mem 673 (by decide +kernel) (by decide +kernel)
theorem k_178 : (Cond.selects RX9 yX9_sweetenUntold yX9_sweetenUntold) ∈ TBg := tb_mem 674 (by decide +kernel) (by decide +kernel)
end
section
theorem ns_0 : (Cond.fieldLinkNest RX11 104 "TuneLocks$Scene" "voice" "LTuneLocks$Song;" "TuneLocks") ∈ nst := List.mem_of_getElem? (i := 0) (by decide +kernel)
theorem ns_1 : (Cond.fieldLinkNest RX11 113 "TuneLocks$Town" "lockCount" "I" "TuneLocks") ∈ nst := List.mem_of_getElem? (i := 1) (by decide +kernel)
theorem ns_2 : (Cond.fieldLinkNest RX11 120 "TuneLocks$Town" "tunes" "[LTuneLocks$Song;" "TuneLocks") ∈ nst := List.mem_of_getElem? (i := 2) (by decide +kernel)
theorem ns_3 : (Cond.fieldLinkNest RX11 124 "TuneLocks$Song" "count" "I" "TuneLocks") ∈ nst := List.mem_of_getElem? (i := 3) (by decide +kernel)
theorem ns_4 : (Cond.fieldLinkNest RX11 138 "TuneLocks$Town" "hearings" "[LTuneLocks$Hearing;" "TuneLocks") ∈ nst := List.mem_of_getElem? (i := 4) (by decide +kernel)
theorem ns_5 : (Cond.fieldLinkNest RX11 146 "TuneLocks$Hearing" "place" "[I" "TuneLocks") ∈ nst := List.mem_of_getElem? (i := 5) (by decide +kernel)
theorem ns_6 : (Cond.fieldLinkNest RX11 150 "TuneLocks$Hearing" "least" "[I" "TuneLocks") ∈ nst := List.mem_of_getElem? (i := 6) (by decide +kernel)
theorem ns_7 : (Cond.fieldLinkNest RX11 156 "TuneLocks$Scene" "worn" "[I" "TuneLocks") ∈ nst := List.mem_of_getElem? (i := 7) (by decide +kernel)
theorem ns_8 : (Cond.fieldLinkNest RX11 170 "TuneLocks$Town" "tuneCount" "I" "TuneLocks") ∈ nst := List.mem_of_getElem? (i := 8) (by decide +kernel)
theorem ns_9 : (Cond.fieldLinkNest RX11 197 "TuneLocks$Town" "sweet" "[Z" "TuneLocks") ∈ nst := List.mem_of_getElem? (i := 9) (by decide +kernel)
theorem ns_10 : (Cond.fieldLinkNest RX11 227 "TuneLocks$Scene" "open" "I" "TuneLocks") ∈ nst := List.mem_of_getElem? (i := 10) (by decide +kernel)
theorem ns_11 : (Cond.fieldLinkNest RX11 230 "TuneLocks$Scene" "atNight" "Z" "TuneLocks") ∈ nst := List.mem_of_getElem? (i := 11) (by decide +kernel)
theorem ns_12 : (Cond.fieldLinkNest RX11 234 "TuneLocks$Song" "high" "[I" "TuneLocks") ∈ nst := List.mem_of_getElem? (i := 12) (by decide +kernel)
theorem ns_13 : (Cond.fieldLinkNest RX11 237 "TuneLocks$Song" "length" "[I" "TuneLocks") ∈ nst := List.mem_of_getElem? (i := 13) (by decide +kernel)
theorem ns_14 : (Cond.fieldLinkNest RX11 240 "TuneLocks$Town" "locks" "[LTuneLocks$Lock;" "TuneLocks") ∈ nst := List.mem_of_getElem? (i := 14) (by decide +kernel)
theorem ns_15 : (Cond.fieldLinkNest RX11 278 "TuneLocks$Scene" "kept" "Z" "TuneLocks") ∈ nst := List.mem_of_getElem? (i := 15) (by decide +kernel)
theorem ns_16 : (Cond.fieldLinkNest RX11 281 "TuneLocks$Watches" "count" "I" "TuneLocks") ∈ nst := List.mem_of_getElem? (i := 16) (by decide +kernel)
theorem ns_17 : (Cond.fieldLinkNest RX11 282 "TuneLocks$Town" "units" "I" "TuneLocks") ∈ nst := List.mem_of_getElem? (i := 17) (by decide +kernel)
theorem ns_18 : (Cond.fieldLinkNest RX11 89 "TuneLocks$Reader" "fault" "I" "TuneLocks") ∈ nst := List.mem_of_getElem? (i := 18) (by decide +kernel)
theorem ns_19 : (Cond.fieldLinkNest RX11 95 "TuneLocks$Reader" "faultPlace" "I" "TuneLocks") ∈ nst := List.mem_of_getElem? (i := 19) (by decide +kernel)
theorem ns_20 : (Cond.fieldLinkNest RX0 19 "TuneLocks$Song" "count" "I" "TuneLocks") ∈ nst := List.mem_of_getElem? (i := 20) (by decide +kernel)
theorem ns_21 : (Cond.fieldLinkNest RX0 22 "TuneLocks$Song" "length" "[I" "TuneLocks") ∈ nst := List.mem_of_getElem? (i := 21) (by decide +kernel)
theorem ns_22 : (Cond.fieldLinkNest RX0 25 "TuneLocks$Song" "high" "[I" "TuneLocks") ∈ nst := List.mem_of_getElem? (i := 22) (by decide +kernel)
theorem ns_23 : (Cond.fieldLinkNest RX1 15 "TuneLocks$Town" "tuneCount" "I" "TuneLocks") ∈ nst := List.mem_of_getElem? (i := 23) (by decide +kernel)
theorem ns_24 : (Cond.fieldLinkNest RX2 24 "TuneLocks$Song" "count" "I" "TuneLocks") ∈ nst := List.mem_of_getElem? (i := 24) (by decide +kernel)
theorem ns_25 : (Cond.fieldLinkNest RX2 33 "TuneLocks$Town" "tuneCount" "I" "TuneLocks") ∈ nst := List.mem_of_getElem? (i := 25) (by decide +kernel)
theorem ns_26 : (Cond.fieldLinkNest RX2 38 "TuneLocks$Town" "tunes" "[LTuneLocks$Song;" "TuneLocks") ∈ nst := List.mem_of_getElem? (i := 26) (by decide +kernel)
theorem ns_27 : (Cond.fieldLinkNest RX3 36 "TuneLocks$Town" "tuneCount" "I" "TuneLocks") ∈ nst := List.mem_of_getElem? (i := 27) (by decide +kernel)
theorem ns_28 : (Cond.fieldLinkNest RX3 45 "TuneLocks$Town" "tunes" "[LTuneLocks$Song;" "TuneLocks") ∈ nst := List.mem_of_getElem? (i := 28) (by decide +kernel)
theorem ns_29 : (Cond.fieldLinkNest RX3 49 "TuneLocks$Song" "count" "I" "TuneLocks") ∈ nst := List.mem_of_getElem? (i := 29) (by decide +kernel)
theorem ns_30 : (Cond.fieldLinkNest RX5 34 "TuneLocks$Lock" "from" "I" "TuneLocks") ∈ nst := List.mem_of_getElem? (i := 30) (by decide +kernel)
theorem ns_31 : (Cond.fieldLinkNest RX5 37 "TuneLocks$Lock" "to" "I" "TuneLocks") ∈ nst := List.mem_of_getElem? (i := 31) (by decide +kernel)
theorem ns_32 : (Cond.fieldLinkNest RX5 44 "TuneLocks$Hearing" "least" "[I" "TuneLocks") ∈ nst := List.mem_of_getElem? (i := 32) (by decide +kernel)
theorem ns_33 : (Cond.fieldLinkNest RX5 53 "TuneLocks$Hearing" "atFirst" "[I" "TuneLocks") ∈ nst := List.mem_of_getElem? (i := 33) (by decide +kernel)
theorem ns_34 : (Cond.fieldLinkNest RX5 56 "TuneLocks$Hearing" "atLast" "[I" "TuneLocks") ∈ nst := List.mem_of_getElem? (i := 34) (by decide +kernel)
theorem ns_35 : (Cond.fieldLinkNest RX5 59 "TuneLocks$Hearing" "notes" "I" "TuneLocks") ∈ nst := List.mem_of_getElem? (i := 35) (by decide +kernel)
theorem ns_36 : (Cond.fieldLinkNest RX6 109 "TuneLocks$Town" "lockCount" "I" "TuneLocks") ∈ nst := List.mem_of_getElem? (i := 36) (by decide +kernel)
theorem ns_37 : (Cond.fieldLinkNest RX6 116 "TuneLocks$Town" "locks" "[LTuneLocks$Lock;" "TuneLocks") ∈ nst := List.mem_of_getElem? (i := 37) (by decide +kernel)
theorem ns_38 : (Cond.fieldLinkNest RX6 120 "TuneLocks$Lock" "name" "J" "TuneLocks") ∈ nst := List.mem_of_getElem? (i := 38) (by decide +kernel)
theorem ns_39 : (Cond.fieldLinkNest RX6 125 "TuneLocks$Lock" "near" "I" "TuneLocks") ∈ nst := List.mem_of_getElem? (i := 39) (by decide +kernel)
theorem ns_40 : (Cond.fieldLinkNest RX6 128 "TuneLocks$Town" "questions" "LTuneLocks$Questions;" "TuneLocks") ∈ nst := List.mem_of_getElem? (i := 40) (by decide +kernel)
theorem ns_41 : (Cond.fieldLinkNest RX6 132 "TuneLocks$Questions" "count" "I" "TuneLocks") ∈ nst := List.mem_of_getElem? (i := 41) (by decide +kernel)
theorem ns_42 : (Cond.fieldLinkNest RX6 135 "TuneLocks$Lock" "from" "I" "TuneLocks") ∈ nst := List.mem_of_getElem? (i := 42) (by decide +kernel)
theorem ns_43 : (Cond.fieldLinkNest RX6 141 "TuneLocks$Lock" "to" "I" "TuneLocks") ∈ nst := List.mem_of_getElem? (i := 43) (by decide +kernel)
theorem ns_44 : (Cond.fieldLinkNest RX6 144 "TuneLocks$Town" "sweet" "[Z" "TuneLocks") ∈ nst := List.mem_of_getElem? (i := 44) (by decide +kernel)
theorem ns_45 : (Cond.fieldLinkNest RX6 167 "TuneLocks$Town" "units" "I" "TuneLocks") ∈ nst := List.mem_of_getElem? (i := 45) (by decide +kernel)
theorem ns_46 : (Cond.fieldLinkNest RX6 63 "TuneLocks$Town" "tuneCount" "I" "TuneLocks") ∈ nst := List.mem_of_getElem? (i := 46) (by decide +kernel)
theorem ns_47 : (Cond.fieldLinkNest RX6 78 "TuneLocks$Town" "tuneNames" "[J" "TuneLocks") ∈ nst := List.mem_of_getElem? (i := 47) (by decide +kernel)
theorem ns_48 : (Cond.fieldLinkNest RX6 85 "TuneLocks$Town" "tunes" "[LTuneLocks$Song;" "TuneLocks") ∈ nst := List.mem_of_getElem? (i := 48) (by decide +kernel)
theorem ns_49 : (Cond.fieldLinkNest RX6 93 "TuneLocks$Song" "count" "I" "TuneLocks") ∈ nst := List.mem_of_getElem? (i := 49) (by decide +kernel)
theorem ns_50 : (Cond.fieldLinkNest RX7 24 "TuneLocks$Song" "count" "I" "TuneLocks") ∈ nst := List.mem_of_getElem? (i := 50) (by decide +kernel)
theorem ns_51 : (Cond.fieldLinkNest RX9 103 "TuneLocks$Hearing" "least" "[I" "TuneLocks") ∈ nst := List.mem_of_getElem? (i := 51) (by decide +kernel)
theorem ns_52 : (Cond.fieldLinkNest RX9 59 "TuneLocks$Questions" "count" "I" "TuneLocks") ∈ nst := List.mem_of_getElem? (i := 52) (by decide +kernel)
theorem ns_53 : (Cond.fieldLinkNest RX9 66 "TuneLocks$Lock" "name" "J" "TuneLocks") ∈ nst := List.mem_of_getElem? (i := 53) (by decide +kernel)
theorem ns_54 : (Cond.fieldLinkNest RX9 78 "TuneLocks$Lock" "toldByDay" "I" "TuneLocks") ∈ nst := List.mem_of_getElem? (i := 54) (by decide +kernel)
theorem ns_55 : (Cond.fieldLinkNest RX9 81 "TuneLocks$Lock" "toldAtNight" "I" "TuneLocks") ∈ nst := List.mem_of_getElem? (i := 55) (by decide +kernel)
theorem ns_56 : (Cond.fieldLinkNest RX9 92 "TuneLocks$Hearing" "notes" "I" "TuneLocks") ∈ nst := List.mem_of_getElem? (i := 56) (by decide +kernel)
theorem ns_57 : (Cond.fieldLinkNest RX10 32 "TuneLocks$Town" "tuneCount" "I" "TuneLocks") ∈ nst := List.mem_of_getElem? (i := 57) (by decide +kernel)
theorem ns_58 : (Cond.fieldLinkNest RX10 45 "TuneLocks$Town" "locks" "[LTuneLocks$Lock;" "TuneLocks") ∈ nst := List.mem_of_getElem? (i := 58) (by decide +kernel)
theorem ns_59 : (Cond.methodLinkNest RX11 29 yX7_init "TuneLocks") ∈ nst := List.mem_of_getElem? (i := 59) (by decide +kernel)
theorem ns_60 : (Cond.methodLinkNest RX11 40 yX2_init "TuneLocks") ∈ nst := List.mem_of_getElem? (i := 60) (by decide +kernel)
theorem ns_61 : (Cond.methodLinkNest RX11 47 yX10_init "TuneLocks") ∈ nst := List.mem_of_getElem? (i := 61) (by decide +kernel)
theorem ns_62 : (Cond.methodLinkNest RX11 54 yX1_init "TuneLocks") ∈ nst := List.mem_of_getElem? (i := 62) (by decide +kernel)
theorem ns_63 : (Cond.methodLinkNest RX11 61 yX3_init "TuneLocks") ∈ nst := List.mem_of_getElem? (i := 63) (by decide +kernel)
theorem ns_64 : (Cond.methodLinkNest RX11 68 yX0_init "TuneLocks") ∈ nst := List.mem_of_getElem? (i := 64) (by decide +kernel)
theorem ns_65 : (Cond.methodLinkNest RX9 35 yX5_init "TuneLocks") ∈ nst := List.mem_of_getElem? (i := 65) (by decide +kernel)
theorem ns_66 : (Cond.methodLinkNest RX9 47 yX2_init "TuneLocks") ∈ nst := List.mem_of_getElem? (i := 66) (by decide +kernel)
theorem ns_67 : (Cond.methodLinkNest RX9 48 yX4_init "TuneLocks") ∈ nst := List.mem_of_getElem? (i := 67) (by decide +kernel)
end
section
theorem dX4_init_0 : decode cX4_init 0 = .ok (.aload_n 0, 1) := by decide +kernel
theorem dX4_init_1 : decode cX4_init 1 = .ok (.invokespecial 3, 3) := by decide +kernel
theorem dX4_init_4 : decode cX4_init 4 = .ok (.return_, 1) := by decide +kernel
theorem dX0_init_0 : decode cX0_init 0 = .ok (.aload_n 0, 1) := by decide +kernel
theorem dX0_init_1 : decode cX0_init 1 = .ok (.invokespecial 3, 3) := by decide +kernel
theorem dX0_init_4 : decode cX0_init 4 = .ok (.aload_n 0, 1) := by decide +kernel
theorem dX0_init_5 : decode cX0_init 5 = .ok (.bipush 108, 2) := by decide +kernel
theorem dX0_init_7 : decode cX0_init 7 = .ok (.newarray .int, 2) := by decide +kernel
theorem dX0_init_9 : decode cX0_init 9 = .ok (.putfield 9, 3) := by decide +kernel
theorem dX0_init_12 : decode cX0_init 12 = .ok (.return_, 1) := by decide +kernel
theorem dX1_init_0 : decode cX1_init 0 = .ok (.aload_n 0, 1) := by decide +kernel
theorem dX1_init_1 : decode cX1_init 1 = .ok (.invokespecial 3, 3) := by decide +kernel
theorem dX1_init_4 : decode cX1_init 4 = .ok (.aload_n 0, 1) := by decide +kernel
theorem dX1_init_5 : decode cX1_init 5 = .ok (.bipush 14, 2) := by decide +kernel
theorem dX1_init_7 : decode cX1_init 7 = .ok (.newarray .int, 2) := by decide +kernel
theorem dX1_init_9 : decode cX1_init 9 = .ok (.putfield 9, 3) := by decide +kernel
theorem dX1_init_12 : decode cX1_init 12 = .ok (.return_, 1) := by decide +kernel
theorem dX2_init_0 : decode cX2_init 0 = .ok (.aload_n 0, 1) := by decide +kernel
theorem dX2_init_1 : decode cX2_init 1 = .ok (.invokespecial 3, 3) := by decide +kernel
theorem dX2_init_4 : decode cX2_init 4 = .ok (.aload_n 0, 1) := by decide +kernel
theorem dX2_init_5 : decode cX2_init 5 = .ok (.bipush 14, 2) := by decide +kernel
theorem dX2_init_7 : decode cX2_init 7 = .ok (.newarray .int, 2) := by decide +kernel
theorem dX2_init_9 : decode cX2_init 9 = .ok (.putfield 9, 3) := by decide +kernel
theorem dX2_init_12 : decode cX2_init 12 = .ok (.aload_n 0, 1) := by decide +kernel
theorem dX2_init_13 : decode cX2_init 13 = .ok (.bipush 14, 2) := by decide +kernel
theorem dX2_init_15 : decode cX2_init 15 = .ok (.newarray .int, 2) := by decide +kernel
theorem dX2_init_17 : decode cX2_init 17 = .ok (.putfield 15, 3) := by decide +kernel
theorem dX2_init_20 : decode cX2_init 20 = .ok (.aload_n 0, 1) := by decide +kernel
theorem dX2_init_21 : decode cX2_init 21 = .ok (.bipush 14, 2) := by decide +kernel
theorem dX2_init_23 : decode cX2_init 23 = .ok (.newarray .int, 2) := by decide +kernel
theorem dX2_init_25 : decode cX2_init 25 = .ok (.putfield 18, 3) := by decide +kernel
theorem dX2_init_28 : decode cX2_init 28 = .ok (.aload_n 0, 1) := by decide +kernel
theorem dX2_init_29 : decode cX2_init 29 = .ok (.bipush 14, 2) := by decide +kernel
theorem dX2_init_31 : decode cX2_init 31 = .ok (.newarray .int, 2) := by decide +kernel
theorem dX2_init_33 : decode cX2_init 33 = .ok (.putfield 21, 3) := by decide +kernel
theorem dX2_init_36 : decode cX2_init 36 = .ok (.return_, 1) := by decide +kernel
theorem dX5_init_0 : decode cX5_init 0 = .ok (.aload_n 0, 1) := by decide +kernel
theorem dX5_init_1 : decode cX5_init 1 = .ok (.invokespecial 3, 3) := by decide +kernel
theorem dX5_init_4 : decode cX5_init 4 = .ok (.aload_n 0, 1) := by decide +kernel
theorem dX5_init_5 : decode cX5_init 5 = .ok (.sipush 540, 3) := by decide +kernel
theorem dX5_init_8 : decode cX5_init 8 = .ok (.newarray .int, 2) := by decide +kernel
theorem dX5_init_10 : decode cX5_init 10 = .ok (.putfield 11, 3) := by decide +kernel
theorem dX5_init_13 : decode cX5_init 13 = .ok (.aload_n 0, 1) := by decide +kernel
theorem dX5_init_14 : decode cX5_init 14 = .ok (.sipush 540, 3) := by decide +kernel
theorem dX5_init_17 : decode cX5_init 17 = .ok (.newarray .int, 2) := by decide +kernel
theorem dX5_init_19 : decode cX5_init 19 = .ok (.putfield 15, 3) := by decide +kernel
theorem dX5_init_22 : decode cX5_init 22 = .ok (.aload_n 0, 1) := by decide +kernel
theorem dX5_init_23 : decode cX5_init 23 = .ok (.bipush 61, 2) := by decide +kernel
theorem dX5_init_25 : decode cX5_init 25 = .ok (.newarray .int, 2) := by decide +kernel
theorem dX5_init_27 : decode cX5_init 27 = .ok (.putfield 18, 3) := by decide +kernel
theorem dX5_init_30 : decode cX5_init 30 = .ok (.return_, 1) := by decide +kernel
theorem dX10_init_0 : decode cX10_init 0 = .ok (.aload_n 0, 1) := by decide +kernel
theorem dX10_init_1 : decode cX10_init 1 = .ok (.invokespecial 3, 3) := by decide +kernel
theorem dX10_init_4 : decode cX10_init 4 = .ok (.aload_n 0, 1) := by decide +kernel
theorem dX10_init_5 : decode cX10_init 5 = .ok (.bipush 30, 2) := by decide +kernel
theorem dX10_init_7 : decode cX10_init 7 = .ok (.newarray .int, 2) := by decide +kernel
theorem dX10_init_9 : decode cX10_init 9 = .ok (.putfield 9, 3) := by decide +kernel
theorem dX10_init_12 : decode cX10_init 12 = .ok (.aload_n 0, 1) := by decide +kernel
theorem dX10_init_13 : decode cX10_init 13 = .ok (.bipush 30, 2) := by decide +kernel
theorem dX10_init_15 : decode cX10_init 15 = .ok (.newarray .boolean, 2) := by decide +kernel
theorem dX10_init_17 : decode cX10_init 17 = .ok (.putfield 15, 3) := by decide +kernel
theorem dX10_init_20 : decode cX10_init 20 = .ok (.aload_n 0, 1) := by decide +kernel
theorem dX10_init_21 : decode cX10_init 21 = .ok (.bipush 30, 2) := by decide +kernel
theorem dX10_init_23 : decode cX10_init 23 = .ok (.newarray .boolean, 2) := by decide +kernel
theorem dX10_init_25 : decode cX10_init 25 = .ok (.putfield 19, 3) := by decide +kernel
theorem dX10_init_28 : decode cX10_init 28 = .ok (.aload_n 0, 1) := by decide +kernel
theorem dX10_init_29 : decode cX10_init 29 = .ok (.bipush 30, 2) := by decide +kernel
theorem dX10_init_31 : decode cX10_init 31 = .ok (.newarray .int, 2) := by decide +kernel
theorem dX10_init_33 : decode cX10_init 33 = .ok (.putfield 22, 3) := by decide +kernel
theorem dX10_init_36 : decode cX10_init 36 = .ok (.aload_n 0, 1) := by decide +kernel
theorem dX10_init_37 : decode cX10_init 37 = .ok (.bipush 30, 2) := by decide +kernel
theorem dX10_init_39 : decode cX10_init 39 = .ok (.newarray .int, 2) := by decide +kernel
theorem dX10_init_41 : decode cX10_init 41 = .ok (.putfield 25, 3) := by decide +kernel
theorem dX10_init_44 : decode cX10_init 44 = .ok (.return_, 1) := by decide +kernel
theorem dX8_init_0 : decode cX8_init 0 = .ok (.aload_n 0, 1) := by decide +kernel
theorem dX8_init_1 : decode cX8_init 1 = .ok (.invokespecial 3, 3) := by decide +kernel
theorem dX8_init_4 : decode cX8_init 4 = .ok (.aload_n 0, 1) := by decide +kernel
theorem dX8_init_5 : decode cX8_init 5 = .ok (.iload_n 1, 1) := by decide +kernel
theorem dX8_init_6 : decode cX8_init 6 = .ok (.iconst 0, 1) := by decide +kernel
theorem dX8_init_7 : decode cX8_init 7 = .ok (.invokestatic 9, 3) := by decide +kernel
theorem dX8_init_10 : decode cX8_init 10 = .ok (.newarray .int, 2) := by decide +kernel
theorem dX8_init_12 : decode cX8_init 12 = .ok (.putfield 15, 3) := by decide +kernel
theorem dX8_init_15 : decode cX8_init 15 = .ok (.aload_n 0, 1) := by decide +kernel
theorem dX8_init_16 : decode cX8_init 16 = .ok (.iload_n 1, 1) := by decide +kernel
theorem dX8_init_17 : decode cX8_init 17 = .ok (.iconst 0, 1) := by decide +kernel
theorem dX8_init_18 : decode cX8_init 18 = .ok (.invokestatic 9, 3) := by decide +kernel
theorem dX8_init_21 : decode cX8_init 21 = .ok (.newarray .int, 2) := by decide +kernel
theorem dX8_init_23 : decode cX8_init 23 = .ok (.putfield 21, 3) := by decide +kernel
theorem dX8_init_26 : decode cX8_init 26 = .ok (.return_, 1) := by decide +kernel
theorem dX3_init_0 : decode cX3_init 0 = .ok (.aload_n 0, 1) := by decide +kernel
theorem dX3_init_1 : decode cX3_init 1 = .ok (.invokespecial 3, 3) := by decide +kernel
theorem dX3_init_4 : decode cX3_init 4 = .ok (.aload_n 0, 1) := by decide +kernel
theorem dX3_init_5 : decode cX3_init 5 = .ok (.bipush 6, 2) := by decide +kernel
theorem dX3_init_7 : decode cX3_init 7 = .ok (.newarray .int, 2) := by decide +kernel
theorem dX3_init_9 : decode cX3_init 9 = .ok (.putfield 9, 3) := by decide +kernel
theorem dX3_init_12 : decode cX3_init 12 = .ok (.aload_n 0, 1) := by decide +kernel
theorem dX3_init_13 : decode cX3_init 13 = .ok (.bipush 6, 2) := by decide +kernel
theorem dX3_init_15 : decode cX3_init 15 = .ok (.newarray .int, 2) := by decide +kernel
theorem dX3_init_17 : decode cX3_init 17 = .ok (.putfield 15, 3) := by decide +kernel
theorem dX3_init_20 : decode cX3_init 20 = .ok (.aload_n 0, 1) := by decide +kernel
theorem dX3_init_21 : decode cX3_init 21 = .ok (.bipush 6, 2) := by decide +kernel
theorem dX3_init_23 : decode cX3_init 23 = .ok (.bipush 6, 2) := by decide +kernel
theorem dX3_init_25 : decode cX3_init 25 = .ok (.multianewarray 18 2, 4) := by decide +kernel
theorem dX3_init_29 : decode cX3_init 29 = .ok (.putfield 20, 3) := by decide +kernel
theorem dX3_init_32 : decode cX3_init 32 = .ok (.aload_n 0, 1) := by decide +kernel
theorem dX3_init_33 : decode cX3_init 33 = .ok (.bipush 6, 2) := by decide +kernel
theorem dX3_init_35 : decode cX3_init 35 = .ok (.newarray .int, 2) := by decide +kernel
theorem dX3_init_37 : decode cX3_init 37 = .ok (.putfield 23, 3) := by decide +kernel
theorem dX3_init_40 : decode cX3_init 40 = .ok (.aload_n 0, 1) := by decide +kernel
theorem dX3_init_41 : decode cX3_init 41 = .ok (.bipush 6, 2) := by decide +kernel
theorem dX3_init_43 : decode cX3_init 43 = .ok (.newarray .int, 2) := by decide +kernel
theorem dX3_init_45 : decode cX3_init 45 = .ok (.putfield 26, 3) := by decide +kernel
theorem dX3_init_48 : decode cX3_init 48 = .ok (.return_, 1) := by decide +kernel
theorem dX7_init_0 : decode cX7_init 0 = .ok (.aload_n 0, 1) := by decide +kernel
theorem dX7_init_1 : decode cX7_init 1 = .ok (.invokespecial 3, 3) := by decide +kernel
theorem dX7_init_4 : decode cX7_init 4 = .ok (.aload_n 0, 1) := by decide +kernel
theorem dX7_init_5 : decode cX7_init 5 = .ok (.new 9, 3) := by decide +kernel
theorem dX7_init_8 : decode cX7_init 8 = .ok (.dup, 1) := by decide +kernel
theorem dX7_init_9 : decode cX7_init 9 = .ok (.bipush 40, 2) := by decide +kernel
theorem dX7_init_11 : decode cX7_init 11 = .ok (.invokespecial 11, 3) := by decide +kernel
theorem dX7_init_14 : decode cX7_init 14 = .ok (.putfield 14, 3) := by decide +kernel
theorem dX7_init_17 : decode cX7_init 17 = .ok (.aload_n 0, 1) := by decide +kernel
theorem dX7_init_18 : decode cX7_init 18 = .ok (.bipush 8, 2) := by decide +kernel
theorem dX7_init_20 : decode cX7_init 20 = .ok (.newarray .int, 2) := by decide +kernel
theorem dX7_init_22 : decode cX7_init 22 = .ok (.putfield 20, 3) := by decide +kernel
theorem dX7_init_25 : decode cX7_init 25 = .ok (.return_, 1) := by decide +kernel
theorem dX9_hasTune_0 : decode cX9_hasTune 0 = .ok (.iload_n 1, 1) := by decide +kernel
theorem dX9_hasTune_1 : decode cX9_hasTune 1 = .ok (.ifCond .lt 15, 3) := by decide +kernel
theorem dX9_hasTune_16 : decode cX9_hasTune 16 = .ok (.iconst 0, 1) := by decide +kernel
theorem dX9_hasTune_17 : decode cX9_hasTune 17 = .ok (.ireturn, 1) := by decide +kernel
theorem dX9_hasTune_4 : decode cX9_hasTune 4 = .ok (.iload_n 1, 1) := by decide +kernel
theorem dX9_hasTune_5 : decode cX9_hasTune 5 = .ok (.aload_n 0, 1) := by decide +kernel
theorem dX9_hasTune_6 : decode cX9_hasTune 6 = .ok (.getfield 49, 3) := by decide +kernel
theorem dX9_hasTune_9 : decode cX9_hasTune 9 = .ok (.if_icmp .ge 7, 3) := by decide +kernel
theorem dX9_init_0 : decode cX9_init 0 = .ok (.aload_n 0, 1) := by decide +kernel
theorem dX9_init_1 : decode cX9_init 1 = .ok (.invokespecial 3, 3) := by decide +kernel
theorem dX9_init_4 : decode cX9_init 4 = .ok (.aload_n 0, 1) := by decide +kernel
theorem dX9_init_5 : decode cX9_init 5 = .ok (.bipush 14, 2) := by decide +kernel
theorem dX9_init_7 : decode cX9_init 7 = .ok (.anewarray 9, 3) := by decide +kernel
theorem dX9_init_10 : decode cX9_init 10 = .ok (.putfield 11, 3) := by decide +kernel
theorem dX9_init_13 : decode cX9_init 13 = .ok (.aload_n 0, 1) := by decide +kernel
theorem dX9_init_14 : decode cX9_init 14 = .ok (.bipush 14, 2) := by decide +kernel
theorem dX9_init_16 : decode cX9_init 16 = .ok (.newarray .long, 2) := by decide +kernel
theorem dX9_init_18 : decode cX9_init 18 = .ok (.putfield 17, 3) := by decide +kernel
theorem dX9_init_21 : decode cX9_init 21 = .ok (.aload_n 0, 1) := by decide +kernel
theorem dX9_init_22 : decode cX9_init 22 = .ok (.bipush 14, 2) := by decide +kernel
theorem dX9_init_24 : decode cX9_init 24 = .ok (.anewarray 21, 3) := by decide +kernel
theorem dX9_init_27 : decode cX9_init 27 = .ok (.putfield 23, 3) := by decide +kernel
theorem dX9_init_30 : decode cX9_init 30 = .ok (.aload_n 0, 1) := by decide +kernel
theorem dX9_init_31 : decode cX9_init 31 = .ok (.bipush 8, 2) := by decide +kernel
theorem dX9_init_33 : decode cX9_init 33 = .ok (.anewarray 27, 3) := by decide +kernel
theorem dX9_init_36 : decode cX9_init 36 = .ok (.putfield 29, 3) := by decide +kernel
theorem dX9_init_39 : decode cX9_init 39 = .ok (.aload_n 0, 1) := by decide +kernel
theorem dX9_init_40 : decode cX9_init 40 = .ok (.new 33, 3) := by decide +kernel
theorem dX9_init_43 : decode cX9_init 43 = .ok (.dup, 1) := by decide +kernel
theorem dX9_init_44 : decode cX9_init 44 = .ok (.invokespecial 35, 3) := by decide +kernel
theorem dX9_init_47 : decode cX9_init 47 = .ok (.putfield 36, 3) := by decide +kernel
theorem dX9_init_50 : decode cX9_init 50 = .ok (.aload_n 0, 1) := by decide +kernel
theorem dX9_init_51 : decode cX9_init 51 = .ok (.bipush 12, 2) := by decide +kernel
theorem dX9_init_53 : decode cX9_init 53 = .ok (.newarray .boolean, 2) := by decide +kernel
theorem dX9_init_55 : decode cX9_init 55 = .ok (.putfield 40, 3) := by decide +kernel
theorem dX9_init_58 : decode cX9_init 58 = .ok (.iconst 0, 1) := by decide +kernel
theorem dX9_init_59 : decode cX9_init 59 = .ok (.istore_n 1, 1) := by decide +kernel
theorem dX9_init_60 : decode cX9_init 60 = .ok (.iload_n 1, 1) := by decide +kernel
theorem dX9_init_61 : decode cX9_init 61 = .ok (.bipush 14, 2) := by decide +kernel
theorem dX9_init_63 : decode cX9_init 63 = .ok (.if_icmp .ge 37, 3) := by decide +kernel
theorem dX9_init_66 : decode cX9_init 66 = .ok (.aload_n 0, 1) := by decide +kernel
theorem dX9_init_67 : decode cX9_init 67 = .ok (.getfield 11, 3) := by decide +kernel
theorem dX9_init_70 : decode cX9_init 70 = .ok (.iload_n 1, 1) := by decide +kernel
theorem dX9_init_71 : decode cX9_init 71 = .ok (.new 9, 3) := by decide +kernel
theorem dX9_init_74 : decode cX9_init 74 = .ok (.dup, 1) := by decide +kernel
theorem dX9_init_75 : decode cX9_init 75 = .ok (.bipush 12, 2) := by decide +kernel
theorem dX9_init_77 : decode cX9_init 77 = .ok (.invokespecial 44, 3) := by decide +kernel
theorem dX9_init_80 : decode cX9_init 80 = .ok (.aastore, 1) := by decide +kernel
theorem dX9_init_81 : decode cX9_init 81 = .ok (.aload_n 0, 1) := by decide +kernel
theorem dX9_init_82 : decode cX9_init 82 = .ok (.getfield 23, 3) := by decide +kernel
theorem dX9_init_85 : decode cX9_init 85 = .ok (.iload_n 1, 1) := by decide +kernel
theorem dX9_init_86 : decode cX9_init 86 = .ok (.new 21, 3) := by decide +kernel
theorem dX9_init_89 : decode cX9_init 89 = .ok (.dup, 1) := by decide +kernel
theorem dX9_init_90 : decode cX9_init 90 = .ok (.invokespecial 47, 3) := by decide +kernel
theorem dX9_init_93 : decode cX9_init 93 = .ok (.aastore, 1) := by decide +kernel
theorem dX9_init_94 : decode cX9_init 94 = .ok (.iinc 1 1, 3) := by decide +kernel
theorem dX9_init_97 : decode cX9_init 97 = .ok (.goto (-37), 3) := by decide +kernel
theorem dX9_init_100 : decode cX9_init 100 = .ok (.iconst 0, 1) := by decide +kernel
theorem dX9_init_101 : decode cX9_init 101 = .ok (.istore_n 1, 1) := by decide +kernel
theorem dX9_init_102 : decode cX9_init 102 = .ok (.iload_n 1, 1) := by decide +kernel
theorem dX9_init_103 : decode cX9_init 103 = .ok (.bipush 8, 2) := by decide +kernel
theorem dX9_init_105 : decode cX9_init 105 = .ok (.if_icmp .ge 22, 3) := by decide +kernel
theorem dX9_init_108 : decode cX9_init 108 = .ok (.aload_n 0, 1) := by decide +kernel
theorem dX9_init_109 : decode cX9_init 109 = .ok (.getfield 29, 3) := by decide +kernel
theorem dX9_init_112 : decode cX9_init 112 = .ok (.iload_n 1, 1) := by decide +kernel
theorem dX9_init_113 : decode cX9_init 113 = .ok (.new 27, 3) := by decide +kernel
theorem dX9_init_116 : decode cX9_init 116 = .ok (.dup, 1) := by decide +kernel
theorem dX9_init_117 : decode cX9_init 117 = .ok (.invokespecial 48, 3) := by decide +kernel
theorem dX9_init_120 : decode cX9_init 120 = .ok (.aastore, 1) := by decide +kernel
theorem dX9_init_121 : decode cX9_init 121 = .ok (.iinc 1 1, 3) := by decide +kernel
theorem dX9_init_124 : decode cX9_init 124 = .ok (.goto (-22), 3) := by decide +kernel
theorem dX9_init_127 : decode cX9_init 127 = .ok (.return_, 1) := by decide +kernel
theorem dX11_init_0 : decode cX11_init 0 = .ok (.aload_n 0, 1) := by decide +kernel
theorem dX11_init_1 : decode cX11_init 1 = .ok (.invokespecial 1, 3) := by decide +kernel
theorem dX11_init_4 : decode cX11_init 4 = .ok (.aload_n 0, 1) := by decide +kernel
theorem dX11_init_5 : decode cX11_init 5 = .ok (.sipush 1700, 3) := by decide +kernel
theorem dX11_init_8 : decode cX11_init 8 = .ok (.newarray .byte, 2) := by decide +kernel
theorem dX11_init_10 : decode cX11_init 10 = .ok (.putfield 9, 3) := by decide +kernel
theorem dX11_init_13 : decode cX11_init 13 = .ok (.aload_n 0, 1) := by decide +kernel
theorem dX11_init_14 : decode cX11_init 14 = .ok (.new 13, 3) := by decide +kernel
theorem dX11_init_17 : decode cX11_init 17 = .ok (.dup, 1) := by decide +kernel
theorem dX11_init_18 : decode cX11_init 18 = .ok (.invokespecial 15, 3) := by decide +kernel
theorem dX11_init_21 : decode cX11_init 21 = .ok (.putfield 16, 3) := by decide +kernel
theorem dX11_init_24 : decode cX11_init 24 = .ok (.aload_n 0, 1) := by decide +kernel
theorem dX11_init_25 : decode cX11_init 25 = .ok (.new 13, 3) := by decide +kernel
theorem dX11_init_28 : decode cX11_init 28 = .ok (.dup, 1) := by decide +kernel
theorem dX11_init_29 : decode cX11_init 29 = .ok (.invokespecial 15, 3) := by decide +kernel
theorem dX11_init_32 : decode cX11_init 32 = .ok (.putfield 20, 3) := by decide +kernel
theorem dX11_init_35 : decode cX11_init 35 = .ok (.aload_n 0, 1) := by decide +kernel
theorem dX11_init_36 : decode cX11_init 36 = .ok (.iconst (-1), 1) := by decide +kernel
theorem dX11_init_37 : decode cX11_init 37 = .ok (.putfield 23, 3) := by decide +kernel
theorem dX11_init_40 : decode cX11_init 40 = .ok (.aload_n 0, 1) := by decide +kernel
theorem dX11_init_41 : decode cX11_init 41 = .ok (.new 27, 3) := by decide +kernel
theorem dX11_init_44 : decode cX11_init 44 = .ok (.dup, 1) := by decide +kernel
theorem dX11_init_45 : decode cX11_init 45 = .ok (.invokespecial 29, 3) := by decide +kernel
theorem dX11_init_48 : decode cX11_init 48 = .ok (.putfield 30, 3) := by decide +kernel
theorem dX11_init_51 : decode cX11_init 51 = .ok (.aload_n 0, 1) := by decide +kernel
theorem dX11_init_52 : decode cX11_init 52 = .ok (.iconst 3, 1) := by decide +kernel
theorem dX11_init_53 : decode cX11_init 53 = .ok (.anewarray 27, 3) := by decide +kernel
theorem dX11_init_56 : decode cX11_init 56 = .ok (.putfield 34, 3) := by decide +kernel
theorem dX11_init_59 : decode cX11_init 59 = .ok (.aload_n 0, 1) := by decide +kernel
theorem dX11_init_60 : decode cX11_init 60 = .ok (.new 38, 3) := by decide +kernel
theorem dX11_init_63 : decode cX11_init 63 = .ok (.dup, 1) := by decide +kernel
theorem dX11_init_64 : decode cX11_init 64 = .ok (.invokespecial 40, 3) := by decide +kernel
theorem dX11_init_67 : decode cX11_init 67 = .ok (.putfield 41, 3) := by decide +kernel
theorem dX11_init_70 : decode cX11_init 70 = .ok (.aload_n 0, 1) := by decide +kernel
theorem dX11_init_71 : decode cX11_init 71 = .ok (.new 45, 3) := by decide +kernel
theorem dX11_init_74 : decode cX11_init 74 = .ok (.dup, 1) := by decide +kernel
theorem dX11_init_75 : decode cX11_init 75 = .ok (.invokespecial 47, 3) := by decide +kernel
theorem dX11_init_78 : decode cX11_init 78 = .ok (.putfield 48, 3) := by decide +kernel
theorem dX11_init_81 : decode cX11_init 81 = .ok (.aload_n 0, 1) := by decide +kernel
theorem dX11_init_82 : decode cX11_init 82 = .ok (.new 52, 3) := by decide +kernel
theorem dX11_init_85 : decode cX11_init 85 = .ok (.dup, 1) := by decide +kernel
theorem dX11_init_86 : decode cX11_init 86 = .ok (.invokespecial 54, 3) := by decide +kernel
theorem dX11_init_89 : decode cX11_init 89 = .ok (.putfield 55, 3) := by decide +kernel
theorem dX11_init_92 : decode cX11_init 92 = .ok (.aload_n 0, 1) := by decide +kernel
theorem dX11_init_93 : decode cX11_init 93 = .ok (.new 59, 3) := by decide +kernel
theorem dX11_init_96 : decode cX11_init 96 = .ok (.dup, 1) := by decide +kernel
theorem dX11_init_97 : decode cX11_init 97 = .ok (.invokespecial 61, 3) := by decide +kernel
theorem dX11_init_100 : decode cX11_init 100 = .ok (.putfield 62, 3) := by decide +kernel
theorem dX11_init_103 : decode cX11_init 103 = .ok (.aload_n 0, 1) := by decide +kernel
theorem dX11_init_104 : decode cX11_init 104 = .ok (.new 66, 3) := by decide +kernel
theorem dX11_init_107 : decode cX11_init 107 = .ok (.dup, 1) := by decide +kernel
theorem dX11_init_108 : decode cX11_init 108 = .ok (.invokespecial 68, 3) := by decide +kernel
theorem dX11_init_111 : decode cX11_init 111 = .ok (.putfield 69, 3) := by decide +kernel
theorem dX11_init_114 : decode cX11_init 114 = .ok (.iconst 0, 1) := by decide +kernel
theorem dX11_init_115 : decode cX11_init 115 = .ok (.istore_n 1, 1) := by decide +kernel
theorem dX11_init_116 : decode cX11_init 116 = .ok (.iload_n 1, 1) := by decide +kernel
theorem dX11_init_117 : decode cX11_init 117 = .ok (.aload_n 0, 1) := by decide +kernel
theorem dX11_init_118 : decode cX11_init 118 = .ok (.getfield 34, 3) := by decide +kernel
theorem dX11_init_121 : decode cX11_init 121 = .ok (.arraylength, 1) := by decide +kernel
theorem dX11_init_122 : decode cX11_init 122 = .ok (.if_icmp .ge 22, 3) := by decide +kernel
theorem dX11_init_125 : decode cX11_init 125 = .ok (.aload_n 0, 1) := by decide +kernel
theorem dX11_init_126 : decode cX11_init 126 = .ok (.getfield 34, 3) := by decide +kernel
theorem dX11_init_129 : decode cX11_init 129 = .ok (.iload_n 1, 1) := by decide +kernel
theorem dX11_init_130 : decode cX11_init 130 = .ok (.new 27, 3) := by decide +kernel
theorem dX11_init_133 : decode cX11_init 133 = .ok (.dup, 1) := by decide +kernel
theorem dX11_init_134 : decode cX11_init 134 = .ok (.invokespecial 29, 3) := by decide +kernel
theorem dX11_init_137 : decode cX11_init 137 = .ok (.aastore, 1) := by decide +kernel
theorem dX11_init_138 : decode cX11_init 138 = .ok (.iinc 1 1, 3) := by decide +kernel
theorem dX11_init_141 : decode cX11_init 141 = .ok (.goto (-25), 3) := by decide +kernel
theorem dX11_init_144 : decode cX11_init 144 = .ok (.return_, 1) := by decide +kernel
theorem dX9_hasLock_0 : decode cX9_hasLock 0 = .ok (.iload_n 1, 1) := by decide +kernel
theorem dX9_hasLock_1 : decode cX9_hasLock 1 = .ok (.ifCond .lt 15, 3) := by decide +kernel
theorem dX9_hasLock_16 : decode cX9_hasLock 16 = .ok (.iconst 0, 1) := by decide +kernel
theorem dX9_hasLock_17 : decode cX9_hasLock 17 = .ok (.ireturn, 1) := by decide +kernel
theorem dX9_hasLock_4 : decode cX9_hasLock 4 = .ok (.iload_n 1, 1) := by decide +kernel
theorem dX9_hasLock_5 : decode cX9_hasLock 5 = .ok (.aload_n 0, 1) := by decide +kernel
theorem dX9_hasLock_6 : decode cX9_hasLock 6 = .ok (.getfield 53, 3) := by decide +kernel
theorem dX9_hasLock_9 : decode cX9_hasLock 9 = .ok (.if_icmp .ge 7, 3) := by decide +kernel
theorem dX11_putNumber_0 : decode cX11_putNumber 0 = .ok (.bipush 24, 2) := by decide +kernel
theorem dX11_putNumber_2 : decode cX11_putNumber 2 = .ok (.istore_n 2, 1) := by decide +kernel
theorem dX11_putNumber_3 : decode cX11_putNumber 3 = .ok (.iload_n 2, 1) := by decide +kernel
theorem dX11_putNumber_4 : decode cX11_putNumber 4 = .ok (.ifCond .lt 44, 3) := by decide +kernel
theorem dX11_putNumber_7 : decode cX11_putNumber 7 = .ok (.aload_n 0, 1) := by decide +kernel
theorem dX11_putNumber_8 : decode cX11_putNumber 8 = .ok (.getfield 73, 3) := by decide +kernel
theorem dX11_putNumber_11 : decode cX11_putNumber 11 = .ok (.aload_n 0, 1) := by decide +kernel
theorem dX11_putNumber_12 : decode cX11_putNumber 12 = .ok (.getfield 9, 3) := by decide +kernel
theorem dX11_putNumber_15 : decode cX11_putNumber 15 = .ok (.arraylength, 1) := by decide +kernel
theorem dX11_putNumber_16 : decode cX11_putNumber 16 = .ok (.if_icmp .ge 26, 3) := by decide +kernel
theorem dX11_putNumber_19 : decode cX11_putNumber 19 = .ok (.aload_n 0, 1) := by decide +kernel
theorem dX11_putNumber_20 : decode cX11_putNumber 20 = .ok (.getfield 9, 3) := by decide +kernel
theorem dX11_putNumber_23 : decode cX11_putNumber 23 = .ok (.aload_n 0, 1) := by decide +kernel
theorem dX11_putNumber_24 : decode cX11_putNumber 24 = .ok (.getfield 73, 3) := by decide +kernel
theorem dX11_putNumber_27 : decode cX11_putNumber 27 = .ok (.iload_n 1, 1) := by decide +kernel
theorem dX11_putNumber_28 : decode cX11_putNumber 28 = .ok (.iload_n 2, 1) := by decide +kernel
theorem dX11_putNumber_29 : decode cX11_putNumber 29 = .ok (.ishr, 1) := by decide +kernel
theorem dX11_putNumber_30 : decode cX11_putNumber 30 = .ok (.i2b, 1) := by decide +kernel
theorem dX11_putNumber_31 : decode cX11_putNumber 31 = .ok (.bastore, 1) := by decide +kernel
theorem dX11_putNumber_32 : decode cX11_putNumber 32 = .ok (.aload_n 0, 1) := by decide +kernel
theorem dX11_putNumber_33 : decode cX11_putNumber 33 = .ok (.dup, 1) := by decide +kernel
theorem dX11_putNumber_34 : decode cX11_putNumber 34 = .ok (.getfield 73, 3) := by decide +kernel
theorem dX11_putNumber_37 : decode cX11_putNumber 37 = .ok (.iconst 1, 1) := by decide +kernel
theorem dX11_putNumber_38 : decode cX11_putNumber 38 = .ok (.iadd, 1) := by decide +kernel
theorem dX11_putNumber_39 : decode cX11_putNumber 39 = .ok (.putfield 73, 3) := by decide +kernel
theorem dX11_putNumber_42 : decode cX11_putNumber 42 = .ok (.iinc 2 (-8), 3) := by decide +kernel
theorem dX11_putNumber_45 : decode cX11_putNumber 45 = .ok (.goto (-42), 3) := by decide +kernel
theorem dX11_putNumber_48 : decode cX11_putNumber 48 = .ok (.return_, 1) := by decide +kernel
theorem dX8_add_0 : decode cX8_add 0 = .ok (.aload_n 0, 1) := by decide +kernel
theorem dX8_add_1 : decode cX8_add 1 = .ok (.getfield 24, 3) := by decide +kernel
theorem dX8_add_4 : decode cX8_add 4 = .ok (.aload_n 0, 1) := by decide +kernel
theorem dX8_add_5 : decode cX8_add 5 = .ok (.getfield 15, 3) := by decide +kernel
theorem dX8_add_8 : decode cX8_add 8 = .ok (.arraylength, 1) := by decide +kernel
theorem dX8_add_9 : decode cX8_add 9 = .ok (.if_icmp .ge 33, 3) := by decide +kernel
theorem dX8_add_12 : decode cX8_add 12 = .ok (.aload_n 0, 1) := by decide +kernel
theorem dX8_add_13 : decode cX8_add 13 = .ok (.getfield 15, 3) := by decide +kernel
theorem dX8_add_16 : decode cX8_add 16 = .ok (.aload_n 0, 1) := by decide +kernel
theorem dX8_add_17 : decode cX8_add 17 = .ok (.getfield 24, 3) := by decide +kernel
theorem dX8_add_20 : decode cX8_add 20 = .ok (.iload_n 1, 1) := by decide +kernel
theorem dX8_add_21 : decode cX8_add 21 = .ok (.iastore, 1) := by decide +kernel
theorem dX8_add_22 : decode cX8_add 22 = .ok (.aload_n 0, 1) := by decide +kernel
theorem dX8_add_23 : decode cX8_add 23 = .ok (.getfield 21, 3) := by decide +kernel
theorem dX8_add_26 : decode cX8_add 26 = .ok (.aload_n 0, 1) := by decide +kernel
theorem dX8_add_27 : decode cX8_add 27 = .ok (.getfield 24, 3) := by decide +kernel
theorem dX8_add_30 : decode cX8_add 30 = .ok (.iload_n 2, 1) := by decide +kernel
theorem dX8_add_31 : decode cX8_add 31 = .ok (.iastore, 1) := by decide +kernel
theorem dX8_add_32 : decode cX8_add 32 = .ok (.aload_n 0, 1) := by decide +kernel
theorem dX8_add_33 : decode cX8_add 33 = .ok (.dup, 1) := by decide +kernel
theorem dX8_add_34 : decode cX8_add 34 = .ok (.getfield 24, 3) := by decide +kernel
theorem dX8_add_37 : decode cX8_add 37 = .ok (.iconst 1, 1) := by decide +kernel
theorem dX8_add_38 : decode cX8_add 38 = .ok (.iadd, 1) := by decide +kernel
theorem dX8_add_39 : decode cX8_add 39 = .ok (.putfield 24, 3) := by decide +kernel
theorem dX8_add_42 : decode cX8_add 42 = .ok (.return_, 1) := by decide +kernel
theorem dX8_becomeLike_0 : decode cX8_becomeLike 0 = .ok (.aload_n 0, 1) := by decide +kernel
theorem dX8_becomeLike_1 : decode cX8_becomeLike 1 = .ok (.iconst 0, 1) := by decide +kernel
theorem dX8_becomeLike_2 : decode cX8_becomeLike 2 = .ok (.putfield 24, 3) := by decide +kernel
theorem dX8_becomeLike_5 : decode cX8_becomeLike 5 = .ok (.iconst 0, 1) := by decide +kernel
theorem dX8_becomeLike_6 : decode cX8_becomeLike 6 = .ok (.istore_n 2, 1) := by decide +kernel
theorem dX8_becomeLike_7 : decode cX8_becomeLike 7 = .ok (.iload_n 2, 1) := by decide +kernel
theorem dX8_becomeLike_8 : decode cX8_becomeLike 8 = .ok (.aload_n 1, 1) := by decide +kernel
theorem dX8_becomeLike_9 : decode cX8_becomeLike 9 = .ok (.getfield 24, 3) := by decide +kernel
theorem dX8_becomeLike_12 : decode cX8_becomeLike 12 = .ok (.if_icmp .ge 25, 3) := by decide +kernel
theorem dX8_becomeLike_37 : decode cX8_becomeLike 37 = .ok (.return_, 1) := by decide +kernel
theorem dJ7_fill_53178_0 : decode cJ7_fill_53178 0 = .ok (.iconst 0, 1) := by decide +kernel
theorem dJ7_fill_53178_1 : decode cJ7_fill_53178 1 = .ok (.istore_n 2, 1) := by decide +kernel
theorem dJ7_fill_53178_2 : decode cJ7_fill_53178 2 = .ok (.aload_n 0, 1) := by decide +kernel
theorem dJ7_fill_53178_3 : decode cJ7_fill_53178 3 = .ok (.arraylength, 1) := by decide +kernel
theorem dJ7_fill_53178_4 : decode cJ7_fill_53178 4 = .ok (.istore_n 3, 1) := by decide +kernel
theorem dJ7_fill_53178_5 : decode cJ7_fill_53178 5 = .ok (.iload_n 2, 1) := by decide +kernel
theorem dJ7_fill_53178_6 : decode cJ7_fill_53178 6 = .ok (.iload_n 3, 1) := by decide +kernel
theorem dJ7_fill_53178_7 : decode cJ7_fill_53178 7 = .ok (.if_icmp .ge 13, 3) := by decide +kernel
theorem dJ7_fill_53178_10 : decode cJ7_fill_53178 10 = .ok (.aload_n 0, 1) := by decide +kernel
theorem dJ7_fill_53178_11 : decode cJ7_fill_53178 11 = .ok (.iload_n 2, 1) := by decide +kernel
theorem dJ7_fill_53178_12 : decode cJ7_fill_53178 12 = .ok (.iload_n 1, 1) := by decide +kernel
theorem dJ7_fill_53178_13 : decode cJ7_fill_53178 13 = .ok (.iastore, 1) := by decide +kernel
theorem dJ7_fill_53178_14 : decode cJ7_fill_53178 14 = .ok (.iinc 2 1, 3) := by decide +kernel
theorem dJ7_fill_53178_17 : decode cJ7_fill_53178 17 = .ok (.goto (-12), 3) := by decide +kernel
theorem dJ7_fill_53178_20 : decode cJ7_fill_53178 20 = .ok (.return_, 1) := by decide +kernel
theorem dX7_clear_0 : decode cX7_clear 0 = .ok (.aload_n 0, 1) := by decide +kernel
theorem dX7_clear_1 : decode cX7_clear 1 = .ok (.getfield 14, 3) := by decide +kernel
theorem dX7_clear_4 : decode cX7_clear 4 = .ok (.iconst 0, 1) := by decide +kernel
theorem dX7_clear_5 : decode cX7_clear 5 = .ok (.putfield 24, 3) := by decide +kernel
theorem dX7_clear_8 : decode cX7_clear 8 = .ok (.aload_n 0, 1) := by decide +kernel
theorem dX7_clear_9 : decode cX7_clear 9 = .ok (.iconst 0, 1) := by decide +kernel
theorem dX7_clear_10 : decode cX7_clear 10 = .ok (.putfield 28, 3) := by decide +kernel
theorem dX7_clear_13 : decode cX7_clear 13 = .ok (.aload_n 0, 1) := by decide +kernel
theorem dX7_clear_14 : decode cX7_clear 14 = .ok (.iconst 0, 1) := by decide +kernel
theorem dX7_clear_15 : decode cX7_clear 15 = .ok (.putfield 32, 3) := by decide +kernel
theorem dX7_clear_18 : decode cX7_clear 18 = .ok (.aload_n 0, 1) := by decide +kernel
theorem dX7_clear_19 : decode cX7_clear 19 = .ok (.getfield 20, 3) := by decide +kernel
theorem dX7_clear_22 : decode cX7_clear 22 = .ok (.iconst 0, 1) := by decide +kernel
theorem dX7_clear_23 : decode cX7_clear 23 = .ok (.invokestatic 35, 3) := by decide +kernel
theorem dX7_clear_26 : decode cX7_clear 26 = .ok (.aload_n 0, 1) := by decide +kernel
theorem dX7_clear_27 : decode cX7_clear 27 = .ok (.iconst 0, 1) := by decide +kernel
theorem dX7_clear_28 : decode cX7_clear 28 = .ok (.putfield 41, 3) := by decide +kernel
theorem dX7_clear_31 : decode cX7_clear 31 = .ok (.return_, 1) := by decide +kernel
theorem dX7_becomeLike_0 : decode cX7_becomeLike 0 = .ok (.aload_n 0, 1) := by decide +kernel
theorem dX7_becomeLike_1 : decode cX7_becomeLike 1 = .ok (.getfield 14, 3) := by decide +kernel
theorem dX7_becomeLike_4 : decode cX7_becomeLike 4 = .ok (.aload_n 1, 1) := by decide +kernel
theorem dX7_becomeLike_5 : decode cX7_becomeLike 5 = .ok (.getfield 14, 3) := by decide +kernel
theorem dX7_becomeLike_8 : decode cX7_becomeLike 8 = .ok (.invokevirtual 44, 3) := by decide +kernel
theorem dX7_becomeLike_11 : decode cX7_becomeLike 11 = .ok (.aload_n 0, 1) := by decide +kernel
theorem dX7_becomeLike_12 : decode cX7_becomeLike 12 = .ok (.aload_n 1, 1) := by decide +kernel
theorem dX7_becomeLike_13 : decode cX7_becomeLike 13 = .ok (.getfield 28, 3) := by decide +kernel
theorem dX7_becomeLike_16 : decode cX7_becomeLike 16 = .ok (.putfield 28, 3) := by decide +kernel
theorem dX7_becomeLike_19 : decode cX7_becomeLike 19 = .ok (.aload_n 0, 1) := by decide +kernel
theorem dX7_becomeLike_20 : decode cX7_becomeLike 20 = .ok (.aload_n 1, 1) := by decide +kernel
theorem dX7_becomeLike_21 : decode cX7_becomeLike 21 = .ok (.getfield 32, 3) := by decide +kernel
theorem dX7_becomeLike_24 : decode cX7_becomeLike 24 = .ok (.putfield 32, 3) := by decide +kernel
theorem dX7_becomeLike_27 : decode cX7_becomeLike 27 = .ok (.aload_n 1, 1) := by decide +kernel
theorem dX7_becomeLike_28 : decode cX7_becomeLike 28 = .ok (.getfield 20, 3) := by decide +kernel
theorem dX7_becomeLike_31 : decode cX7_becomeLike 31 = .ok (.iconst 0, 1) := by decide +kernel
theorem dX7_becomeLike_32 : decode cX7_becomeLike 32 = .ok (.aload_n 0, 1) := by decide +kernel
theorem dX7_becomeLike_33 : decode cX7_becomeLike 33 = .ok (.getfield 20, 3) := by decide +kernel
theorem dX7_becomeLike_36 : decode cX7_becomeLike 36 = .ok (.iconst 0, 1) := by decide +kernel
theorem dX7_becomeLike_37 : decode cX7_becomeLike 37 = .ok (.bipush 8, 2) := by decide +kernel
theorem dX7_becomeLike_39 : decode cX7_becomeLike 39 = .ok (.invokestatic 48, 3) := by decide +kernel
theorem dX7_becomeLike_42 : decode cX7_becomeLike 42 = .ok (.return_, 1) := by decide +kernel
theorem dX2_hearAll_0 : decode cX2_hearAll 0 = .ok (.aload_n 0, 1) := by decide +kernel
theorem dX2_hearAll_1 : decode cX2_hearAll 1 = .ok (.aload_n 1, 1) := by decide +kernel
theorem dX2_hearAll_2 : decode cX2_hearAll 2 = .ok (.getfield 24, 3) := by decide +kernel
theorem dX2_hearAll_5 : decode cX2_hearAll 5 = .ok (.putfield 30, 3) := by decide +kernel
theorem dX2_hearAll_8 : decode cX2_hearAll 8 = .ok (.iconst 0, 1) := by decide +kernel
theorem dX2_hearAll_9 : decode cX2_hearAll 9 = .ok (.istore_n 3, 1) := by decide +kernel
theorem dX2_hearAll_10 : decode cX2_hearAll 10 = .ok (.iload_n 3, 1) := by decide +kernel
theorem dX2_hearAll_11 : decode cX2_hearAll 11 = .ok (.aload_n 2, 1) := by decide +kernel
theorem dX2_hearAll_12 : decode cX2_hearAll 12 = .ok (.getfield 33, 3) := by decide +kernel
theorem dX2_hearAll_15 : decode cX2_hearAll 15 = .ok (.if_icmp .ge 88, 3) := by decide +kernel
theorem dX2_hearAll_103 : decode cX2_hearAll 103 = .ok (.return_, 1) := by decide +kernel
theorem dX2_hearLast_0 : decode cX2_hearLast 0 = .ok (.aload_n 0, 1) := by decide +kernel
theorem dX2_hearLast_1 : decode cX2_hearLast 1 = .ok (.aload_n 1, 1) := by decide +kernel
theorem dX2_hearLast_2 : decode cX2_hearLast 2 = .ok (.getfield 24, 3) := by decide +kernel
theorem dX2_hearLast_5 : decode cX2_hearLast 5 = .ok (.putfield 30, 3) := by decide +kernel
theorem dX2_hearLast_8 : decode cX2_hearLast 8 = .ok (.iconst 0, 1) := by decide +kernel
theorem dX2_hearLast_9 : decode cX2_hearLast 9 = .ok (.istore_n 3, 1) := by decide +kernel
theorem dX2_hearLast_10 : decode cX2_hearLast 10 = .ok (.iload_n 3, 1) := by decide +kernel
theorem dX2_hearLast_11 : decode cX2_hearLast 11 = .ok (.aload_n 2, 1) := by decide +kernel
theorem dX2_hearLast_12 : decode cX2_hearLast 12 = .ok (.getfield 33, 3) := by decide +kernel
theorem dX2_hearLast_15 : decode cX2_hearLast 15 = .ok (.if_icmp .ge 49, 3) := by decide +kernel
theorem dX2_hearLast_64 : decode cX2_hearLast 64 = .ok (.return_, 1) := by decide +kernel
theorem dX10_clear_0 : decode cX10_clear 0 = .ok (.aload_n 0, 1) := by decide +kernel
theorem dX10_clear_1 : decode cX10_clear 1 = .ok (.iconst 0, 1) := by decide +kernel
theorem dX10_clear_2 : decode cX10_clear 2 = .ok (.putfield 28, 3) := by decide +kernel
theorem dX10_clear_5 : decode cX10_clear 5 = .ok (.return_, 1) := by decide +kernel
theorem dX10_takeBack_0 : decode cX10_takeBack 0 = .ok (.iload_n 1, 1) := by decide +kernel
theorem dX10_takeBack_1 : decode cX10_takeBack 1 = .ok (.ifCond .lt 21, 3) := by decide +kernel
theorem dX10_takeBack_22 : decode cX10_takeBack 22 = .ok (.iconst 0, 1) := by decide +kernel
theorem dX10_takeBack_23 : decode cX10_takeBack 23 = .ok (.ireturn, 1) := by decide +kernel
theorem dX10_takeBack_4 : decode cX10_takeBack 4 = .ok (.iload_n 1, 1) := by decide +kernel
theorem dX10_takeBack_5 : decode cX10_takeBack 5 = .ok (.aload_n 0, 1) := by decide +kernel
theorem dX10_takeBack_6 : decode cX10_takeBack 6 = .ok (.getfield 28, 3) := by decide +kernel
theorem dX10_takeBack_9 : decode cX10_takeBack 9 = .ok (.if_icmp .ge 13, 3) := by decide +kernel
theorem dX10_leftAt_0 : decode cX10_leftAt 0 = .ok (.iconst 1, 1) := by decide +kernel
theorem dX10_leftAt_1 : decode cX10_leftAt 1 = .ok (.aload_n 2, 1) := by decide +kernel
theorem dX10_leftAt_2 : decode cX10_leftAt 2 = .ok (.getfield 32, 3) := by decide +kernel
theorem dX10_leftAt_5 : decode cX10_leftAt 5 = .ok (.ishl, 1) := by decide +kernel
theorem dX10_leftAt_6 : decode cX10_leftAt 6 = .ok (.iconst 1, 1) := by decide +kernel
theorem dX10_leftAt_7 : decode cX10_leftAt 7 = .ok (.isub, 1) := by decide +kernel
theorem dX10_leftAt_8 : decode cX10_leftAt 8 = .ok (.istore_n 3, 1) := by decide +kernel
theorem dX10_leftAt_9 : decode cX10_leftAt 9 = .ok (.iconst 0, 1) := by decide +kernel
theorem dX10_leftAt_10 : decode cX10_leftAt 10 = .ok (.istore 4, 2) := by decide +kernel
theorem dX10_leftAt_12 : decode cX10_leftAt 12 = .ok (.iload 4, 2) := by decide +kernel
theorem dX10_leftAt_14 : decode cX10_leftAt 14 = .ok (.aload_n 0, 1) := by decide +kernel
theorem dX10_leftAt_15 : decode cX10_leftAt 15 = .ok (.getfield 28, 3) := by decide +kernel
theorem dX10_leftAt_18 : decode cX10_leftAt 18 = .ok (.if_icmp .ge 79, 3) := by decide +kernel
theorem dX10_leftAt_97 : decode cX10_leftAt 97 = .ok (.iload_n 3, 1) := by decide +kernel
theorem dX10_leftAt_98 : decode cX10_leftAt 98 = .ok (.ireturn, 1) := by decide +kernel
theorem dX1_pick_0 : decode cX1_pick 0 = .ok (.iload_n 3, 1) := by decide +kernel
theorem dX1_pick_1 : decode cX1_pick 1 = .ok (.iload_n 1, 1) := by decide +kernel
theorem dX1_pick_2 : decode cX1_pick 2 = .ok (.iadd, 1) := by decide +kernel
theorem dX1_pick_3 : decode cX1_pick 3 = .ok (.aload_n 0, 1) := by decide +kernel
theorem dX1_pick_4 : decode cX1_pick 4 = .ok (.getfield 28, 3) := by decide +kernel
theorem dX1_pick_7 : decode cX1_pick 7 = .ok (.if_icmp .gt 4, 3) := by decide +kernel
theorem dX1_pick_11 : decode cX1_pick 11 = .ok (.iload_n 1, 1) := by decide +kernel
theorem dX1_pick_12 : decode cX1_pick 12 = .ok (.iconst 1, 1) := by decide +kernel
theorem dX1_pick_13 : decode cX1_pick 13 = .ok (.if_icmp .lt 12, 3) := by decide +kernel
theorem dX1_pick_25 : decode cX1_pick 25 = .ok (.aload_n 0, 1) := by decide +kernel
theorem dX1_pick_26 : decode cX1_pick 26 = .ok (.iload_n 2, 1) := by decide +kernel
theorem dX1_pick_27 : decode cX1_pick 27 = .ok (.putfield 25, 3) := by decide +kernel
theorem dX1_pick_30 : decode cX1_pick 30 = .ok (.aload_n 0, 1) := by decide +kernel
theorem dX1_pick_31 : decode cX1_pick 31 = .ok (.iload_n 3, 1) := by decide +kernel
theorem dX1_pick_32 : decode cX1_pick 32 = .ok (.putfield 28, 3) := by decide +kernel
theorem dX1_pick_35 : decode cX1_pick 35 = .ok (.return_, 1) := by decide +kernel
theorem dX1_choose_0 : decode cX1_choose 0 = .ok (.iconst 0, 1) := by decide +kernel
theorem dX1_choose_1 : decode cX1_choose 1 = .ok (.istore_n 3, 1) := by decide +kernel
theorem dX1_choose_2 : decode cX1_choose 2 = .ok (.iload_n 3, 1) := by decide +kernel
theorem dX1_choose_3 : decode cX1_choose 3 = .ok (.aload_n 1, 1) := by decide +kernel
theorem dX1_choose_4 : decode cX1_choose 4 = .ok (.getfield 15, 3) := by decide +kernel
theorem dX1_choose_7 : decode cX1_choose 7 = .ok (.if_icmp .ge 64, 3) := by decide +kernel
theorem dX1_choose_71 : decode cX1_choose 71 = .ok (.aload_n 0, 1) := by decide +kernel
theorem dX1_choose_72 : decode cX1_choose 72 = .ok (.iconst 0, 1) := by decide +kernel
theorem dX1_choose_73 : decode cX1_choose 73 = .ok (.putfield 25, 3) := by decide +kernel
theorem dX1_choose_76 : decode cX1_choose 76 = .ok (.aload_n 0, 1) := by decide +kernel
theorem dX1_choose_77 : decode cX1_choose 77 = .ok (.iconst (-1), 1) := by decide +kernel
theorem dX1_choose_78 : decode cX1_choose 78 = .ok (.putfield 28, 3) := by decide +kernel
theorem dX1_choose_81 : decode cX1_choose 81 = .ok (.aload_n 0, 1) := by decide +kernel
theorem dX1_choose_82 : decode cX1_choose 82 = .ok (.aload_n 1, 1) := by decide +kernel
theorem dX1_choose_83 : decode cX1_choose 83 = .ok (.getfield 15, 3) := by decide +kernel
theorem dX1_choose_86 : decode cX1_choose 86 = .ok (.iconst 0, 1) := by decide +kernel
theorem dX1_choose_87 : decode cX1_choose 87 = .ok (.iconst 0, 1) := by decide +kernel
theorem dX1_choose_88 : decode cX1_choose 88 = .ok (.invokestatic 31, 3) := by decide +kernel
theorem dX1_choose_91 : decode cX1_choose 91 = .ok (.aload_n 0, 1) := by decide +kernel
theorem dX1_choose_92 : decode cX1_choose 92 = .ok (.getfield 25, 3) := by decide +kernel
theorem dX1_choose_95 : decode cX1_choose 95 = .ok (.ireturn, 1) := by decide +kernel
theorem dX3_layNext_0 : decode cX3_layNext 0 = .ok (.iload_n 3, 1) := by decide +kernel
theorem dX3_layNext_1 : decode cX3_layNext 1 = .ok (.aload_n 0, 1) := by decide +kernel
theorem dX3_layNext_2 : decode cX3_layNext 2 = .ok (.getfield 29, 3) := by decide +kernel
theorem dX3_layNext_5 : decode cX3_layNext 5 = .ok (.if_icmp .lt 4, 3) := by decide +kernel
theorem dX3_layNext_9 : decode cX3_layNext 9 = .ok (.iload_n 1, 1) := by decide +kernel
theorem dX3_layNext_10 : decode cX3_layNext 10 = .ok (.aload_n 0, 1) := by decide +kernel
theorem dX3_layNext_11 : decode cX3_layNext 11 = .ok (.getfield 33, 3) := by decide +kernel
theorem dX3_layNext_14 : decode cX3_layNext 14 = .ok (.if_icmp .ge 9, 3) := by decide +kernel
theorem dX3_layNext_23 : decode cX3_layNext 23 = .ok (.aload_n 0, 1) := by decide +kernel
theorem dX3_layNext_24 : decode cX3_layNext 24 = .ok (.iload_n 3, 1) := by decide +kernel
theorem dX3_layNext_25 : decode cX3_layNext 25 = .ok (.putfield 29, 3) := by decide +kernel
theorem dX3_layNext_28 : decode cX3_layNext 28 = .ok (.aload_n 0, 1) := by decide +kernel
theorem dX3_layNext_29 : decode cX3_layNext 29 = .ok (.getfield 23, 3) := by decide +kernel
theorem dX3_layNext_32 : decode cX3_layNext 32 = .ok (.iconst 0, 1) := by decide +kernel
theorem dX3_layNext_33 : decode cX3_layNext 33 = .ok (.aload_n 0, 1) := by decide +kernel
theorem dX3_layNext_34 : decode cX3_layNext 34 = .ok (.getfield 26, 3) := by decide +kernel
theorem dX3_layNext_37 : decode cX3_layNext 37 = .ok (.iconst 0, 1) := by decide +kernel
theorem dX3_layNext_38 : decode cX3_layNext 38 = .ok (.bipush 6, 2) := by decide +kernel
theorem dX3_layNext_40 : decode cX3_layNext 40 = .ok (.invokestatic 74, 3) := by decide +kernel
theorem dX3_layNext_43 : decode cX3_layNext 43 = .ok (.return_, 1) := by decide +kernel
theorem dX3_lay_0 : decode cX3_lay 0 = .ok (.aload_n 0, 1) := by decide +kernel
theorem dX3_lay_1 : decode cX3_lay 1 = .ok (.iconst 0, 1) := by decide +kernel
theorem dX3_lay_2 : decode cX3_lay 2 = .ok (.putfield 33, 3) := by decide +kernel
theorem dX3_lay_5 : decode cX3_lay 5 = .ok (.iconst 0, 1) := by decide +kernel
theorem dX3_lay_6 : decode cX3_lay 6 = .ok (.istore_n 3, 1) := by decide +kernel
theorem dX3_lay_7 : decode cX3_lay 7 = .ok (.iload_n 3, 1) := by decide +kernel
theorem dX3_lay_8 : decode cX3_lay 8 = .ok (.aload_n 1, 1) := by decide +kernel
theorem dX3_lay_9 : decode cX3_lay 9 = .ok (.getfield 36, 3) := by decide +kernel
theorem dX3_lay_12 : decode cX3_lay 12 = .ok (.if_icmp .ge 73, 3) := by decide +kernel
theorem dX3_lay_85 : decode cX3_lay 85 = .ok (.iconst 0, 1) := by decide +kernel
theorem dX3_lay_86 : decode cX3_lay 86 = .ok (.istore_n 3, 1) := by decide +kernel
theorem dX3_lay_87 : decode cX3_lay 87 = .ok (.iload_n 3, 1) := by decide +kernel
theorem dX3_lay_88 : decode cX3_lay 88 = .ok (.aload_n 0, 1) := by decide +kernel
theorem dX3_lay_89 : decode cX3_lay 89 = .ok (.getfield 33, 3) := by decide +kernel
theorem dX3_lay_92 : decode cX3_lay 92 = .ok (.if_icmp .ge 62, 3) := by decide +kernel
theorem dX3_lay_154 : decode cX3_lay 154 = .ok (.aload_n 0, 1) := by decide +kernel
theorem dX3_lay_155 : decode cX3_lay 155 = .ok (.bipush 73, 2) := by decide +kernel
theorem dX3_lay_157 : decode cX3_lay 157 = .ok (.putfield 29, 3) := by decide +kernel
theorem dX3_lay_160 : decode cX3_lay 160 = .ok (.aload_n 0, 1) := by decide +kernel
theorem dX3_lay_161 : decode cX3_lay 161 = .ok (.iconst 0, 1) := by decide +kernel
theorem dX3_lay_162 : decode cX3_lay 162 = .ok (.iconst 0, 1) := by decide +kernel
theorem dX3_lay_163 : decode cX3_lay 163 = .ok (.iconst 0, 1) := by decide +kernel
theorem dX3_lay_164 : decode cX3_lay 164 = .ok (.invokestatic 56, 3) := by decide +kernel
theorem dX3_lay_167 : decode cX3_lay 167 = .ok (.return_, 1) := by decide +kernel
theorem dX3_fewestNotes_0 : decode cX3_fewestNotes 0 = .ok (.aload_n 0, 1) := by decide +kernel
theorem dX3_fewestNotes_1 : decode cX3_fewestNotes 1 = .ok (.getfield 29, 3) := by decide +kernel
theorem dX3_fewestNotes_4 : decode cX3_fewestNotes 4 = .ok (.ireturn, 1) := by decide +kernel
theorem dX3_laidAt_0 : decode cX3_laidAt 0 = .ok (.iload_n 1, 1) := by decide +kernel
theorem dX3_laidAt_1 : decode cX3_laidAt 1 = .ok (.ifCond .lt 25, 3) := by decide +kernel
theorem dX3_laidAt_26 : decode cX3_laidAt 26 = .ok (.iconst (-1), 1) := by decide +kernel
theorem dX3_laidAt_27 : decode cX3_laidAt 27 = .ok (.ireturn, 1) := by decide +kernel
theorem dX3_laidAt_4 : decode cX3_laidAt 4 = .ok (.iload_n 1, 1) := by decide +kernel
theorem dX3_laidAt_5 : decode cX3_laidAt 5 = .ok (.aload_n 0, 1) := by decide +kernel
theorem dX3_laidAt_6 : decode cX3_laidAt 6 = .ok (.getfield 33, 3) := by decide +kernel
theorem dX3_laidAt_9 : decode cX3_laidAt 9 = .ok (.if_icmp .ge 17, 3) := by decide +kernel
theorem dJ6_bitCount_0f7a4_0 : decode cJ6_bitCount_0f7a4 0 = .ok (.iload_n 0, 1) := by decide +kernel
theorem dJ6_bitCount_0f7a4_1 : decode cJ6_bitCount_0f7a4 1 = .ok (.iload_n 0, 1) := by decide +kernel
theorem dJ6_bitCount_0f7a4_2 : decode cJ6_bitCount_0f7a4 2 = .ok (.iconst 1, 1) := by decide +kernel
theorem dJ6_bitCount_0f7a4_3 : decode cJ6_bitCount_0f7a4 3 = .ok (.iushr, 1) := by decide +kernel
theorem dJ6_bitCount_0f7a4_4 : decode cJ6_bitCount_0f7a4 4 = .ok (.ldc_w 265, 3) := by decide +kernel
theorem dJ6_bitCount_0f7a4_7 : decode cJ6_bitCount_0f7a4 7 = .ok (.iand, 1) := by decide +kernel
theorem dJ6_bitCount_0f7a4_8 : decode cJ6_bitCount_0f7a4 8 = .ok (.isub, 1) := by decide +kernel
theorem dJ6_bitCount_0f7a4_9 : decode cJ6_bitCount_0f7a4 9 = .ok (.istore_n 0, 1) := by decide +kernel
theorem dJ6_bitCount_0f7a4_10 : decode cJ6_bitCount_0f7a4 10 = .ok (.iload_n 0, 1) := by decide +kernel
theorem dJ6_bitCount_0f7a4_11 : decode cJ6_bitCount_0f7a4 11 = .ok (.ldc_w 266, 3) := by decide +kernel
theorem dJ6_bitCount_0f7a4_14 : decode cJ6_bitCount_0f7a4 14 = .ok (.iand, 1) := by decide +kernel
theorem dJ6_bitCount_0f7a4_15 : decode cJ6_bitCount_0f7a4 15 = .ok (.iload_n 0, 1) := by decide +kernel
theorem dJ6_bitCount_0f7a4_16 : decode cJ6_bitCount_0f7a4 16 = .ok (.iconst 2, 1) := by decide +kernel
theorem dJ6_bitCount_0f7a4_17 : decode cJ6_bitCount_0f7a4 17 = .ok (.iushr, 1) := by decide +kernel
theorem dJ6_bitCount_0f7a4_18 : decode cJ6_bitCount_0f7a4 18 = .ok (.ldc_w 266, 3) := by decide +kernel
theorem dJ6_bitCount_0f7a4_21 : decode cJ6_bitCount_0f7a4 21 = .ok (.iand, 1) := by decide +kernel
theorem dJ6_bitCount_0f7a4_22 : decode cJ6_bitCount_0f7a4 22 = .ok (.iadd, 1) := by decide +kernel
theorem dJ6_bitCount_0f7a4_23 : decode cJ6_bitCount_0f7a4 23 = .ok (.istore_n 0, 1) := by decide +kernel
theorem dJ6_bitCount_0f7a4_24 : decode cJ6_bitCount_0f7a4 24 = .ok (.iload_n 0, 1) := by decide +kernel
theorem dJ6_bitCount_0f7a4_25 : decode cJ6_bitCount_0f7a4 25 = .ok (.iload_n 0, 1) := by decide +kernel
theorem dJ6_bitCount_0f7a4_26 : decode cJ6_bitCount_0f7a4 26 = .ok (.iconst 4, 1) := by decide +kernel
theorem dJ6_bitCount_0f7a4_27 : decode cJ6_bitCount_0f7a4 27 = .ok (.iushr, 1) := by decide +kernel
theorem dJ6_bitCount_0f7a4_28 : decode cJ6_bitCount_0f7a4 28 = .ok (.iadd, 1) := by decide +kernel
theorem dJ6_bitCount_0f7a4_29 : decode cJ6_bitCount_0f7a4 29 = .ok (.ldc_w 267, 3) := by decide +kernel
theorem dJ6_bitCount_0f7a4_32 : decode cJ6_bitCount_0f7a4 32 = .ok (.iand, 1) := by decide +kernel
theorem dJ6_bitCount_0f7a4_33 : decode cJ6_bitCount_0f7a4 33 = .ok (.istore_n 0, 1) := by decide +kernel
theorem dJ6_bitCount_0f7a4_34 : decode cJ6_bitCount_0f7a4 34 = .ok (.iload_n 0, 1) := by decide +kernel
theorem dJ6_bitCount_0f7a4_35 : decode cJ6_bitCount_0f7a4 35 = .ok (.iload_n 0, 1) := by decide +kernel
theorem dJ6_bitCount_0f7a4_36 : decode cJ6_bitCount_0f7a4 36 = .ok (.bipush 8, 2) := by decide +kernel
theorem dJ6_bitCount_0f7a4_38 : decode cJ6_bitCount_0f7a4 38 = .ok (.iushr, 1) := by decide +kernel
theorem dJ6_bitCount_0f7a4_39 : decode cJ6_bitCount_0f7a4 39 = .ok (.iadd, 1) := by decide +kernel
theorem dJ6_bitCount_0f7a4_40 : decode cJ6_bitCount_0f7a4 40 = .ok (.istore_n 0, 1) := by decide +kernel
theorem dJ6_bitCount_0f7a4_41 : decode cJ6_bitCount_0f7a4 41 = .ok (.iload_n 0, 1) := by decide +kernel
theorem dJ6_bitCount_0f7a4_42 : decode cJ6_bitCount_0f7a4 42 = .ok (.iload_n 0, 1) := by decide +kernel
theorem dJ6_bitCount_0f7a4_43 : decode cJ6_bitCount_0f7a4 43 = .ok (.bipush 16, 2) := by decide +kernel
theorem dJ6_bitCount_0f7a4_45 : decode cJ6_bitCount_0f7a4 45 = .ok (.iushr, 1) := by decide +kernel
theorem dJ6_bitCount_0f7a4_46 : decode cJ6_bitCount_0f7a4 46 = .ok (.iadd, 1) := by decide +kernel
theorem dJ6_bitCount_0f7a4_47 : decode cJ6_bitCount_0f7a4 47 = .ok (.istore_n 0, 1) := by decide +kernel
theorem dJ6_bitCount_0f7a4_48 : decode cJ6_bitCount_0f7a4 48 = .ok (.iload_n 0, 1) := by decide +kernel
theorem dJ6_bitCount_0f7a4_49 : decode cJ6_bitCount_0f7a4 49 = .ok (.bipush 63, 2) := by decide +kernel
theorem dJ6_bitCount_0f7a4_51 : decode cJ6_bitCount_0f7a4 51 = .ok (.iand, 1) := by decide +kernel
theorem dJ6_bitCount_0f7a4_52 : decode cJ6_bitCount_0f7a4 52 = .ok (.ireturn, 1) := by decide +kernel
theorem dX11_canBeSung_0 : decode cX11_canBeSung 0 = .ok (.iload_n 0, 1) := by decide +kernel
theorem dX11_canBeSung_1 : decode cX11_canBeSung 1 = .ok (.ifCond .lt 13, 3) := by decide +kernel
theorem dX11_canBeSung_14 : decode cX11_canBeSung 14 = .ok (.iconst 0, 1) := by decide +kernel
theorem dX11_canBeSung_15 : decode cX11_canBeSung 15 = .ok (.ireturn, 1) := by decide +kernel
theorem dX11_canBeSung_4 : decode cX11_canBeSung 4 = .ok (.iload_n 0, 1) := by decide +kernel
theorem dX11_canBeSung_5 : decode cX11_canBeSung 5 = .ok (.bipush 60, 2) := by decide +kernel
theorem dX11_canBeSung_7 : decode cX11_canBeSung 7 = .ok (.if_icmp .gt 7, 3) := by decide +kernel
theorem dX11_canBeSung_10 : decode cX11_canBeSung 10 = .ok (.iconst 1, 1) := by decide +kernel
theorem dX11_canBeSung_11 : decode cX11_canBeSung 11 = .ok (.goto 4, 3) := by decide +kernel
theorem dX6_init_0 : decode cX6_init 0 = .ok (.aload_n 0, 1) := by decide +kernel
theorem dX6_init_1 : decode cX6_init 1 = .ok (.invokespecial 3, 3) := by decide +kernel
theorem dX6_init_4 : decode cX6_init 4 = .ok (.aload_n 0, 1) := by decide +kernel
theorem dX6_init_5 : decode cX6_init 5 = .ok (.iconst (-1), 1) := by decide +kernel
theorem dX6_init_6 : decode cX6_init 6 = .ok (.putfield 9, 3) := by decide +kernel
theorem dX6_init_9 : decode cX6_init 9 = .ok (.aload_n 0, 1) := by decide +kernel
theorem dX6_init_10 : decode cX6_init 10 = .ok (.aload_n 1, 1) := by decide +kernel
theorem dX6_init_11 : decode cX6_init 11 = .ok (.putfield 15, 3) := by decide +kernel
theorem dX6_init_14 : decode cX6_init 14 = .ok (.aload_n 0, 1) := by decide +kernel
theorem dX6_init_15 : decode cX6_init 15 = .ok (.iload_n 2, 1) := by decide +kernel
theorem dX6_init_16 : decode cX6_init 16 = .ok (.aload_n 1, 1) := by decide +kernel
theorem dX6_init_17 : decode cX6_init 17 = .ok (.arraylength, 1) := by decide +kernel
theorem dX6_init_18 : decode cX6_init 18 = .ok (.invokestatic 19, 3) := by decide +kernel
theorem dX6_init_21 : decode cX6_init 21 = .ok (.putfield 25, 3) := by decide +kernel
theorem dX6_init_24 : decode cX6_init 24 = .ok (.aload_n 0, 1) := by decide +kernel
theorem dX6_init_25 : decode cX6_init 25 = .ok (.aload_n 3, 1) := by decide +kernel
theorem dX6_init_26 : decode cX6_init 26 = .ok (.putfield 28, 3) := by decide +kernel
theorem dX6_init_29 : decode cX6_init 29 = .ok (.return_, 1) := by decide +kernel
theorem dX6_takeToken_0 : decode cX6_takeToken 0 = .ok (.aload_n 0, 1) := by decide +kernel
theorem dX6_takeToken_1 : decode cX6_takeToken 1 = .ok (.getfield 176, 3) := by decide +kernel
theorem dX6_takeToken_4 : decode cX6_takeToken 4 = .ok (.aload_n 0, 1) := by decide +kernel
theorem dX6_takeToken_5 : decode cX6_takeToken 5 = .ok (.getfield 25, 3) := by decide +kernel
theorem dX6_takeToken_8 : decode cX6_takeToken 8 = .ok (.if_icmp .ge 44, 3) := by decide +kernel
theorem dX6_takeToken_52 : decode cX6_takeToken 52 = .ok (.aload_n 0, 1) := by decide +kernel
theorem dX6_takeToken_53 : decode cX6_takeToken 53 = .ok (.aload_n 0, 1) := by decide +kernel
theorem dX6_takeToken_54 : decode cX6_takeToken 54 = .ok (.getfield 176, 3) := by decide +kernel
theorem dX6_takeToken_57 : decode cX6_takeToken 57 = .ok (.putfield 173, 3) := by decide +kernel
theorem dX6_takeToken_60 : decode cX6_takeToken 60 = .ok (.aload_n 0, 1) := by decide +kernel
theorem dX6_takeToken_61 : decode cX6_takeToken 61 = .ok (.getfield 176, 3) := by decide +kernel
theorem dX6_takeToken_64 : decode cX6_takeToken 64 = .ok (.aload_n 0, 1) := by decide +kernel
theorem dX6_takeToken_65 : decode cX6_takeToken 65 = .ok (.getfield 25, 3) := by decide +kernel
theorem dX6_takeToken_68 : decode cX6_takeToken 68 = .ok (.if_icmp .lt 12, 3) := by decide +kernel
theorem dX6_takeToken_71 : decode cX6_takeToken 71 = .ok (.aload_n 0, 1) := by decide +kernel
theorem dX6_takeToken_72 : decode cX6_takeToken 72 = .ok (.bipush 17, 2) := by decide +kernel
theorem dX6_takeToken_74 : decode cX6_takeToken 74 = .ok (.putfield 40, 3) := by decide +kernel
theorem dX6_takeToken_77 : decode cX6_takeToken 77 = .ok (.goto 99, 3) := by decide +kernel
theorem dX6_takeToken_176 : decode cX6_takeToken 176 = .ok (.return_, 1) := by decide +kernel
theorem dX9_clear_0 : decode cX9_clear 0 = .ok (.aload_n 0, 1) := by decide +kernel
theorem dX9_clear_1 : decode cX9_clear 1 = .ok (.iconst 0, 1) := by decide +kernel
theorem dX9_clear_2 : decode cX9_clear 2 = .ok (.putfield 49, 3) := by decide +kernel
theorem dX9_clear_5 : decode cX9_clear 5 = .ok (.aload_n 0, 1) := by decide +kernel
theorem dX9_clear_6 : decode cX9_clear 6 = .ok (.iconst 0, 1) := by decide +kernel
theorem dX9_clear_7 : decode cX9_clear 7 = .ok (.putfield 53, 3) := by decide +kernel
theorem dX9_clear_10 : decode cX9_clear 10 = .ok (.aload_n 0, 1) := by decide +kernel
theorem dX9_clear_11 : decode cX9_clear 11 = .ok (.iconst 0, 1) := by decide +kernel
theorem dX9_clear_12 : decode cX9_clear 12 = .ok (.putfield 56, 3) := by decide +kernel
theorem dX9_clear_15 : decode cX9_clear 15 = .ok (.aload_n 0, 1) := by decide +kernel
theorem dX9_clear_16 : decode cX9_clear 16 = .ok (.getfield 36, 3) := by decide +kernel
theorem dX9_clear_19 : decode cX9_clear 19 = .ok (.iconst 0, 1) := by decide +kernel
theorem dX9_clear_20 : decode cX9_clear 20 = .ok (.putfield 59, 3) := by decide +kernel
theorem dX9_clear_23 : decode cX9_clear 23 = .ok (.iconst 0, 1) := by decide +kernel
theorem dX9_clear_24 : decode cX9_clear 24 = .ok (.istore_n 1, 1) := by decide +kernel
theorem dX9_clear_25 : decode cX9_clear 25 = .ok (.iload_n 1, 1) := by decide +kernel
theorem dX9_clear_26 : decode cX9_clear 26 = .ok (.aload_n 0, 1) := by decide +kernel
theorem dX9_clear_27 : decode cX9_clear 27 = .ok (.getfield 40, 3) := by decide +kernel
theorem dX9_clear_30 : decode cX9_clear 30 = .ok (.arraylength, 1) := by decide +kernel
theorem dX9_clear_31 : decode cX9_clear 31 = .ok (.if_icmp .ge 16, 3) := by decide +kernel
theorem dX9_clear_34 : decode cX9_clear 34 = .ok (.aload_n 0, 1) := by decide +kernel
theorem dX9_clear_35 : decode cX9_clear 35 = .ok (.getfield 40, 3) := by decide +kernel
theorem dX9_clear_38 : decode cX9_clear 38 = .ok (.iload_n 1, 1) := by decide +kernel
theorem dX9_clear_39 : decode cX9_clear 39 = .ok (.iconst 0, 1) := by decide +kernel
theorem dX9_clear_40 : decode cX9_clear 40 = .ok (.bastore, 1) := by decide +kernel
theorem dX9_clear_41 : decode cX9_clear 41 = .ok (.iinc 1 1, 3) := by decide +kernel
theorem dX9_clear_44 : decode cX9_clear 44 = .ok (.goto (-19), 3) := by decide +kernel
theorem dX9_clear_47 : decode cX9_clear 47 = .ok (.return_, 1) := by decide +kernel
theorem dX9_sweetenUntold_0 : decode cX9_sweetenUntold 0 = .ok (.iconst 0, 1) := by decide +kernel
theorem dX9_sweetenUntold_1 : decode cX9_sweetenUntold 1 = .ok (.istore_n 1, 1) := by decide +kernel
theorem dX9_sweetenUntold_2 : decode cX9_sweetenUntold 2 = .ok (.iload_n 1, 1) := by decide +kernel
theorem dX9_sweetenUntold_3 : decode cX9_sweetenUntold 3 = .ok (.getstatic 62, 3) := by decide +kernel
theorem dX9_sweetenUntold_6 : decode cX9_sweetenUntold 6 = .ok (.arraylength, 1) := by decide +kernel
theorem dX9_sweetenUntold_7 : decode cX9_sweetenUntold 7 = .ok (.if_icmp .ge 20, 3) := by decide +kernel
theorem dX9_sweetenUntold_10 : decode cX9_sweetenUntold 10 = .ok (.aload_n 0, 1) := by decide +kernel
theorem dX9_sweetenUntold_11 : decode cX9_sweetenUntold 11 = .ok (.getfield 40, 3) := by decide +kernel
theorem dX9_sweetenUntold_14 : decode cX9_sweetenUntold 14 = .ok (.getstatic 62, 3) := by decide +kernel
theorem dX9_sweetenUntold_17 : decode cX9_sweetenUntold 17 = .ok (.iload_n 1, 1) := by decide +kernel
theorem dX9_sweetenUntold_18 : decode cX9_sweetenUntold 18 = .ok (.iaload, 1) := by decide +kernel
theorem dX9_sweetenUntold_19 : decode cX9_sweetenUntold 19 = .ok (.iconst 1, 1) := by decide +kernel
theorem dX9_sweetenUntold_20 : decode cX9_sweetenUntold 20 = .ok (.bastore, 1) := by decide +kernel
theorem dX9_sweetenUntold_21 : decode cX9_sweetenUntold 21 = .ok (.iinc 1 1, 3) := by decide +kernel
theorem dX9_sweetenUntold_24 : decode cX9_sweetenUntold 24 = .ok (.goto (-22), 3) := by decide +kernel
theorem dX9_sweetenUntold_27 : decode cX9_sweetenUntold 27 = .ok (.return_, 1) := by decide +kernel
theorem dX9_prepare_0 : decode cX9_prepare 0 = .ok (.iconst 0, 1) := by decide +kernel
theorem dX9_prepare_1 : decode cX9_prepare 1 = .ok (.istore_n 1, 1) := by decide +kernel
theorem dX9_prepare_2 : decode cX9_prepare 2 = .ok (.iload_n 1, 1) := by decide +kernel
theorem dX9_prepare_3 : decode cX9_prepare 3 = .ok (.aload_n 0, 1) := by decide +kernel
theorem dX9_prepare_4 : decode cX9_prepare 4 = .ok (.getfield 49, 3) := by decide +kernel
theorem dX9_prepare_7 : decode cX9_prepare 7 = .ok (.if_icmp .ge 25, 3) := by decide +kernel
theorem dX9_prepare_32 : decode cX9_prepare 32 = .ok (.iconst 0, 1) := by decide +kernel
theorem dX9_prepare_33 : decode cX9_prepare 33 = .ok (.istore_n 1, 1) := by decide +kernel
theorem dX9_prepare_34 : decode cX9_prepare 34 = .ok (.iload_n 1, 1) := by decide +kernel
theorem dX9_prepare_35 : decode cX9_prepare 35 = .ok (.aload_n 0, 1) := by decide +kernel
theorem dX9_prepare_36 : decode cX9_prepare 36 = .ok (.getfield 53, 3) := by decide +kernel
theorem dX9_prepare_39 : decode cX9_prepare 39 = .ok (.if_icmp .ge 39, 3) := by decide +kernel
theorem dX9_prepare_78 : decode cX9_prepare 78 = .ok (.return_, 1) := by decide +kernel
theorem dX6_readTown_0 : decode cX6_readTown 0 = .ok (.aload_n 0, 1) := by decide +kernel
theorem dX6_readTown_1 : decode cX6_readTown 1 = .ok (.getfield 28, 3) := by decide +kernel
theorem dX6_readTown_4 : decode cX6_readTown 4 = .ok (.invokevirtual 32, 3) := by decide +kernel
theorem dX6_readTown_7 : decode cX6_readTown 7 = .ok (.aload_n 0, 1) := by decide +kernel
theorem dX6_readTown_8 : decode cX6_readTown 8 = .ok (.invokevirtual 37, 3) := by decide +kernel
theorem dX6_readTown_11 : decode cX6_readTown 11 = .ok (.iconst 1, 1) := by decide +kernel
theorem dX6_readTown_12 : decode cX6_readTown 12 = .ok (.istore_n 1, 1) := by decide +kernel
theorem dX6_readTown_13 : decode cX6_readTown 13 = .ok (.iconst 0, 1) := by decide +kernel
theorem dX6_readTown_14 : decode cX6_readTown 14 = .ok (.istore_n 2, 1) := by decide +kernel
theorem dX6_readTown_15 : decode cX6_readTown 15 = .ok (.iload_n 2, 1) := by decide +kernel
theorem dX6_readTown_16 : decode cX6_readTown 16 = .ok (.sipush 1700, 3) := by decide +kernel
theorem dX6_readTown_19 : decode cX6_readTown 19 = .ok (.if_icmp .ge 80, 3) := by decide +kernel
theorem dX6_readTown_22 : decode cX6_readTown 22 = .ok (.iload_n 1, 1) := by decide +kernel
theorem dX6_readTown_23 : decode cX6_readTown 23 = .ok (.ifCond .eq 76, 3) := by decide +kernel
theorem dX6_readTown_26 : decode cX6_readTown 26 = .ok (.aload_n 0, 1) := by decide +kernel
theorem dX6_readTown_27 : decode cX6_readTown 27 = .ok (.getfield 40, 3) := by decide +kernel
theorem dX6_readTown_30 : decode cX6_readTown 30 = .ok (.bipush 17, 2) := by decide +kernel
theorem dX6_readTown_32 : decode cX6_readTown 32 = .ok (.if_icmp .eq 67, 3) := by decide +kernel
theorem dX6_readTown_99 : decode cX6_readTown 99 = .ok (.aload_n 0, 1) := by decide +kernel
theorem dX6_readTown_100 : decode cX6_readTown 100 = .ok (.getfield 56, 3) := by decide +kernel
theorem dX6_readTown_103 : decode cX6_readTown 103 = .ok (.ifCond .ne 10, 3) := by decide +kernel
theorem dX6_readTown_106 : decode cX6_readTown 106 = .ok (.aload_n 0, 1) := by decide +kernel
theorem dX6_readTown_107 : decode cX6_readTown 107 = .ok (.getfield 28, 3) := by decide +kernel
theorem dX6_readTown_110 : decode cX6_readTown 110 = .ok (.invokevirtual 60, 3) := by decide +kernel
theorem dX6_readTown_113 : decode cX6_readTown 113 = .ok (.iload_n 1, 1) := by decide +kernel
theorem dX6_readTown_114 : decode cX6_readTown 114 = .ok (.ireturn, 1) := by decide +kernel
end
section
set_option maxHeartbeats 4000000 in
set_option maxRecDepth 100000 in
theorem c_Lock (l : Launch) (G : va_G) (cy : Nat → ClassId) (sz : Nat) (h : Nat)  : Met l yX4_init (.code yX4_init cX4_init 1 none :: TBg) ({ frames := 1, cells := 0, slots := 0, locals := 64 }) (va_Pc [.ref h] (En G cy [(h, .inr (4, [.long 0, .int 0, .int 0, .int 0, .int 0, .int 0]))] sz)) (va_Qv (fun u : Unit => True) (fun u t => Ex G (va_A [(h, .inr (4, [.long 0, .int 0, .int 0, .int 0, .int 0, .int 0]))] sz) [(h, .inr (4, [.long 0, .int 0, .int 0, .int 0, .int 0, .int 0]))] t) (va_A [(h, .inr (4, [.long 0, .int 0, .int 0, .int 0, .int 0, .int 0]))] sz)) 0 0 (va_A [(h, .inr (4, [.long 0, .int 0, .int 0, .int 0, .int 0, .int 0]))] sz) := by
  refine Met.ofW (cc := cX4_init) (maxL := 1) (ret := none) (by decide) rfl ?_
  intro p e s m args below meth c s₁ B hml hv
  obtain ⟨rfl, hsz, hP, hK, hD0, hN⟩ := hv
  have hx := B.exec
  have hb := B.bytes
  have hr := B.returns
  have hts := atoms_spec (ws := .code yX4_init cX4_init 1 none :: TBg) B.pre
  have ht : ∀ w ∈ TBg, w.before _ s = true := fun w h => hts w (List.mem_cons_of_mem _ h)
  have hown : s.vm.findClass RX4 = some m.cls := findClass_of_methodNamed B.named
  have hlocks := B.notSynchronized
  have hin : meth.name = "<init>" := (name_of_methodNamed B.named B.method).1
  subst hsz
  have hD := hD0.self (sz := s.heap.size)
  generalize hAe : va_A [(h, .inr (4, [.long 0, .int 0, .int 0, .int 0, .int 0, .int 0]))] s.heap.size = A at hD ⊢
  have hA : ∀ q : Nat, s.heap.size ≤ q → A q := fun q h => by rw [← hAe]; exact Or.inr h
  have hS : va_S A s.heap s.heap [] := va_S.rf
  have hl := lv_entry ([.ref h]) (n := 1) (Nat.le_of_ble_eq_true rfl)
  rw [lg_entry_eq]
  generalize (lg_sl ([.ref h]) ++ List.replicate (1 - (lg_sl ([.ref h])).length) Slot.unset).toArray = ls at hl ⊢
  have hl : lv_has ls 1 [(0, .ref h)] := hl
  refine lv_aload_n hx hb dX4_init_0 rfl (lv_at hl 0 rfl) ?_
  refine W.objInit hx hb hown (ht _ k_0) (ht _ k_1) (ht _ k_2) rfl (by rw [hml]; exact hl.1) rfl dX4_init_1 (Nat.le_of_ble_eq_true rfl) (Nat.le_of_ble_eq_true rfl) ?_
  refine W.eq (g2 := F0 m 4 ls []) rfl ?_
  refine W.widen (k := 0) (n := 0) (Nat.le_of_ble_eq_true rfl) (Nat.le_of_ble_eq_true rfl) ?_
  have hP9 : va_P G vwCl [(h, .inr (4, [.long 0, .int 0, .int 0, .int 0, .int 0, .int 0]))] _ := hP.sub [0] rfl
  have hD9 : va_D A [(h, .inr (4, [.long 0, .int 0, .int 0, .int 0, .int 0, .int 0]))] := hD.sub [0] (by decide) rfl
  exact W.vret hx hb hr (fun t ht9 hW => ⟨⟨(), rfl, trivial, ⟨by rw [ht9]; exact hP9, hD9⟩⟩, hS.F ht9⟩) hS.2.2 dX4_init_4
set_option maxHeartbeats 4000000 in
set_option maxRecDepth 100000 in
theorem c_Canon (l : Launch) (G : va_G) (cy : Nat → ClassId) (sz : Nat) (h : Nat)  : Met l yX0_init (.code yX0_init cX0_init 1 none :: TBg) ({ frames := 1, cells := 1, slots := 108, locals := 64 }) (va_Pc [.ref h] (En G cy [(h, .inr (0, [.null, .int 0]))] sz)) (va_Qv (fun u : Nat → Nat => True) (fun u t => Ex G (va_A [(h, .inr (0, [.null, .int 0]))] sz) [(h, .inr (0, [.ref (u 0), .int 0]))] t) (va_A [(h, .inr (0, [.null, .int 0]))] sz)) 1 108 (va_A [(h, .inr (0, [.null, .int 0]))] sz) := by
  refine Met.ofW (cc := cX0_init) (maxL := 1) (ret := none) (by decide) rfl ?_
  intro p e s m args below meth c s₁ B hml hv
  obtain ⟨rfl, hsz, hP, hK, hD0, hN⟩ := hv
  have hx := B.exec
  have hb := B.bytes
  have hr := B.returns
  have hts := atoms_spec (ws := .code yX0_init cX0_init 1 none :: TBg) B.pre
  have ht : ∀ w ∈ TBg, w.before _ s = true := fun w h => hts w (List.mem_cons_of_mem _ h)
  have hown : s.vm.findClass RX0 = some m.cls := findClass_of_methodNamed B.named
  have hlocks := B.notSynchronized
  have hin : meth.name = "<init>" := (name_of_methodNamed B.named B.method).1
  subst hsz
  have hD := hD0.self (sz := s.heap.size)
  generalize hAe : va_A [(h, .inr (0, [.null, .int 0]))] s.heap.size = A at hD ⊢
  have hA : ∀ q : Nat, s.heap.size ≤ q → A q := fun q h => by rw [← hAe]; exact Or.inr h
  have hS : va_S A s.heap s.heap [] := va_S.rf
  have hl := lv_entry ([.ref h]) (n := 1) (Nat.le_of_ble_eq_true rfl)
  rw [lg_entry_eq]
  generalize (lg_sl ([.ref h]) ++ List.replicate (1 - (lg_sl ([.ref h])).length) Slot.unset).toArray = ls at hl ⊢
  have hl : lv_has ls 1 [(0, .ref h)] := hl
  refine lv_aload_n hx hb dX0_init_0 rfl (lv_at hl 0 rfl) ?_
  refine W.objInit hx hb hown (ht _ k_3) (ht _ k_1) (ht _ k_2) rfl (by rw [hml]; exact hl.1) rfl dX0_init_1 (Nat.le_of_ble_eq_true rfl) (Nat.le_of_ble_eq_true rfl) ?_
  refine W.eq (g2 := F0 m 4 ls []) rfl ?_
  refine lv_aload_n hx hb dX0_init_4 rfl (lv_at hl 0 rfl) ?_
  refine lv_bipush (v := 108) hx hb dX0_init_5 (by decide) ?_
  refine ow_newa (N' := 108) (atype := .int) (ty := .int) (a0 := (108, .inl (fun _ => 0))) hx hb (ht _ k_4) rfl hK hP hD hS hA 0 rfl (fun _ => rfl) (by decide) (by decide +kernel) (by decide) (Nat.le_of_ble_eq_true rfl) (Nat.le_of_ble_eq_true rfl) dX0_init_7 (fun q_1 H hP hD hS => ?_)
  refine va_putF (ci := 0) (v := .ref q_1) (ty := .array (.int)) (C := RX0) (T := TX0) (N := 2) hx hb ht iX0 tyX0 tyX0_ok nmX0 hown hK hP hD hS 0 rfl rfl 0 (by decide) (ht _ k_5) (fun _ h9 => h9) rfl hin rfl (by decide +kernel) rfl rfl (Nat.le_of_ble_eq_true rfl) dX0_init_9 (fun H locs hP hD hS => ?_)
  have hP : va_P G vwCl [(h, .inr (0, [.ref q_1, .int 0])), (q_1, .inl (cy 0, 108, .inl (fun _ => 0)))] H := hP
  have hD : va_D A [(h, .inr (0, [.ref q_1, .int 0])), (q_1, .inl (cy 0, 108, .inl (fun _ => 0)))] := hD
  refine W.widen (k := 1) (n := 108) (Nat.le_of_ble_eq_true rfl) (Nat.le_of_ble_eq_true rfl) ?_
  have hP9 : va_P G vwCl [(h, .inr (0, [.ref ((lst [q_1]) 0), .int 0]))] _ := hP.sub [0] rfl
  have hD9 : va_D A [(h, .inr (0, [.ref ((lst [q_1]) 0), .int 0]))] := hD.sub [0] (by decide) rfl
  exact W.vret hx hb hr (fun t ht9 hW => ⟨⟨(lst [q_1]), rfl, trivial, ⟨by rw [ht9]; exact hP9, hD9⟩⟩, hS.F ht9⟩) hS.2.2 dX0_init_12
set_option maxHeartbeats 4000000 in
set_option maxRecDepth 100000 in
theorem c_Deal (l : Launch) (G : va_G) (cy : Nat → ClassId) (sz : Nat) (h : Nat)  : Met l yX1_init (.code yX1_init cX1_init 1 none :: TBg) ({ frames := 1, cells := 1, slots := 14, locals := 64 }) (va_Pc [.ref h] (En G cy [(h, .inr (1, [.null, .int 0, .int 0]))] sz)) (va_Qv (fun u : Nat → Nat => True) (fun u t => Ex G (va_A [(h, .inr (1, [.null, .int 0, .int 0]))] sz) [(h, .inr (1, [.ref (u 0), .int 0, .int 0]))] t) (va_A [(h, .inr (1, [.null, .int 0, .int 0]))] sz)) 1 14 (va_A [(h, .inr (1, [.null, .int 0, .int 0]))] sz) := by
  refine Met.ofW (cc := cX1_init) (maxL := 1) (ret := none) (by decide) rfl ?_
  intro p e s m args below meth c s₁ B hml hv
  obtain ⟨rfl, hsz, hP, hK, hD0, hN⟩ := hv
  have hx := B.exec
  have hb := B.bytes
  have hr := B.returns
  have hts := atoms_spec (ws := .code yX1_init cX1_init 1 none :: TBg) B.pre
  have ht : ∀ w ∈ TBg, w.before _ s = true := fun w h => hts w (List.mem_cons_of_mem _ h)
  have hown : s.vm.findClass RX1 = some m.cls := findClass_of_methodNamed B.named
  have hlocks := B.notSynchronized
  have hin : meth.name = "<init>" := (name_of_methodNamed B.named B.method).1
  subst hsz
  have hD := hD0.self (sz := s.heap.size)
  generalize hAe : va_A [(h, .inr (1, [.null, .int 0, .int 0]))] s.heap.size = A at hD ⊢
  have hA : ∀ q : Nat, s.heap.size ≤ q → A q := fun q h => by rw [← hAe]; exact Or.inr h
  have hS : va_S A s.heap s.heap [] := va_S.rf
  have hl := lv_entry ([.ref h]) (n := 1) (Nat.le_of_ble_eq_true rfl)
  rw [lg_entry_eq]
  generalize (lg_sl ([.ref h]) ++ List.replicate (1 - (lg_sl ([.ref h])).length) Slot.unset).toArray = ls at hl ⊢
  have hl : lv_has ls 1 [(0, .ref h)] := hl
  refine lv_aload_n hx hb dX1_init_0 rfl (lv_at hl 0 rfl) ?_
  refine W.objInit hx hb hown (ht _ k_6) (ht _ k_1) (ht _ k_2) rfl (by rw [hml]; exact hl.1) rfl dX1_init_1 (Nat.le_of_ble_eq_true rfl) (Nat.le_of_ble_eq_true rfl) ?_
  refine W.eq (g2 := F0 m 4 ls []) rfl ?_
  refine lv_aload_n hx hb dX1_init_4 rfl (lv_at hl 0 rfl) ?_
  refine lv_bipush (v := 14) hx hb dX1_init_5 (by decide) ?_
  refine ow_newa (N' := 14) (atype := .int) (ty := .int) (a0 := (14, .inl (fun _ => 0))) hx hb (ht _ k_4) rfl hK hP hD hS hA 0 rfl (fun _ => rfl) (by decide) (by decide +kernel) (by decide) (Nat.le_of_ble_eq_true rfl) (Nat.le_of_ble_eq_true rfl) dX1_init_7 (fun q_1 H hP hD hS => ?_)
  refine va_putF (ci := 1) (v := .ref q_1) (ty := .array (.int)) (C := RX1) (T := TX1) (N := 3) hx hb ht iX1 tyX1 tyX1_ok nmX1 hown hK hP hD hS 0 rfl rfl 0 (by decide) (ht _ k_7) (fun _ h9 => h9) rfl hin rfl (by decide +kernel) rfl rfl (Nat.le_of_ble_eq_true rfl) dX1_init_9 (fun H locs hP hD hS => ?_)
  have hP : va_P G vwCl [(h, .inr (1, [.ref q_1, .int 0, .int 0])), (q_1, .inl (cy 0, 14, .inl (fun _ => 0)))] H := hP
  have hD : va_D A [(h, .inr (1, [.ref q_1, .int 0, .int 0])), (q_1, .inl (cy 0, 14, .inl (fun _ => 0)))] := hD
  refine W.widen (k := 1) (n := 14) (Nat.le_of_ble_eq_true rfl) (Nat.le_of_ble_eq_true rfl) ?_
  have hP9 : va_P G vwCl [(h, .inr (1, [.ref ((lst [q_1]) 0), .int 0, .int 0]))] _ := hP.sub [0] rfl
  have hD9 : va_D A [(h, .inr (1, [.ref ((lst [q_1]) 0), .int 0, .int 0]))] := hD.sub [0] (by decide) rfl
  exact W.vret hx hb hr (fun t ht9 hW => ⟨⟨(lst [q_1]), rfl, trivial, ⟨by rw [ht9]; exact hP9, hD9⟩⟩, hS.F ht9⟩) hS.2.2 dX1_init_12
set_option maxHeartbeats 4000000 in
set_option maxRecDepth 100000 in
theorem c_Hearing (l : Launch) (G : va_G) (cy : Nat → ClassId) (sz : Nat) (h : Nat)  : Met l yX2_init (.code yX2_init cX2_init 1 none :: TBg) ({ frames := 1, cells := 4, slots := 56, locals := 64 }) (va_Pc [.ref h] (En G cy [(h, .inr (2, [.null, .null, .null, .null, .int 0]))] sz)) (va_Qv (fun u : Nat → Nat => True) (fun u t => Ex G (va_A [(h, .inr (2, [.null, .null, .null, .null, .int 0]))] sz) [(h, .inr (2, [.ref (u 0), .ref (u 1), .ref (u 2), .ref (u 3), .int 0]))] t) (va_A [(h, .inr (2, [.null, .null, .null, .null, .int 0]))] sz)) 4 56 (va_A [(h, .inr (2, [.null, .null, .null, .null, .int 0]))] sz) := by
  refine Met.ofW (cc := cX2_init) (maxL := 1) (ret := none) (by decide) rfl ?_
  intro p e s m args below meth c s₁ B hml hv
  obtain ⟨rfl, hsz, hP, hK, hD0, hN⟩ := hv
  have hx := B.exec
  have hb := B.bytes
  have hr := B.returns
  have hts := atoms_spec (ws := .code yX2_init cX2_init 1 none :: TBg) B.pre
  have ht : ∀ w ∈ TBg, w.before _ s = true := fun w h => hts w (List.mem_cons_of_mem _ h)
  have hown : s.vm.findClass RX2 = some m.cls := findClass_of_methodNamed B.named
  have hlocks := B.notSynchronized
  have hin : meth.name = "<init>" := (name_of_methodNamed B.named B.method).1
  subst hsz
  have hD := hD0.self (sz := s.heap.size)
  generalize hAe : va_A [(h, .inr (2, [.null, .null, .null, .null, .int 0]))] s.heap.size = A at hD ⊢
  have hA : ∀ q : Nat, s.heap.size ≤ q → A q := fun q h => by rw [← hAe]; exact Or.inr h
  have hS : va_S A s.heap s.heap [] := va_S.rf
  have hl := lv_entry ([.ref h]) (n := 1) (Nat.le_of_ble_eq_true rfl)
  rw [lg_entry_eq]
  generalize (lg_sl ([.ref h]) ++ List.replicate (1 - (lg_sl ([.ref h])).length) Slot.unset).toArray = ls at hl ⊢
  have hl : lv_has ls 1 [(0, .ref h)] := hl
  refine lv_aload_n hx hb dX2_init_0 rfl (lv_at hl 0 rfl) ?_
  refine W.objInit hx hb hown (ht _ k_8) (ht _ k_1) (ht _ k_2) rfl (by rw [hml]; exact hl.1) rfl dX2_init_1 (Nat.le_of_ble_eq_true rfl) (Nat.le_of_ble_eq_true rfl) ?_
  refine W.eq (g2 := F0 m 4 ls []) rfl ?_
  refine lv_aload_n hx hb dX2_init_4 rfl (lv_at hl 0 rfl) ?_
  refine lv_bipush (v := 14) hx hb dX2_init_5 (by decide) ?_
  refine ow_newa (N' := 14) (atype := .int) (ty := .int) (a0 := (14, .inl (fun _ => 0))) hx hb (ht _ k_4) rfl hK hP hD hS hA 0 rfl (fun _ => rfl) (by decide) (by decide +kernel) (by decide) (Nat.le_of_ble_eq_true rfl) (Nat.le_of_ble_eq_true rfl) dX2_init_7 (fun q_1 H hP hD hS => ?_)
  refine va_putF (ci := 2) (v := .ref q_1) (ty := .array (.int)) (C := RX2) (T := TX2) (N := 5) hx hb ht iX2 tyX2 tyX2_ok nmX2 hown hK hP hD hS 0 rfl rfl 0 (by decide) (ht _ k_9) (fun _ h9 => h9) rfl hin rfl (by decide +kernel) rfl rfl (Nat.le_of_ble_eq_true rfl) dX2_init_9 (fun H locs hP hD hS => ?_)
  have hP : va_P G vwCl [(h, .inr (2, [.ref q_1, .null, .null, .null, .int 0])), (q_1, .inl (cy 0, 14, .inl (fun _ => 0)))] H := hP
  have hD : va_D A [(h, .inr (2, [.ref q_1, .null, .null, .null, .int 0])), (q_1, .inl (cy 0, 14, .inl (fun _ => 0)))] := hD
  refine lv_aload_n hx hb dX2_init_12 rfl (lv_at hl 0 rfl) ?_
  refine lv_bipush (v := 14) hx hb dX2_init_13 (by decide) ?_
  refine ow_newa (N' := 14) (atype := .int) (ty := .int) (a0 := (14, .inl (fun _ => 0))) hx hb (ht _ k_4) rfl hK hP hD hS hA 0 rfl (fun _ => rfl) (by decide) (by decide +kernel) (by decide) (Nat.le_of_ble_eq_true rfl) (Nat.le_of_ble_eq_true rfl) dX2_init_15 (fun q_2 H hP hD hS => ?_)
  refine va_putF (ci := 2) (v := .ref q_2) (ty := .array (.int)) (C := RX2) (T := TX2) (N := 5) hx hb ht iX2 tyX2 tyX2_ok nmX2 hown hK hP hD hS 0 rfl rfl 1 (by decide) (ht _ k_10) (fun _ h9 => h9) rfl hin rfl (by decide +kernel) rfl rfl (Nat.le_of_ble_eq_true rfl) dX2_init_17 (fun H locs hP hD hS => ?_)
  have hP : va_P G vwCl [(h, .inr (2, [.ref q_1, .ref q_2, .null, .null, .int 0])), (q_1, .inl (cy 0, 14, .inl (fun _ => 0))), (q_2, .inl (cy 0, 14, .inl (fun _ => 0)))] H := hP
  have hD : va_D A [(h, .inr (2, [.ref q_1, .ref q_2, .null, .null, .int 0])), (q_1, .inl (cy 0, 14, .inl (fun _ => 0))), (q_2, .inl (cy 0, 14, .inl (fun _ => 0)))] := hD
  refine lv_aload_n hx hb dX2_init_20 rfl (lv_at hl 0 rfl) ?_
  refine lv_bipush (v := 14) hx hb dX2_init_21 (by decide) ?_
  refine ow_newa (N' := 14) (atype := .int) (ty := .int) (a0 := (14, .inl (fun _ => 0))) hx hb (ht _ k_4) rfl hK hP hD hS hA 0 rfl (fun _ => rfl) (by decide) (by decide +kernel) (by decide) (Nat.le_of_ble_eq_true rfl) (Nat.le_of_ble_eq_true rfl) dX2_init_23 (fun q_3 H hP hD hS => ?_)
  refine va_putF (ci := 2) (v := .ref q_3) (ty := .array (.int)) (C := RX2) (T := TX2) (N := 5) hx hb ht iX2 tyX2 tyX2_ok nmX2 hown hK hP hD hS 0 rfl rfl 2 (by decide) (ht _ k_11) (fun _ h9 => h9) rfl hin rfl (by decide +kernel) rfl rfl (Nat.le_of_ble_eq_true rfl) dX2_init_25 (fun H locs hP hD hS => ?_)
  have hP : va_P G vwCl [(h, .inr (2, [.ref q_1, .ref q_2, .ref q_3, .null, .int 0])), (q_1, .inl (cy 0, 14, .inl (fun _ => 0))), (q_2, .inl (cy 0, 14, .inl (fun _ => 0))), (q_3, .inl (cy 0, 14, .inl (fun _ => 0)))] H := hP
  have hD : va_D A [(h, .inr (2, [.ref q_1, .ref q_2, .ref q_3, .null, .int 0])), (q_1, .inl (cy 0, 14, .inl (fun _ => 0))), (q_2, .inl (cy 0, 14, .inl (fun _ => 0))), (q_3, .inl (cy 0, 14, .inl (fun _ => 0)))] := hD
  refine lv_aload_n hx hb dX2_init_28 rfl (lv_at hl 0 rfl) ?_
  refine lv_bipush (v := 14) hx hb dX2_init_29 (by decide) ?_
  refine ow_newa (N' := 14) (atype := .int) (ty := .int) (a0 := (14, .inl (fun _ => 0))) hx hb (ht _ k_4) rfl hK hP hD hS hA 0 rfl (fun _ => rfl) (by decide) (by decide +kernel) (by decide) (Nat.le_of_ble_eq_true rfl) (Nat.le_of_ble_eq_true rfl) dX2_init_31 (fun q_4 H hP hD hS => ?_)
  refine va_putF (ci := 2) (v := .ref q_4) (ty := .array (.int)) (C := RX2) (T := TX2) (N := 5) hx hb ht iX2 tyX2 tyX2_ok nmX2 hown hK hP hD hS 0 rfl rfl 3 (by decide) (ht _ k_12) (fun _ h9 => h9) rfl hin rfl (by decide +kernel) rfl rfl (Nat.le_of_ble_eq_true rfl) dX2_init_33 (fun H locs hP hD hS => ?_)
  have hP : va_P G vwCl [(h, .inr (2, [.ref q_1, .ref q_2, .ref q_3, .ref q_4, .int 0])), (q_1, .inl (cy 0, 14, .inl (fun _ => 0))), (q_2, .inl (cy 0, 14, .inl (fun _ => 0))), (q_3, .inl (cy 0, 14, .inl (fun _ => 0))), (q_4, .inl (cy 0, 14, .inl (fun _ => 0)))] H := hP
  have hD : va_D A [(h, .inr (2, [.ref q_1, .ref q_2, .ref q_3, .ref q_4, .int 0])), (q_1, .inl (cy 0, 14, .inl (fun _ => 0))), (q_2, .inl (cy 0, 14, .inl (fun _ => 0))), (q_3, .inl (cy 0, 14, .inl (fun _ => 0))), (q_4, .inl (cy 0, 14, .inl (fun _ => 0)))] := hD
  refine W.widen (k := 4) (n := 56) (Nat.le_of_ble_eq_true rfl) (Nat.le_of_ble_eq_true rfl) ?_
  have hP9 : va_P G vwCl [(h, .inr (2, [.ref ((lst [q_1, q_2, q_3, q_4]) 0), .ref ((lst [q_1, q_2, q_3, q_4]) 1), .ref ((lst [q_1, q_2, q_3, q_4]) 2), .ref ((lst [q_1, q_2, q_3, q_4]) 3), .int 0]))] _ := hP.sub [0] rfl
  have hD9 : va_D A [(h, .inr (2, [.ref ((lst [q_1, q_2, q_3, q_4]) 0), .ref ((lst [q_1, q_2, q_3, q_4]) 1), .ref ((lst [q_1, q_2, q_3, q_4]) 2), .ref ((lst [q_1, q_2, q_3, q_4]) 3), .int 0]))] := hD.sub [0] (by decide) rfl
  exact W.vret hx hb hr (fun t ht9 hW => ⟨⟨(lst [q_1, q_2, q_3, q_4]), rfl, trivial, ⟨by rw [ht9]; exact hP9, hD9⟩⟩, hS.F ht9⟩) hS.2.2 dX2_init_36
set_option maxHeartbeats 4000000 in
set_option maxRecDepth 100000 in
theorem c_Questions (l : Launch) (G : va_G) (cy : Nat → ClassId) (sz : Nat) (h : Nat)  : Met l yX5_init (.code yX5_init cX5_init 1 none :: TBg) ({ frames := 1, cells := 3, slots := 1141, locals := 64 }) (va_Pc [.ref h] (En G cy [(h, .inr (5, [.null, .null, .int 0, .null, .int 0]))] sz)) (va_Qv (fun u : Nat → Nat => True) (fun u t => Ex G (va_A [(h, .inr (5, [.null, .null, .int 0, .null, .int 0]))] sz) [(h, .inr (5, [.ref (u 0), .ref (u 1), .int 0, .ref (u 2), .int 0]))] t) (va_A [(h, .inr (5, [.null, .null, .int 0, .null, .int 0]))] sz)) 3 1141 (va_A [(h, .inr (5, [.null, .null, .int 0, .null, .int 0]))] sz) := by
  refine Met.ofW (cc := cX5_init) (maxL := 1) (ret := none) (by decide) rfl ?_
  intro p e s m args below meth c s₁ B hml hv
  obtain ⟨rfl, hsz, hP, hK, hD0, hN⟩ := hv
  have hx := B.exec
  have hb := B.bytes
  have hr := B.returns
  have hts := atoms_spec (ws := .code yX5_init cX5_init 1 none :: TBg) B.pre
  have ht : ∀ w ∈ TBg, w.before _ s = true := fun w h => hts w (List.mem_cons_of_mem _ h)
  have hown : s.vm.findClass RX5 = some m.cls := findClass_of_methodNamed B.named
  have hlocks := B.notSynchronized
  have hin : meth.name = "<init>" := (name_of_methodNamed B.named B.method).1
  subst hsz
  have hD := hD0.self (sz := s.heap.size)
  generalize hAe : va_A [(h, .inr (5, [.null, .null, .int 0, .null, .int 0]))] s.heap.size = A at hD ⊢
  have hA : ∀ q : Nat, s.heap.size ≤ q → A q := fun q h => by rw [← hAe]; exact Or.inr h
  have hS : va_S A s.heap s.heap [] := va_S.rf
  have hl := lv_entry ([.ref h]) (n := 1) (Nat.le_of_ble_eq_true rfl)
  rw [lg_entry_eq]
  generalize (lg_sl ([.ref h]) ++ List.replicate (1 - (lg_sl ([.ref h])).length) Slot.unset).toArray = ls at hl ⊢
  have hl : lv_has ls 1 [(0, .ref h)] := hl
  refine lv_aload_n hx hb dX5_init_0 rfl (lv_at hl 0 rfl) ?_
  refine W.objInit hx hb hown (ht _ k_13) (ht _ k_1) (ht _ k_2) rfl (by rw [hml]; exact hl.1) rfl dX5_init_1 (Nat.le_of_ble_eq_true rfl) (Nat.le_of_ble_eq_true rfl) ?_
  refine W.eq (g2 := F0 m 4 ls []) rfl ?_
  refine lv_aload_n hx hb dX5_init_4 rfl (lv_at hl 0 rfl) ?_
  refine lv_sipush (v := 540) hx hb dX5_init_5 (by decide) ?_
  refine ow_newa (N' := 540) (atype := .int) (ty := .int) (a0 := (540, .inl (fun _ => 0))) hx hb (ht _ k_4) rfl hK hP hD hS hA 0 rfl (fun _ => rfl) (by decide) (by decide +kernel) (by decide) (Nat.le_of_ble_eq_true rfl) (Nat.le_of_ble_eq_true rfl) dX5_init_8 (fun q_1 H hP hD hS => ?_)
  refine va_putF (ci := 5) (v := .ref q_1) (ty := .array (.int)) (C := RX5) (T := TX5) (N := 5) hx hb ht iX5 tyX5 tyX5_ok nmX5 hown hK hP hD hS 0 rfl rfl 0 (by decide) (ht _ k_14) (fun _ h9 => h9) rfl hin rfl (by decide +kernel) rfl rfl (Nat.le_of_ble_eq_true rfl) dX5_init_10 (fun H locs hP hD hS => ?_)
  have hP : va_P G vwCl [(h, .inr (5, [.ref q_1, .null, .int 0, .null, .int 0])), (q_1, .inl (cy 0, 540, .inl (fun _ => 0)))] H := hP
  have hD : va_D A [(h, .inr (5, [.ref q_1, .null, .int 0, .null, .int 0])), (q_1, .inl (cy 0, 540, .inl (fun _ => 0)))] := hD
  refine lv_aload_n hx hb dX5_init_13 rfl (lv_at hl 0 rfl) ?_
  refine lv_sipush (v := 540) hx hb dX5_init_14 (by decide) ?_
  refine ow_newa (N' := 540) (atype := .int) (ty := .int) (a0 := (540, .inl (fun _ => 0))) hx hb (ht _ k_4) rfl hK hP hD hS hA 0 rfl (fun _ => rfl) (by decide) (by decide +kernel) (by decide) (Nat.le_of_ble_eq_true rfl) (Nat.le_of_ble_eq_true rfl) dX5_init_17 (fun q_2 H hP hD hS => ?_)
  refine va_putF (ci := 5) (v := .ref q_2) (ty := .array (.int)) (C := RX5) (T := TX5) (N := 5) hx hb ht iX5 tyX5 tyX5_ok nmX5 hown hK hP hD hS 0 rfl rfl 1 (by decide) (ht _ k_15) (fun _ h9 => h9) rfl hin rfl (by decide +kernel) rfl rfl (Nat.le_of_ble_eq_true rfl) dX5_init_19 (fun H locs hP hD hS => ?_)
  have hP : va_P G vwCl [(h, .inr (5, [.ref q_1, .ref q_2, .int 0, .null, .int 0])), (q_1, .inl (cy 0, 540, .inl (fun _ => 0))), (q_2, .inl (cy 0, 540, .inl (fun _ => 0)))] H := hP
  have hD : va_D A [(h, .inr (5, [.ref q_1, .ref q_2, .int 0, .null, .int 0])), (q_1, .inl (cy 0, 540, .inl (fun _ => 0))), (q_2, .inl (cy 0, 540, .inl (fun _ => 0)))] := hD
  refine lv_aload_n hx hb dX5_init_22 rfl (lv_at hl 0 rfl) ?_
  refine lv_bipush (v := 61) hx hb dX5_init_23 (by decide) ?_
  refine ow_newa (N' := 61) (atype := .int) (ty := .int) (a0 := (61, .inl (fun _ => 0))) hx hb (ht _ k_4) rfl hK hP hD hS hA 0 rfl (fun _ => rfl) (by decide) (by decide +kernel) (by decide) (Nat.le_of_ble_eq_true rfl) (Nat.le_of_ble_eq_true rfl) dX5_init_25 (fun q_3 H hP hD hS => ?_)
  refine va_putF (ci := 5) (v := .ref q_3) (ty := .array (.int)) (C := RX5) (T := TX5) (N := 5) hx hb ht iX5 tyX5 tyX5_ok nmX5 hown hK hP hD hS 0 rfl rfl 3 (by decide) (ht _ k_16) (fun _ h9 => h9) rfl hin rfl (by decide +kernel) rfl rfl (Nat.le_of_ble_eq_true rfl) dX5_init_27 (fun H locs hP hD hS => ?_)
  have hP : va_P G vwCl [(h, .inr (5, [.ref q_1, .ref q_2, .int 0, .ref q_3, .int 0])), (q_1, .inl (cy 0, 540, .inl (fun _ => 0))), (q_2, .inl (cy 0, 540, .inl (fun _ => 0))), (q_3, .inl (cy 0, 61, .inl (fun _ => 0)))] H := hP
  have hD : va_D A [(h, .inr (5, [.ref q_1, .ref q_2, .int 0, .ref q_3, .int 0])), (q_1, .inl (cy 0, 540, .inl (fun _ => 0))), (q_2, .inl (cy 0, 540, .inl (fun _ => 0))), (q_3, .inl (cy 0, 61, .inl (fun _ => 0)))] := hD
  refine W.widen (k := 3) (n := 1141) (Nat.le_of_ble_eq_true rfl) (Nat.le_of_ble_eq_true rfl) ?_
  have hP9 : va_P G vwCl [(h, .inr (5, [.ref ((lst [q_1, q_2, q_3]) 0), .ref ((lst [q_1, q_2, q_3]) 1), .int 0, .ref ((lst [q_1, q_2, q_3]) 2), .int 0]))] _ := hP.sub [0] rfl
  have hD9 : va_D A [(h, .inr (5, [.ref ((lst [q_1, q_2, q_3]) 0), .ref ((lst [q_1, q_2, q_3]) 1), .int 0, .ref ((lst [q_1, q_2, q_3]) 2), .int 0]))] := hD.sub [0] (by decide) rfl
  exact W.vret hx hb hr (fun t ht9 hW => ⟨⟨(lst [q_1, q_2, q_3]), rfl, trivial, ⟨by rw [ht9]; exact hP9, hD9⟩⟩, hS.F ht9⟩) hS.2.2 dX5_init_30
set_option maxHeartbeats 4000000 in
set_option maxRecDepth 100000 in
theorem c_Watches (l : Launch) (G : va_G) (cy : Nat → ClassId) (sz : Nat) (h : Nat)  : Met l yX10_init (.code yX10_init cX10_init 1 none :: TBg) ({ frames := 1, cells := 5, slots := 150, locals := 64 }) (va_Pc [.ref h] (En G cy [(h, .inr (10, [.null, .null, .null, .null, .null, .int 0]))] sz)) (va_Qv (fun u : Nat → Nat => True) (fun u t => Ex G (va_A [(h, .inr (10, [.null, .null, .null, .null, .null, .int 0]))] sz) [(h, .inr (10, [.ref (u 0), .ref (u 1), .ref (u 2), .ref (u 3), .ref (u 4), .int 0]))] t) (va_A [(h, .inr (10, [.null, .null, .null, .null, .null, .int 0]))] sz)) 5 150 (va_A [(h, .inr (10, [.null, .null, .null, .null, .null, .int 0]))] sz) := by
  refine Met.ofW (cc := cX10_init) (maxL := 1) (ret := none) (by decide) rfl ?_
  intro p e s m args below meth c s₁ B hml hv
  obtain ⟨rfl, hsz, hP, hK, hD0, hN⟩ := hv
  have hx := B.exec
  have hb := B.bytes
  have hr := B.returns
  have hts := atoms_spec (ws := .code yX10_init cX10_init 1 none :: TBg) B.pre
  have ht : ∀ w ∈ TBg, w.before _ s = true := fun w h => hts w (List.mem_cons_of_mem _ h)
  have hown : s.vm.findClass RX10 = some m.cls := findClass_of_methodNamed B.named
  have hlocks := B.notSynchronized
  have hin : meth.name = "<init>" := (name_of_methodNamed B.named B.method).1
  subst hsz
  have hD := hD0.self (sz := s.heap.size)
  generalize hAe : va_A [(h, .inr (10, [.null, .null, .null, .null, .null, .int 0]))] s.heap.size = A at hD ⊢
  have hA : ∀ q : Nat, s.heap.size ≤ q → A q := fun q h => by rw [← hAe]; exact Or.inr h
  have hS : va_S A s.heap s.heap [] := va_S.rf
  have hl := lv_entry ([.ref h]) (n := 1) (Nat.le_of_ble_eq_true rfl)
  rw [lg_entry_eq]
  generalize (lg_sl ([.ref h]) ++ List.replicate (1 - (lg_sl ([.ref h])).length) Slot.unset).toArray = ls at hl ⊢
  have hl : lv_has ls 1 [(0, .ref h)] := hl
  refine lv_aload_n hx hb dX10_init_0 rfl (lv_at hl 0 rfl) ?_
  refine W.objInit hx hb hown (ht _ k_17) (ht _ k_1) (ht _ k_2) rfl (by rw [hml]; exact hl.1) rfl dX10_init_1 (Nat.le_of_ble_eq_true rfl) (Nat.le_of_ble_eq_true rfl) ?_
  refine W.eq (g2 := F0 m 4 ls []) rfl ?_
  refine lv_aload_n hx hb dX10_init_4 rfl (lv_at hl 0 rfl) ?_
  refine lv_bipush (v := 30) hx hb dX10_init_5 (by decide) ?_
  refine ow_newa (N' := 30) (atype := .int) (ty := .int) (a0 := (30, .inl (fun _ => 0))) hx hb (ht _ k_4) rfl hK hP hD hS hA 0 rfl (fun _ => rfl) (by decide) (by decide +kernel) (by decide) (Nat.le_of_ble_eq_true rfl) (Nat.le_of_ble_eq_true rfl) dX10_init_7 (fun q_1 H hP hD hS => ?_)
  refine va_putF (ci := 10) (v := .ref q_1) (ty := .array (.int)) (C := RX10) (T := TX10) (N := 6) hx hb ht iX10 tyX10 tyX10_ok nmX10 hown hK hP hD hS 0 rfl rfl 0 (by decide) (ht _ k_18) (fun _ h9 => h9) rfl hin rfl (by decide +kernel) rfl rfl (Nat.le_of_ble_eq_true rfl) dX10_init_9 (fun H locs hP hD hS => ?_)
  have hP : va_P G vwCl [(h, .inr (10, [.ref q_1, .null, .null, .null, .null, .int 0])), (q_1, .inl (cy 0, 30, .inl (fun _ => 0)))] H := hP
  have hD : va_D A [(h, .inr (10, [.ref q_1, .null, .null, .null, .null, .int 0])), (q_1, .inl (cy 0, 30, .inl (fun _ => 0)))] := hD
  refine lv_aload_n hx hb dX10_init_12 rfl (lv_at hl 0 rfl) ?_
  refine lv_bipush (v := 30) hx hb dX10_init_13 (by decide) ?_
  refine ow_newa (N' := 30) (atype := .boolean) (ty := .boolean) (a0 := (30, .inl (fun _ => 0))) hx hb (ht _ k_19) rfl hK hP hD hS hA 2 rfl (fun _ => rfl) (by decide) (by decide +kernel) (by decide) (Nat.le_of_ble_eq_true rfl) (Nat.le_of_ble_eq_true rfl) dX10_init_15 (fun q_2 H hP hD hS => ?_)
  refine va_putF (ci := 10) (v := .ref q_2) (ty := .array (.boolean)) (C := RX10) (T := TX10) (N := 6) hx hb ht iX10 tyX10 tyX10_ok nmX10 hown hK hP hD hS 0 rfl rfl 1 (by decide) (ht _ k_20) (fun _ h9 => h9) rfl hin rfl (by decide +kernel) rfl rfl (Nat.le_of_ble_eq_true rfl) dX10_init_17 (fun H locs hP hD hS => ?_)
  have hP : va_P G vwCl [(h, .inr (10, [.ref q_1, .ref q_2, .null, .null, .null, .int 0])), (q_1, .inl (cy 0, 30, .inl (fun _ => 0))), (q_2, .inl (cy 2, 30, .inl (fun _ => 0)))] H := hP
  have hD : va_D A [(h, .inr (10, [.ref q_1, .ref q_2, .null, .null, .null, .int 0])), (q_1, .inl (cy 0, 30, .inl (fun _ => 0))), (q_2, .inl (cy 2, 30, .inl (fun _ => 0)))] := hD
  refine lv_aload_n hx hb dX10_init_20 rfl (lv_at hl 0 rfl) ?_
  refine lv_bipush (v := 30) hx hb dX10_init_21 (by decide) ?_
  refine ow_newa (N' := 30) (atype := .boolean) (ty := .boolean) (a0 := (30, .inl (fun _ => 0))) hx hb (ht _ k_19) rfl hK hP hD hS hA 2 rfl (fun _ => rfl) (by decide) (by decide +kernel) (by decide) (Nat.le_of_ble_eq_true rfl) (Nat.le_of_ble_eq_true rfl) dX10_init_23 (fun q_3 H hP hD hS => ?_)
  refine va_putF (ci := 10) (v := .ref q_3) (ty := .array (.boolean)) (C := RX10) (T := TX10) (N := 6) hx hb ht iX10 tyX10 tyX10_ok nmX10 hown hK hP hD hS 0 rfl rfl 2 (by decide) (ht _ k_21) (fun _ h9 => h9) rfl hin rfl (by decide +kernel) rfl rfl (Nat.le_of_ble_eq_true rfl) dX10_init_25 (fun H locs hP hD hS => ?_)
  have hP : va_P G vwCl [(h, .inr (10, [.ref q_1, .ref q_2, .ref q_3, .null, .null, .int 0])), (q_1, .inl (cy 0, 30, .inl (fun _ => 0))), (q_2, .inl (cy 2, 30, .inl (fun _ => 0))), (q_3, .inl (cy 2, 30, .inl (fun _ => 0)))] H := hP
  have hD : va_D A [(h, .inr (10, [.ref q_1, .ref q_2, .ref q_3, .null, .null, .int 0])), (q_1, .inl (cy 0, 30, .inl (fun _ => 0))), (q_2, .inl (cy 2, 30, .inl (fun _ => 0))), (q_3, .inl (cy 2, 30, .inl (fun _ => 0)))] := hD
  refine lv_aload_n hx hb dX10_init_28 rfl (lv_at hl 0 rfl) ?_
  refine lv_bipush (v := 30) hx hb dX10_init_29 (by decide) ?_
  refine ow_newa (N' := 30) (atype := .int) (ty := .int) (a0 := (30, .inl (fun _ => 0))) hx hb (ht _ k_4) rfl hK hP hD hS hA 0 rfl (fun _ => rfl) (by decide) (by decide +kernel) (by decide) (Nat.le_of_ble_eq_true rfl) (Nat.le_of_ble_eq_true rfl) dX10_init_31 (fun q_4 H hP hD hS => ?_)
  refine va_putF (ci := 10) (v := .ref q_4) (ty := .array (.int)) (C := RX10) (T := TX10) (N := 6) hx hb ht iX10 tyX10 tyX10_ok nmX10 hown hK hP hD hS 0 rfl rfl 3 (by decide) (ht _ k_22) (fun _ h9 => h9) rfl hin rfl (by decide +kernel) rfl rfl (Nat.le_of_ble_eq_true rfl) dX10_init_33 (fun H locs hP hD hS => ?_)
  have hP : va_P G vwCl [(h, .inr (10, [.ref q_1, .ref q_2, .ref q_3, .ref q_4, .null, .int 0])), (q_1, .inl (cy 0, 30, .inl (fun _ => 0))), (q_2, .inl (cy 2, 30, .inl (fun _ => 0))), (q_3, .inl (cy 2, 30, .inl (fun _ => 0))), (q_4, .inl (cy 0, 30, .inl (fun _ => 0)))] H := hP
  have hD : va_D A [(h, .inr (10, [.ref q_1, .ref q_2, .ref q_3, .ref q_4, .null, .int 0])), (q_1, .inl (cy 0, 30, .inl (fun _ => 0))), (q_2, .inl (cy 2, 30, .inl (fun _ => 0))), (q_3, .inl (cy 2, 30, .inl (fun _ => 0))), (q_4, .inl (cy 0, 30, .inl (fun _ => 0)))] := hD
  refine lv_aload_n hx hb dX10_init_36 rfl (lv_at hl 0 rfl) ?_
  refine lv_bipush (v := 30) hx hb dX10_init_37 (by decide) ?_
  refine ow_newa (N' := 30) (atype := .int) (ty := .int) (a0 := (30, .inl (fun _ => 0))) hx hb (ht _ k_4) rfl hK hP hD hS hA 0 rfl (fun _ => rfl) (by decide) (by decide +kernel) (by decide) (Nat.le_of_ble_eq_true rfl) (Nat.le_of_ble_eq_true rfl) dX10_init_39 (fun q_5 H hP hD hS => ?_)
  refine va_putF (ci := 10) (v := .ref q_5) (ty := .array (.int)) (C := RX10) (T := TX10) (N := 6) hx hb ht iX10 tyX10 tyX10_ok nmX10 hown hK hP hD hS 0 rfl rfl 4 (by decide) (ht _ k_23) (fun _ h9 => h9) rfl hin rfl (by decide +kernel) rfl rfl (Nat.le_of_ble_eq_true rfl) dX10_init_41 (fun H locs hP hD hS => ?_)
  have hP : va_P G vwCl [(h, .inr (10, [.ref q_1, .ref q_2, .ref q_3, .ref q_4, .ref q_5, .int 0])), (q_1, .inl (cy 0, 30, .inl (fun _ => 0))), (q_2, .inl (cy 2, 30, .inl (fun _ => 0))), (q_3, .inl (cy 2, 30, .inl (fun _ => 0))), (q_4, .inl (cy 0, 30, .inl (fun _ => 0))), (q_5, .inl (cy 0, 30, .inl (fun _ => 0)))] H := hP
  have hD : va_D A [(h, .inr (10, [.ref q_1, .ref q_2, .ref q_3, .ref q_4, .ref q_5, .int 0])), (q_1, .inl (cy 0, 30, .inl (fun _ => 0))), (q_2, .inl (cy 2, 30, .inl (fun _ => 0))), (q_3, .inl (cy 2, 30, .inl (fun _ => 0))), (q_4, .inl (cy 0, 30, .inl (fun _ => 0))), (q_5, .inl (cy 0, 30, .inl (fun _ => 0)))] := hD
  refine W.widen (k := 5) (n := 150) (Nat.le_of_ble_eq_true rfl) (Nat.le_of_ble_eq_true rfl) ?_
  have hP9 : va_P G vwCl [(h, .inr (10, [.ref ((lst [q_1, q_2, q_3, q_4, q_5]) 0), .ref ((lst [q_1, q_2, q_3, q_4, q_5]) 1), .ref ((lst [q_1, q_2, q_3, q_4, q_5]) 2), .ref ((lst [q_1, q_2, q_3, q_4, q_5]) 3), .ref ((lst [q_1, q_2, q_3, q_4, q_5]) 4), .int 0]))] _ := hP.sub [0] rfl
  have hD9 : va_D A [(h, .inr (10, [.ref ((lst [q_1, q_2, q_3, q_4, q_5]) 0), .ref ((lst [q_1, q_2, q_3, q_4, q_5]) 1), .ref ((lst [q_1, q_2, q_3, q_4, q_5]) 2), .ref ((lst [q_1, q_2, q_3, q_4, q_5]) 3), .ref ((lst [q_1, q_2, q_3, q_4, q_5]) 4), .int 0]))] := hD.sub [0] (by decide) rfl
  exact W.vret hx hb hr (fun t ht9 hW => ⟨⟨(lst [q_1, q_2, q_3, q_4, q_5]), rfl, trivial, ⟨by rw [ht9]; exact hP9, hD9⟩⟩, hS.F ht9⟩) hS.2.2 dX10_init_44
set_option maxHeartbeats 4000000 in
set_option maxRecDepth 100000 in
theorem c_Song12 (l : Launch) (G : va_G) (cy : Nat → ClassId) (sz : Nat) (h : Nat)  : Met l yX8_init (.code yX8_init cX8_init 2 none :: TBg) ({ frames := 1, cells := 2, slots := 24, locals := 64 }) (va_Pc [.ref h, .int 12] (En G cy [(h, .inr (8, [.null, .null, .int 0]))] sz)) (va_Qv (fun u : Nat → Nat => True) (fun u t => Ex G (va_A [(h, .inr (8, [.null, .null, .int 0]))] sz) [(h, .inr (8, [.ref (u 0), .ref (u 1), .int 0])), ((u 0), .inl (cy 0, 12, .inl (fun _ => 0))), ((u 1), .inl (cy 0, 12, .inl (fun _ => 0)))] t) (va_A [(h, .inr (8, [.null, .null, .int 0]))] sz)) 2 24 (va_A [(h, .inr (8, [.null, .null, .int 0]))] sz) := by
  refine Met.ofW (cc := cX8_init) (maxL := 2) (ret := none) (by decide) rfl ?_
  intro p e s m args below meth c s₁ B hml hv
  obtain ⟨rfl, hsz, hP, hK, hD0, hN⟩ := hv
  have hx := B.exec
  have hb := B.bytes
  have hr := B.returns
  have hts := atoms_spec (ws := .code yX8_init cX8_init 2 none :: TBg) B.pre
  have ht : ∀ w ∈ TBg, w.before _ s = true := fun w h => hts w (List.mem_cons_of_mem _ h)
  have hown : s.vm.findClass RX8 = some m.cls := findClass_of_methodNamed B.named
  have hlocks := B.notSynchronized
  have hin : meth.name = "<init>" := (name_of_methodNamed B.named B.method).1
  subst hsz
  have hD := hD0.self (sz := s.heap.size)
  generalize hAe : va_A [(h, .inr (8, [.null, .null, .int 0]))] s.heap.size = A at hD ⊢
  have hA : ∀ q : Nat, s.heap.size ≤ q → A q := fun q h => by rw [← hAe]; exact Or.inr h
  have hS : va_S A s.heap s.heap [] := va_S.rf
  have hl := lv_entry ([.ref h, .int 12]) (n := 2) (Nat.le_of_ble_eq_true rfl)
  rw [lg_entry_eq]
  generalize (lg_sl ([.ref h, .int 12]) ++ List.replicate (2 - (lg_sl ([.ref h, .int 12])).length) Slot.unset).toArray = ls at hl ⊢
  have hl : lv_has ls 2 [(0, .ref h), (1, .int 12)] := hl
  refine lv_aload_n hx hb dX8_init_0 rfl (lv_at hl 0 rfl) ?_
  refine W.objInit hx hb hown (ht _ k_24) (ht _ k_1) (ht _ k_2) rfl (by rw [hml]; exact hl.1) rfl dX8_init_1 (Nat.le_of_ble_eq_true rfl) (Nat.le_of_ble_eq_true rfl) ?_
  refine W.eq (g2 := F0 m 4 ls []) rfl ?_
  refine lv_aload_n hx hb dX8_init_4 rfl (lv_at hl 0 rfl) ?_
  refine lv_iload_n hx hb dX8_init_5 rfl (lv_at hl 1 rfl) ?_
  refine lv_iconst (v := 0) hx hb dX8_init_6 (by decide) ?_
  refine va_mmax hx hb (by rw [hml]; exact hl.1.symm) hown (ht _ k_25) (ht _ k_26) (ht _ k_27) (ht _ k_28) (Nat.le_of_ble_eq_true rfl) (Nat.le_of_ble_eq_true rfl) (Nat.le_of_ble_eq_true rfl) (Nat.le_of_ble_eq_true rfl) dX8_init_7 ?_
  refine ow_top 12 (by decide +kernel) ?_
  refine ow_newa (N' := 12) (atype := .int) (ty := .int) (a0 := (12, .inl (fun _ => 0))) hx hb (ht _ k_4) rfl hK hP hD hS hA 0 rfl (fun _ => rfl) (by decide) (by decide +kernel) (by decide) (Nat.le_of_ble_eq_true rfl) (Nat.le_of_ble_eq_true rfl) dX8_init_10 (fun q_1 H hP hD hS => ?_)
  refine va_putF (ci := 8) (v := .ref q_1) (ty := .array (.int)) (C := RX8) (T := TX8) (N := 3) hx hb ht iX8 tyX8 tyX8_ok nmX8 hown hK hP hD hS 0 rfl rfl 0 (by decide) (ht _ k_29) (fun _ h9 => h9) rfl hin rfl (by decide +kernel) rfl rfl (Nat.le_of_ble_eq_true rfl) dX8_init_12 (fun H locs hP hD hS => ?_)
  have hP : va_P G vwCl [(h, .inr (8, [.ref q_1, .null, .int 0])), (q_1, .inl (cy 0, 12, .inl (fun _ => 0)))] H := hP
  have hD : va_D A [(h, .inr (8, [.ref q_1, .null, .int 0])), (q_1, .inl (cy 0, 12, .inl (fun _ => 0)))] := hD
  refine lv_aload_n hx hb dX8_init_15 rfl (lv_at hl 0 rfl) ?_
  refine lv_iload_n hx hb dX8_init_16 rfl (lv_at hl 1 rfl) ?_
  refine lv_iconst (v := 0) hx hb dX8_init_17 (by decide) ?_
  refine va_mmax hx hb (by rw [hml]; exact hl.1.symm) hown (ht _ k_25) (ht _ k_26) (ht _ k_27) (ht _ k_28) (Nat.le_of_ble_eq_true rfl) (Nat.le_of_ble_eq_true rfl) (Nat.le_of_ble_eq_true rfl) (Nat.le_of_ble_eq_true rfl) dX8_init_18 ?_
  refine ow_top 12 (by decide +kernel) ?_
  refine ow_newa (N' := 12) (atype := .int) (ty := .int) (a0 := (12, .inl (fun _ => 0))) hx hb (ht _ k_4) rfl hK hP hD hS hA 0 rfl (fun _ => rfl) (by decide) (by decide +kernel) (by decide) (Nat.le_of_ble_eq_true rfl) (Nat.le_of_ble_eq_true rfl) dX8_init_21 (fun q_2 H hP hD hS => ?_)
  refine va_putF (ci := 8) (v := .ref q_2) (ty := .array (.int)) (C := RX8) (T := TX8) (N := 3) hx hb ht iX8 tyX8 tyX8_ok nmX8 hown hK hP hD hS 0 rfl rfl 1 (by decide) (ht _ k_30) (fun _ h9 => h9) rfl hin rfl (by decide +kernel) rfl rfl (Nat.le_of_ble_eq_true rfl) dX8_init_23 (fun H locs hP hD hS => ?_)
  have hP : va_P G vwCl [(h, .inr (8, [.ref q_1, .ref q_2, .int 0])), (q_1, .inl (cy 0, 12, .inl (fun _ => 0))), (q_2, .inl (cy 0, 12, .inl (fun _ => 0)))] H := hP
  have hD : va_D A [(h, .inr (8, [.ref q_1, .ref q_2, .int 0])), (q_1, .inl (cy 0, 12, .inl (fun _ => 0))), (q_2, .inl (cy 0, 12, .inl (fun _ => 0)))] := hD
  refine W.widen (k := 2) (n := 24) (Nat.le_of_ble_eq_true rfl) (Nat.le_of_ble_eq_true rfl) ?_
  have hP9 : va_P G vwCl [(h, .inr (8, [.ref ((lst [q_1, q_2]) 0), .ref ((lst [q_1, q_2]) 1), .int 0])), (((lst [q_1, q_2]) 0), .inl (cy 0, 12, .inl (fun _ => 0))), (((lst [q_1, q_2]) 1), .inl (cy 0, 12, .inl (fun _ => 0)))] _ := hP.sub [0, 1, 2] rfl
  have hD9 : va_D A [(h, .inr (8, [.ref ((lst [q_1, q_2]) 0), .ref ((lst [q_1, q_2]) 1), .int 0])), (((lst [q_1, q_2]) 0), .inl (cy 0, 12, .inl (fun _ => 0))), (((lst [q_1, q_2]) 1), .inl (cy 0, 12, .inl (fun _ => 0)))] := hD.sub [0, 1, 2] (by decide) rfl
  exact W.vret hx hb hr (fun t ht9 hW => ⟨⟨(lst [q_1, q_2]), rfl, trivial, ⟨by rw [ht9]; exact hP9, hD9⟩⟩, hS.F ht9⟩) hS.2.2 dX8_init_26
set_option maxHeartbeats 4000000 in
set_option maxRecDepth 100000 in
theorem c_Song40 (l : Launch) (G : va_G) (cy : Nat → ClassId) (sz : Nat) (h : Nat)  : Met l yX8_init (.code yX8_init cX8_init 2 none :: TBg) ({ frames := 1, cells := 2, slots := 80, locals := 64 }) (va_Pc [.ref h, .int 40] (En G cy [(h, .inr (8, [.null, .null, .int 0]))] sz)) (va_Qv (fun u : Nat → Nat => True) (fun u t => Ex G (va_A [(h, .inr (8, [.null, .null, .int 0]))] sz) [(h, .inr (8, [.ref (u 0), .ref (u 1), .int 0])), ((u 0), .inl (cy 0, 40, .inl (fun _ => 0))), ((u 1), .inl (cy 0, 40, .inl (fun _ => 0)))] t) (va_A [(h, .inr (8, [.null, .null, .int 0]))] sz)) 2 80 (va_A [(h, .inr (8, [.null, .null, .int 0]))] sz) := by
  refine Met.ofW (cc := cX8_init) (maxL := 2) (ret := none) (by decide) rfl ?_
  intro p e s m args below meth c s₁ B hml hv
  obtain ⟨rfl, hsz, hP, hK, hD0, hN⟩ := hv
  have hx := B.exec
  have hb := B.bytes
  have hr := B.returns
  have hts := atoms_spec (ws := .code yX8_init cX8_init 2 none :: TBg) B.pre
  have ht : ∀ w ∈ TBg, w.before _ s = true := fun w h => hts w (List.mem_cons_of_mem _ h)
  have hown : s.vm.findClass RX8 = some m.cls := findClass_of_methodNamed B.named
  have hlocks := B.notSynchronized
  have hin : meth.name = "<init>" := (name_of_methodNamed B.named B.method).1
  subst hsz
  have hD := hD0.self (sz := s.heap.size)
  generalize hAe : va_A [(h, .inr (8, [.null, .null, .int 0]))] s.heap.size = A at hD ⊢
  have hA : ∀ q : Nat, s.heap.size ≤ q → A q := fun q h => by rw [← hAe]; exact Or.inr h
  have hS : va_S A s.heap s.heap [] := va_S.rf
  have hl := lv_entry ([.ref h, .int 40]) (n := 2) (Nat.le_of_ble_eq_true rfl)
  rw [lg_entry_eq]
  generalize (lg_sl ([.ref h, .int 40]) ++ List.replicate (2 - (lg_sl ([.ref h, .int 40])).length) Slot.unset).toArray = ls at hl ⊢
  have hl : lv_has ls 2 [(0, .ref h), (1, .int 40)] := hl
  refine lv_aload_n hx hb dX8_init_0 rfl (lv_at hl 0 rfl) ?_
  refine W.objInit hx hb hown (ht _ k_24) (ht _ k_1) (ht _ k_2) rfl (by rw [hml]; exact hl.1) rfl dX8_init_1 (Nat.le_of_ble_eq_true rfl) (Nat.le_of_ble_eq_true rfl) ?_
  refine W.eq (g2 := F0 m 4 ls []) rfl ?_
  refine lv_aload_n hx hb dX8_init_4 rfl (lv_at hl 0 rfl) ?_
  refine lv_iload_n hx hb dX8_init_5 rfl (lv_at hl 1 rfl) ?_
  refine lv_iconst (v := 0) hx hb dX8_init_6 (by decide) ?_
  refine va_mmax hx hb (by rw [hml]; exact hl.1.symm) hown (ht _ k_25) (ht _ k_26) (ht _ k_27) (ht _ k_28) (Nat.le_of_ble_eq_true rfl) (Nat.le_of_ble_eq_true rfl) (Nat.le_of_ble_eq_true rfl) (Nat.le_of_ble_eq_true rfl) dX8_init_7 ?_
  refine ow_top 40 (by decide +kernel) ?_
  refine ow_newa (N' := 40) (atype := .int) (ty := .int) (a0 := (40, .inl (fun _ => 0))) hx hb (ht _ k_4) rfl hK hP hD hS hA 0 rfl (fun _ => rfl) (by decide) (by decide +kernel) (by decide) (Nat.le_of_ble_eq_true rfl) (Nat.le_of_ble_eq_true rfl) dX8_init_10 (fun q_1 H hP hD hS => ?_)
  refine va_putF (ci := 8) (v := .ref q_1) (ty := .array (.int)) (C := RX8) (T := TX8) (N := 3) hx hb ht iX8 tyX8 tyX8_ok nmX8 hown hK hP hD hS 0 rfl rfl 0 (by decide) (ht _ k_29) (fun _ h9 => h9) rfl hin rfl (by decide +kernel) rfl rfl (Nat.le_of_ble_eq_true rfl) dX8_init_12 (fun H locs hP hD hS => ?_)
  have hP : va_P G vwCl [(h, .inr (8, [.ref q_1, .null, .int 0])), (q_1, .inl (cy 0, 40, .inl (fun _ => 0)))] H := hP
  have hD : va_D A [(h, .inr (8, [.ref q_1, .null, .int 0])), (q_1, .inl (cy 0, 40, .inl (fun _ => 0)))] := hD
  refine lv_aload_n hx hb dX8_init_15 rfl (lv_at hl 0 rfl) ?_
  refine lv_iload_n hx hb dX8_init_16 rfl (lv_at hl 1 rfl) ?_
  refine lv_iconst (v := 0) hx hb dX8_init_17 (by decide) ?_
  refine va_mmax hx hb (by rw [hml]; exact hl.1.symm) hown (ht _ k_25) (ht _ k_26) (ht _ k_27) (ht _ k_28) (Nat.le_of_ble_eq_true rfl) (Nat.le_of_ble_eq_true rfl) (Nat.le_of_ble_eq_true rfl) (Nat.le_of_ble_eq_true rfl) dX8_init_18 ?_
  refine ow_top 40 (by decide +kernel) ?_
  refine ow_newa (N' := 40) (atype := .int) (ty := .int) (a0 := (40, .inl (fun _ => 0))) hx hb (ht _ k_4) rfl hK hP hD hS hA 0 rfl (fun _ => rfl) (by decide) (by decide +kernel) (by decide) (Nat.le_of_ble_eq_true rfl) (Nat.le_of_ble_eq_true rfl) dX8_init_21 (fun q_2 H hP hD hS => ?_)
  refine va_putF (ci := 8) (v := .ref q_2) (ty := .array (.int)) (C := RX8) (T := TX8) (N := 3) hx hb ht iX8 tyX8 tyX8_ok nmX8 hown hK hP hD hS 0 rfl rfl 1 (by decide) (ht _ k_30) (fun _ h9 => h9) rfl hin rfl (by decide +kernel) rfl rfl (Nat.le_of_ble_eq_true rfl) dX8_init_23 (fun H locs hP hD hS => ?_)
  have hP : va_P G vwCl [(h, .inr (8, [.ref q_1, .ref q_2, .int 0])), (q_1, .inl (cy 0, 40, .inl (fun _ => 0))), (q_2, .inl (cy 0, 40, .inl (fun _ => 0)))] H := hP
  have hD : va_D A [(h, .inr (8, [.ref q_1, .ref q_2, .int 0])), (q_1, .inl (cy 0, 40, .inl (fun _ => 0))), (q_2, .inl (cy 0, 40, .inl (fun _ => 0)))] := hD
  refine W.widen (k := 2) (n := 80) (Nat.le_of_ble_eq_true rfl) (Nat.le_of_ble_eq_true rfl) ?_
  have hP9 : va_P G vwCl [(h, .inr (8, [.ref ((lst [q_1, q_2]) 0), .ref ((lst [q_1, q_2]) 1), .int 0])), (((lst [q_1, q_2]) 0), .inl (cy 0, 40, .inl (fun _ => 0))), (((lst [q_1, q_2]) 1), .inl (cy 0, 40, .inl (fun _ => 0)))] _ := hP.sub [0, 1, 2] rfl
  have hD9 : va_D A [(h, .inr (8, [.ref ((lst [q_1, q_2]) 0), .ref ((lst [q_1, q_2]) 1), .int 0])), (((lst [q_1, q_2]) 0), .inl (cy 0, 40, .inl (fun _ => 0))), (((lst [q_1, q_2]) 1), .inl (cy 0, 40, .inl (fun _ => 0)))] := hD.sub [0, 1, 2] (by decide) rfl
  exact W.vret hx hb hr (fun t ht9 hW => ⟨⟨(lst [q_1, q_2]), rfl, trivial, ⟨by rw [ht9]; exact hP9, hD9⟩⟩, hS.F ht9⟩) hS.2.2 dX8_init_26
set_option maxHeartbeats 4000000 in
set_option maxRecDepth 100000 in
theorem c_Laying (l : Launch) (G : va_G) (cy : Nat → ClassId) (sz : Nat) (h : Nat)  : Met l yX3_init (.code yX3_init cX3_init 1 none :: TBg) ({ frames := 1, cells := 11, slots := 66, locals := 64 }) (va_Pc [.ref h] (En G cy [(h, .inr (3, [.null, .null, .int 0, .null, .null, .null, .int 0]))] sz)) (va_Qv (fun u : Nat → Nat => True) (fun u t => Ex G (va_A [(h, .inr (3, [.null, .null, .int 0, .null, .null, .null, .int 0]))] sz) [(h, .inr (3, [.ref (u 0), .ref (u 1), .int 0, .ref (u 2), .ref (u 3), .ref (u 4), .int 0])), ((u 3), .inl (cy 0, 6, .inl (fun _ => 0))), ((u 4), .inl (cy 0, 6, .inl (fun _ => 0)))] t) (va_A [(h, .inr (3, [.null, .null, .int 0, .null, .null, .null, .int 0]))] sz)) 11 66 (va_A [(h, .inr (3, [.null, .null, .int 0, .null, .null, .null, .int 0]))] sz) := by
  refine Met.ofW (cc := cX3_init) (maxL := 1) (ret := none) (by decide) rfl ?_
  intro p e s m args below meth c s₁ B hml hv
  obtain ⟨rfl, hsz, hP, hK, hD0, hN⟩ := hv
  have hx := B.exec
  have hb := B.bytes
  have hr := B.returns
  have hts := atoms_spec (ws := .code yX3_init cX3_init 1 none :: TBg) B.pre
  have ht : ∀ w ∈ TBg, w.before _ s = true := fun w h => hts w (List.mem_cons_of_mem _ h)
  have hown : s.vm.findClass RX3 = some m.cls := findClass_of_methodNamed B.named
  have hlocks := B.notSynchronized
  have hin : meth.name = "<init>" := (name_of_methodNamed B.named B.method).1
  subst hsz
  have hD := hD0.self (sz := s.heap.size)
  generalize hAe : va_A [(h, .inr (3, [.null, .null, .int 0, .null, .null, .null, .int 0]))] s.heap.size = A at hD ⊢
  have hA : ∀ q : Nat, s.heap.size ≤ q → A q := fun q h => by rw [← hAe]; exact Or.inr h
  have hS : va_S A s.heap s.heap [] := va_S.rf
  have hl := lv_entry ([.ref h]) (n := 1) (Nat.le_of_ble_eq_true rfl)
  rw [lg_entry_eq]
  generalize (lg_sl ([.ref h]) ++ List.replicate (1 - (lg_sl ([.ref h])).length) Slot.unset).toArray = ls at hl ⊢
  have hl : lv_has ls 1 [(0, .ref h)] := hl
  refine lv_aload_n hx hb dX3_init_0 rfl (lv_at hl 0 rfl) ?_
  refine W.objInit hx hb hown (ht _ k_31) (ht _ k_1) (ht _ k_2) rfl (by rw [hml]; exact hl.1) rfl dX3_init_1 (Nat.le_of_ble_eq_true rfl) (Nat.le_of_ble_eq_true rfl) ?_
  refine W.eq (g2 := F0 m 4 ls []) rfl ?_
  refine lv_aload_n hx hb dX3_init_4 rfl (lv_at hl 0 rfl) ?_
  refine lv_bipush (v := 6) hx hb dX3_init_5 (by decide) ?_
  refine ow_newa (N' := 6) (atype := .int) (ty := .int) (a0 := (6, .inl (fun _ => 0))) hx hb (ht _ k_4) rfl hK hP hD hS hA 0 rfl (fun _ => rfl) (by decide) (by decide +kernel) (by decide) (Nat.le_of_ble_eq_true rfl) (Nat.le_of_ble_eq_true rfl) dX3_init_7 (fun q_1 H hP hD hS => ?_)
  refine va_putF (ci := 3) (v := .ref q_1) (ty := .array (.int)) (C := RX3) (T := TX3) (N := 7) hx hb ht iX3 tyX3 tyX3_ok nmX3 hown hK hP hD hS 0 rfl rfl 0 (by decide) (ht _ k_32) (fun _ h9 => h9) rfl hin rfl (by decide +kernel) rfl rfl (Nat.le_of_ble_eq_true rfl) dX3_init_9 (fun H locs hP hD hS => ?_)
  have hP : va_P G vwCl [(h, .inr (3, [.ref q_1, .null, .int 0, .null, .null, .null, .int 0])), (q_1, .inl (cy 0, 6, .inl (fun _ => 0)))] H := hP
  have hD : va_D A [(h, .inr (3, [.ref q_1, .null, .int 0, .null, .null, .null, .int 0])), (q_1, .inl (cy 0, 6, .inl (fun _ => 0)))] := hD
  refine lv_aload_n hx hb dX3_init_12 rfl (lv_at hl 0 rfl) ?_
  refine lv_bipush (v := 6) hx hb dX3_init_13 (by decide) ?_
  refine ow_newa (N' := 6) (atype := .int) (ty := .int) (a0 := (6, .inl (fun _ => 0))) hx hb (ht _ k_4) rfl hK hP hD hS hA 0 rfl (fun _ => rfl) (by decide) (by decide +kernel) (by decide) (Nat.le_of_ble_eq_true rfl) (Nat.le_of_ble_eq_true rfl) dX3_init_15 (fun q_2 H hP hD hS => ?_)
  refine va_putF (ci := 3) (v := .ref q_2) (ty := .array (.int)) (C := RX3) (T := TX3) (N := 7) hx hb ht iX3 tyX3 tyX3_ok nmX3 hown hK hP hD hS 0 rfl rfl 1 (by decide) (ht _ k_33) (fun _ h9 => h9) rfl hin rfl (by decide +kernel) rfl rfl (Nat.le_of_ble_eq_true rfl) dX3_init_17 (fun H locs hP hD hS => ?_)
  have hP : va_P G vwCl [(h, .inr (3, [.ref q_1, .ref q_2, .int 0, .null, .null, .null, .int 0])), (q_1, .inl (cy 0, 6, .inl (fun _ => 0))), (q_2, .inl (cy 0, 6, .inl (fun _ => 0)))] H := hP
  have hD : va_D A [(h, .inr (3, [.ref q_1, .ref q_2, .int 0, .null, .null, .null, .int 0])), (q_1, .inl (cy 0, 6, .inl (fun _ => 0))), (q_2, .inl (cy 0, 6, .inl (fun _ => 0)))] := hD
  refine lv_aload_n hx hb dX3_init_20 rfl (lv_at hl 0 rfl) ?_
  refine lv_bipush (v := 6) hx hb dX3_init_21 (by decide) ?_
  refine lv_bipush (v := 6) hx hb dX3_init_23 (by decide) ?_
  refine ow_mna (ty := .int) (N' := 6) (K' := 6) hx hb hown (ht _ k_34) hN.2.2.2.2.2 (ht _ k_4) hP hS (by decide) (by decide) (by decide +kernel) (by decide +kernel) (by decide) (by decide) (by decide) rfl rfl (Nat.le_of_ble_eq_true rfl) (Nat.le_of_ble_eq_true rfl) dX3_init_25 (fun q_3 H hP hS => ?_)
  refine va_putF (ci := 3) (v := .ref q_3) (ty := .array (.array (.int))) (C := RX3) (T := TX3) (N := 7) hx hb ht iX3 tyX3 tyX3_ok nmX3 hown hK hP hD hS 0 rfl rfl 3 (by decide) (ht _ k_35) (fun _ h9 => h9) rfl hin rfl (by decide +kernel) rfl rfl (Nat.le_of_ble_eq_true rfl) dX3_init_29 (fun H locs hP hD hS => ?_)
  have hP : va_P G vwCl [(h, .inr (3, [.ref q_1, .ref q_2, .int 0, .ref q_3, .null, .null, .int 0])), (q_1, .inl (cy 0, 6, .inl (fun _ => 0))), (q_2, .inl (cy 0, 6, .inl (fun _ => 0)))] H := hP
  have hD : va_D A [(h, .inr (3, [.ref q_1, .ref q_2, .int 0, .ref q_3, .null, .null, .int 0])), (q_1, .inl (cy 0, 6, .inl (fun _ => 0))), (q_2, .inl (cy 0, 6, .inl (fun _ => 0)))] := hD
  refine lv_aload_n hx hb dX3_init_32 rfl (lv_at hl 0 rfl) ?_
  refine lv_bipush (v := 6) hx hb dX3_init_33 (by decide) ?_
  refine ow_newa (N' := 6) (atype := .int) (ty := .int) (a0 := (6, .inl (fun _ => 0))) hx hb (ht _ k_4) rfl hK hP hD hS hA 0 rfl (fun _ => rfl) (by decide) (by decide +kernel) (by decide) (Nat.le_of_ble_eq_true rfl) (Nat.le_of_ble_eq_true rfl) dX3_init_35 (fun q_4 H hP hD hS => ?_)
  refine va_putF (ci := 3) (v := .ref q_4) (ty := .array (.int)) (C := RX3) (T := TX3) (N := 7) hx hb ht iX3 tyX3 tyX3_ok nmX3 hown hK hP hD hS 0 rfl rfl 4 (by decide) (ht _ k_36) (fun _ h9 => h9) rfl hin rfl (by decide +kernel) rfl rfl (Nat.le_of_ble_eq_true rfl) dX3_init_37 (fun H locs hP hD hS => ?_)
  have hP : va_P G vwCl [(h, .inr (3, [.ref q_1, .ref q_2, .int 0, .ref q_3, .ref q_4, .null, .int 0])), (q_1, .inl (cy 0, 6, .inl (fun _ => 0))), (q_2, .inl (cy 0, 6, .inl (fun _ => 0))), (q_4, .inl (cy 0, 6, .inl (fun _ => 0)))] H := hP
  have hD : va_D A [(h, .inr (3, [.ref q_1, .ref q_2, .int 0, .ref q_3, .ref q_4, .null, .int 0])), (q_1, .inl (cy 0, 6, .inl (fun _ => 0))), (q_2, .inl (cy 0, 6, .inl (fun _ => 0))), (q_4, .inl (cy 0, 6, .inl (fun _ => 0)))] := hD
  refine lv_aload_n hx hb dX3_init_40 rfl (lv_at hl 0 rfl) ?_
  refine lv_bipush (v := 6) hx hb dX3_init_41 (by decide) ?_
  refine ow_newa (N' := 6) (atype := .int) (ty := .int) (a0 := (6, .inl (fun _ => 0))) hx hb (ht _ k_4) rfl hK hP hD hS hA 0 rfl (fun _ => rfl) (by decide) (by decide +kernel) (by decide) (Nat.le_of_ble_eq_true rfl) (Nat.le_of_ble_eq_true rfl) dX3_init_43 (fun q_5 H hP hD hS => ?_)
  refine va_putF (ci := 3) (v := .ref q_5) (ty := .array (.int)) (C := RX3) (T := TX3) (N := 7) hx hb ht iX3 tyX3 tyX3_ok nmX3 hown hK hP hD hS 0 rfl rfl 5 (by decide) (ht _ k_37) (fun _ h9 => h9) rfl hin rfl (by decide +kernel) rfl rfl (Nat.le_of_ble_eq_true rfl) dX3_init_45 (fun H locs hP hD hS => ?_)
  have hP : va_P G vwCl [(h, .inr (3, [.ref q_1, .ref q_2, .int 0, .ref q_3, .ref q_4, .ref q_5, .int 0])), (q_1, .inl (cy 0, 6, .inl (fun _ => 0))), (q_2, .inl (cy 0, 6, .inl (fun _ => 0))), (q_4, .inl (cy 0, 6, .inl (fun _ => 0))), (q_5, .inl (cy 0, 6, .inl (fun _ => 0)))] H := hP
  have hD : va_D A [(h, .inr (3, [.ref q_1, .ref q_2, .int 0, .ref q_3, .ref q_4, .ref q_5, .int 0])), (q_1, .inl (cy 0, 6, .inl (fun _ => 0))), (q_2, .inl (cy 0, 6, .inl (fun _ => 0))), (q_4, .inl (cy 0, 6, .inl (fun _ => 0))), (q_5, .inl (cy 0, 6, .inl (fun _ => 0)))] := hD
  refine W.widen (k := 11) (n := 66) (Nat.le_of_ble_eq_true rfl) (Nat.le_of_ble_eq_true rfl) ?_
  have hP9 : va_P G vwCl [(h, .inr (3, [.ref ((lst [q_1, q_2, q_3, q_4, q_5]) 0), .ref ((lst [q_1, q_2, q_3, q_4, q_5]) 1), .int 0, .ref ((lst [q_1, q_2, q_3, q_4, q_5]) 2), .ref ((lst [q_1, q_2, q_3, q_4, q_5]) 3), .ref ((lst [q_1, q_2, q_3, q_4, q_5]) 4), .int 0])), (((lst [q_1, q_2, q_3, q_4, q_5]) 3), .inl (cy 0, 6, .inl (fun _ => 0))), (((lst [q_1, q_2, q_3, q_4, q_5]) 4), .inl (cy 0, 6, .inl (fun _ => 0)))] _ := hP.sub [0, 3, 4] rfl
  have hD9 : va_D A [(h, .inr (3, [.ref ((lst [q_1, q_2, q_3, q_4, q_5]) 0), .ref ((lst [q_1, q_2, q_3, q_4, q_5]) 1), .int 0, .ref ((lst [q_1, q_2, q_3, q_4, q_5]) 2), .ref ((lst [q_1, q_2, q_3, q_4, q_5]) 3), .ref ((lst [q_1, q_2, q_3, q_4, q_5]) 4), .int 0])), (((lst [q_1, q_2, q_3, q_4, q_5]) 3), .inl (cy 0, 6, .inl (fun _ => 0))), (((lst [q_1, q_2, q_3, q_4, q_5]) 4), .inl (cy 0, 6, .inl (fun _ => 0)))] := hD.sub [0, 3, 4] (by decide) rfl
  exact W.vret hx hb hr (fun t ht9 hW => ⟨⟨(lst [q_1, q_2, q_3, q_4, q_5]), rfl, trivial, ⟨by rw [ht9]; exact hP9, hD9⟩⟩, hS.F ht9⟩) hS.2.2 dX3_init_48
set_option maxHeartbeats 4000000 in
set_option maxRecDepth 100000 in
theorem c_Scene (l : Launch) (G : va_G) (cy : Nat → ClassId) (sz : Nat) (h : Nat)  : Met l yX7_init (.code yX7_init cX7_init 1 none :: TBg) ({ frames := 2, cells := 4, slots := 91, locals := 128 }) (va_Pc [.ref h] (En G cy [(h, .inr (7, [.null, .int 0, .int 0, .null, .int 0]))] sz)) (va_Qv (fun u : Nat → Nat => True) (fun u t => Ex G (va_A [(h, .inr (7, [.null, .int 0, .int 0, .null, .int 0]))] sz) [(h, .inr (7, [.ref (u 0), .int 0, .int 0, .ref (u 1), .int 0])), ((u 0), .inr (8, [.ref (u 2), .ref (u 3), .int 0])), ((u 2), .inl (cy 0, 40, .inl (fun _ => 0))), ((u 3), .inl (cy 0, 40, .inl (fun _ => 0))), ((u 1), .inl (cy 0, 8, .inl (fun _ => 0)))] t) (va_A [(h, .inr (7, [.null, .int 0, .int 0, .null, .int 0]))] sz)) 4 91 (va_A [(h, .inr (7, [.null, .int 0, .int 0, .null, .int 0]))] sz) := by
  refine Met.ofW (cc := cX7_init) (maxL := 1) (ret := none) (by decide) rfl ?_
  intro p e s m args below meth c s₁ B hml hv
  obtain ⟨rfl, hsz, hP, hK, hD0, hN⟩ := hv
  have hx := B.exec
  have hb := B.bytes
  have hr := B.returns
  have hts := atoms_spec (ws := .code yX7_init cX7_init 1 none :: TBg) B.pre
  have ht : ∀ w ∈ TBg, w.before _ s = true := fun w h => hts w (List.mem_cons_of_mem _ h)
  have hown : s.vm.findClass RX7 = some m.cls := findClass_of_methodNamed B.named
  have hlocks := B.notSynchronized
  have hin : meth.name = "<init>" := (name_of_methodNamed B.named B.method).1
  subst hsz
  have hD := hD0.self (sz := s.heap.size)
  generalize hAe : va_A [(h, .inr (7, [.null, .int 0, .int 0, .null, .int 0]))] s.heap.size = A at hD ⊢
  have hA : ∀ q : Nat, s.heap.size ≤ q → A q := fun q h => by rw [← hAe]; exact Or.inr h
  have hS : va_S A s.heap s.heap [] := va_S.rf
  have hl := lv_entry ([.ref h]) (n := 1) (Nat.le_of_ble_eq_true rfl)
  rw [lg_entry_eq]
  generalize (lg_sl ([.ref h]) ++ List.replicate (1 - (lg_sl ([.ref h])).length) Slot.unset).toArray = ls at hl ⊢
  have hl : lv_has ls 1 [(0, .ref h)] := hl
  refine lv_aload_n hx hb dX7_init_0 rfl (lv_at hl 0 rfl) ?_
  refine W.objInit hx hb hown (ht _ k_38) (ht _ k_1) (ht _ k_2) rfl (by rw [hml]; exact hl.1) rfl dX7_init_1 (Nat.le_of_ble_eq_true rfl) (Nat.le_of_ble_eq_true rfl) ?_
  refine W.eq (g2 := F0 m 4 ls []) rfl ?_
  refine lv_aload_n hx hb dX7_init_4 rfl (lv_at hl 0 rfl) ?_
  refine va_new (ci := 8) (fs := [.null, .null, .int 0]) (C := RX8) (T := TX8) (N := 3) hx hb ht iX8 tyX8 tyX8_ok hown (ht _ k_39) (ht _ k_40) (ht _ k_41) hK hP hD hS hA rfl df8 (Nat.le_of_ble_eq_true rfl) (Nat.le_of_ble_eq_true rfl) dX7_init_5 (fun q_1 H hP hD hS => ?_)
  refine lv_dup hx hb dX7_init_8 rfl ?_
  refine lv_bipush (v := 40) hx hb dX7_init_9 (by decide) ?_
  have hFc := fr_lastF hD hS hA
  have hPc := fr_lastP hP
  refine va_callv (va_runI (As := [.int 40]) (rest := [.ref q_1, .ref h]) ⟨hx, hb, hml, hown, ht⟩ (c_Song40 l G cy _ q_1 ) (cwI 1 ht (gc k_42) rfl rfl rfl (ht _ k_41) (ht _ k_43) (ht _ k_44) rfl (by decide +kernel) ⟨Nat.le_of_ble_eq_true rfl, Nat.le_of_ble_eq_true rfl⟩) ⟨En.blind, fun U hU hW => ⟨rfl, En.of hU hW hPc hK (fr_lastD (ws := [])) hN⟩⟩ rfl rfl hl.1 rfl (lv_room (Nat.le_of_ble_eq_true rfl)) dX7_init_11 ⟨Nat.le_of_ble_eq_true rfl, Nat.le_of_ble_eq_true rfl⟩) hS (fun q _ h => hFc q h) hFc (fun u_2 t H locs ht9 hvm hw hB hz1 hk1 hS => ?_)
  obtain ⟨hP1, hD1⟩ := hB
  rw [ht9] at hP1
  obtain ⟨hP, hD⟩ := fr_last hP hD hFc hk1 hP1 hD1
  clear hFc hPc hP1 hD1 hz1 hk1
  have hP : va_P G vwCl [(h, .inr (7, [.null, .int 0, .int 0, .null, .int 0])), (q_1, .inr (8, [.ref (u_2 0), .ref (u_2 1), .int 0])), ((u_2 0), .inl (cy 0, 40, .inl (fun _ => 0))), ((u_2 1), .inl (cy 0, 40, .inl (fun _ => 0)))] H := hP
  have hD : va_D A [(h, .inr (7, [.null, .int 0, .int 0, .null, .int 0])), (q_1, .inr (8, [.ref (u_2 0), .ref (u_2 1), .int 0])), ((u_2 0), .inl (cy 0, 40, .inl (fun _ => 0))), ((u_2 1), .inl (cy 0, 40, .inl (fun _ => 0)))] := hD
  refine va_putF (ci := 7) (v := .ref q_1) (ty := .object "TuneLocks$Song") (C := RX7) (T := TX7) (N := 5) hx hb ht iX7 tyX7 tyX7_ok nmX7 hown hK hP hD hS 0 rfl rfl 0 (by decide) (ht _ k_45) (fun _ h9 => h9) rfl hin rfl (by decide +kernel) rfl rfl (Nat.le_of_ble_eq_true rfl) dX7_init_14 (fun H locs hP hD hS => ?_)
  have hP : va_P G vwCl [(h, .inr (7, [.ref q_1, .int 0, .int 0, .null, .int 0])), (q_1, .inr (8, [.ref (u_2 0), .ref (u_2 1), .int 0])), ((u_2 0), .inl (cy 0, 40, .inl (fun _ => 0))), ((u_2 1), .inl (cy 0, 40, .inl (fun _ => 0)))] H := hP
  have hD : va_D A [(h, .inr (7, [.ref q_1, .int 0, .int 0, .null, .int 0])), (q_1, .inr (8, [.ref (u_2 0), .ref (u_2 1), .int 0])), ((u_2 0), .inl (cy 0, 40, .inl (fun _ => 0))), ((u_2 1), .inl (cy 0, 40, .inl (fun _ => 0)))] := hD
  refine lv_aload_n hx hb dX7_init_17 rfl (lv_at hl 0 rfl) ?_
  refine lv_bipush (v := 8) hx hb dX7_init_18 (by decide) ?_
  refine ow_newa (N' := 8) (atype := .int) (ty := .int) (a0 := (8, .inl (fun _ => 0))) hx hb (ht _ k_4) rfl hK hP hD hS hA 0 rfl (fun _ => rfl) (by decide) (by decide +kernel) (by decide) (Nat.le_of_ble_eq_true rfl) (Nat.le_of_ble_eq_true rfl) dX7_init_20 (fun q_3 H hP hD hS => ?_)
  refine va_putF (ci := 7) (v := .ref q_3) (ty := .array (.int)) (C := RX7) (T := TX7) (N := 5) hx hb ht iX7 tyX7 tyX7_ok nmX7 hown hK hP hD hS 0 rfl rfl 3 (by decide) (ht _ k_46) (fun _ h9 => h9) rfl hin rfl (by decide +kernel) rfl rfl (Nat.le_of_ble_eq_true rfl) dX7_init_22 (fun H locs hP hD hS => ?_)
  have hP : va_P G vwCl [(h, .inr (7, [.ref q_1, .int 0, .int 0, .ref q_3, .int 0])), (q_1, .inr (8, [.ref (u_2 0), .ref (u_2 1), .int 0])), ((u_2 0), .inl (cy 0, 40, .inl (fun _ => 0))), ((u_2 1), .inl (cy 0, 40, .inl (fun _ => 0))), (q_3, .inl (cy 0, 8, .inl (fun _ => 0)))] H := hP
  have hD : va_D A [(h, .inr (7, [.ref q_1, .int 0, .int 0, .ref q_3, .int 0])), (q_1, .inr (8, [.ref (u_2 0), .ref (u_2 1), .int 0])), ((u_2 0), .inl (cy 0, 40, .inl (fun _ => 0))), ((u_2 1), .inl (cy 0, 40, .inl (fun _ => 0))), (q_3, .inl (cy 0, 8, .inl (fun _ => 0)))] := hD
  refine W.widen (k := 4) (n := 91) (Nat.le_of_ble_eq_true rfl) (Nat.le_of_ble_eq_true rfl) ?_
  have hP9 : va_P G vwCl [(h, .inr (7, [.ref ((lst [q_1, q_3, (u_2 0), (u_2 1)]) 0), .int 0, .int 0, .ref ((lst [q_1, q_3, (u_2 0), (u_2 1)]) 1), .int 0])), (((lst [q_1, q_3, (u_2 0), (u_2 1)]) 0), .inr (8, [.ref ((lst [q_1, q_3, (u_2 0), (u_2 1)]) 2), .ref ((lst [q_1, q_3, (u_2 0), (u_2 1)]) 3), .int 0])), (((lst [q_1, q_3, (u_2 0), (u_2 1)]) 2), .inl (cy 0, 40, .inl (fun _ => 0))), (((lst [q_1, q_3, (u_2 0), (u_2 1)]) 3), .inl (cy 0, 40, .inl (fun _ => 0))), (((lst [q_1, q_3, (u_2 0), (u_2 1)]) 1), .inl (cy 0, 8, .inl (fun _ => 0)))] _ := hP.sub [0, 1, 2, 3, 4] rfl
  have hD9 : va_D A [(h, .inr (7, [.ref ((lst [q_1, q_3, (u_2 0), (u_2 1)]) 0), .int 0, .int 0, .ref ((lst [q_1, q_3, (u_2 0), (u_2 1)]) 1), .int 0])), (((lst [q_1, q_3, (u_2 0), (u_2 1)]) 0), .inr (8, [.ref ((lst [q_1, q_3, (u_2 0), (u_2 1)]) 2), .ref ((lst [q_1, q_3, (u_2 0), (u_2 1)]) 3), .int 0])), (((lst [q_1, q_3, (u_2 0), (u_2 1)]) 2), .inl (cy 0, 40, .inl (fun _ => 0))), (((lst [q_1, q_3, (u_2 0), (u_2 1)]) 3), .inl (cy 0, 40, .inl (fun _ => 0))), (((lst [q_1, q_3, (u_2 0), (u_2 1)]) 1), .inl (cy 0, 8, .inl (fun _ => 0)))] := hD.sub [0, 1, 2, 3, 4] (by decide) rfl
  exact W.vret hx hb hr (fun t ht9 hW => ⟨⟨(lst [q_1, q_3, (u_2 0), (u_2 1)]), rfl, trivial, ⟨by rw [ht9]; exact hP9, hD9⟩⟩, hS.F ht9⟩) hS.2.2 dX7_init_25
set_option maxHeartbeats 4000000 in
set_option maxRecDepth 100000 in
theorem c_hasTune (l : Launch) (G : va_G) (cy : Nat → ClassId) (sz : Nat) (h : Nat) (t : Int32) (v0 : Value) (v1 : Value) (v2 : Value) (v4 : Value) (v5 : Value) (v6 : Value) (v7 : Value) (v8 : Value)  : Met l yX9_hasTune (.code yX9_hasTune cX9_hasTune 2 (some .boolean) :: TBg) ({ frames := 1, cells := 0, slots := 0, locals := 64 }) (va_Pc [.ref h, .int t] (En G cy [(h, .inr (9, [v0, v1, v2, .int 0, v4, v5, v6, v7, v8]))] sz)) (va_Qi (fun (r : Int32) (_ : Unit) => r = 0 ∧ True) (fun _ _ => True) (va_A [] sz)) 0 0 (va_A [] sz) := by
  refine Met.ofW (cc := cX9_hasTune) (maxL := 2) (ret := (some .boolean)) (by decide) rfl ?_
  intro p e s m args below meth c s₁ B hml hv
  obtain ⟨rfl, hsz, hP, hK, hD0, hN⟩ := hv
  have hx := B.exec
  have hb := B.bytes
  have hr := B.returns
  have hts := atoms_spec (ws := .code yX9_hasTune cX9_hasTune 2 (some .boolean) :: TBg) B.pre
  have ht : ∀ w ∈ TBg, w.before _ s = true := fun w h => hts w (List.mem_cons_of_mem _ h)
  have hown : s.vm.findClass RX9 = some m.cls := findClass_of_methodNamed B.named
  have hlocks := B.notSynchronized
  subst hsz
  generalize hAe : va_A [] s.heap.size = A at ⊢
  have hA : ∀ q : Nat, s.heap.size ≤ q → A q := fun q h => by rw [← hAe]; exact Or.inr h
  have hS : va_S A s.heap s.heap [] := va_S.rf
  have hl := lv_entry ([.ref h, .int t]) (n := 2) (Nat.le_of_ble_eq_true rfl)
  rw [lg_entry_eq]
  generalize (lg_sl ([.ref h, .int t]) ++ List.replicate (2 - (lg_sl ([.ref h, .int t])).length) Slot.unset).toArray = ls at hl ⊢
  have hl : lv_has ls 2 [(0, .ref h), (1, .int t)] := hl
  refine lv_iload_n hx hb dX9_hasTune_0 rfl (lv_at hl 1 rfl) ?_
  refine lv_if_lt (tgt := 16) hx hb dX9_hasTune_1 (by decide) (fun c_1 => ?_) (fun c_1 => ?_)
  · skip
    refine lv_iconst (v := 0) hx hb dX9_hasTune_16 (by decide) ?_
    refine W.widen (k := 0) (n := 0) (Nat.le_of_ble_eq_true rfl) (Nat.le_of_ble_eq_true rfl) ?_
    exact W.zret (v := 0) hx hb hr (by first | rfl | decide) (fun t ht9 hW => ⟨⟨0, (), rfl, ⟨rfl, trivial⟩, trivial⟩, hS.F ht9⟩) hS.2.2 dX9_hasTune_17
  · skip
    refine lv_iload_n hx hb dX9_hasTune_4 rfl (lv_at hl 1 rfl) ?_
    refine lv_aload_n hx hb dX9_hasTune_5 rfl (lv_at hl 0 rfl) ?_
    refine va_get (ci := 9) (v := .int 0) (C := RX9) (T := TX9) (N := 9) hx hb ht iX9 hown hK hP 0 rfl rfl 3 (by decide) (ht _ k_47) (fun _ h9 => h9) rfl dX9_hasTune_6 ?_
    refine lv_icmp_ge (tgt := 16) hx hb dX9_hasTune_9 (by decide) (fun c_2 => ?_) (fun c_2 => ?_)
    · skip
      refine lv_iconst (v := 0) hx hb dX9_hasTune_16 (by decide) ?_
      refine W.widen (k := 0) (n := 0) (Nat.le_of_ble_eq_true rfl) (Nat.le_of_ble_eq_true rfl) ?_
      exact W.zret (v := 0) hx hb hr (by first | rfl | decide) (fun t ht9 hW => ⟨⟨0, (), rfl, ⟨rfl, trivial⟩, trivial⟩, hS.F ht9⟩) hS.2.2 dX9_hasTune_17
    · exfalso
      have z0 : (0 : Int32).toInt = 0 := (by decide); (try simp only [ow_lt, ow_le, ow_eq] at c_1 c_2); omega
end
section
set_option maxHeartbeats 4000000 in
set_option maxRecDepth 100000 in
theorem c_Town (l : Launch) (G : va_G) (cy : Nat → ClassId) (sz : Nat) (h : Nat)  : Met l yX9_init (.code yX9_init cX9_init 2 none :: TBg) ({ frames := 2, cells := 129, slots := 2488, locals := 128 }) (va_Pc [.ref h] (En G cy [(h, .inr (9, [.null, .null, .null, .int 0, .null, .int 0, .null, .int 0, .null]))] sz)) (va_Qv (fun u : Nat → Nat => True) (fun u t => Ex G (va_A [(h, .inr (9, [.null, .null, .null, .int 0, .null, .int 0, .null, .int 0, .null]))] sz) [(h, .inr (9, [.ref (u 0), .ref (u 1), .ref (u 2), .int 0, .ref (u 3), .int 0, .ref (u 4), .int 0, .ref (u 5)])), ((u 4), .inr (5, [.ref (u 6), .ref (u 7), .int 0, .ref (u 8), .int 0])), ((u 5), .inl (cy 2, 12, .inl (fun _ => 0)))] t) (va_A [(h, .inr (9, [.null, .null, .null, .int 0, .null, .int 0, .null, .int 0, .null]))] sz)) 129 2488 (va_A [(h, .inr (9, [.null, .null, .null, .int 0, .null, .int 0, .null, .int 0, .null]))] sz) := by
  refine Met.ofW (cc := cX9_init) (maxL := 2) (ret := none) (by decide) rfl ?_
  intro p e s m args below meth c s₁ B hml hv
  obtain ⟨rfl, hsz, hP, hK, hD0, hN⟩ := hv
  have hx := B.exec
  have hb := B.bytes
  have hr := B.returns
  have hts := atoms_spec (ws := .code yX9_init cX9_init 2 none :: TBg) B.pre
  have ht : ∀ w ∈ TBg, w.before _ s = true := fun w h => hts w (List.mem_cons_of_mem _ h)
  have hown : s.vm.findClass RX9 = some m.cls := findClass_of_methodNamed B.named
  have hlocks := B.notSynchronized
  have hin : meth.name = "<init>" := (name_of_methodNamed B.named B.method).1
  subst hsz
  have hD := hD0.self (sz := s.heap.size)
  generalize hAe : va_A [(h, .inr (9, [.null, .null, .null, .int 0, .null, .int 0, .null, .int 0, .null]))] s.heap.size = A at hD ⊢
  have hA : ∀ q : Nat, s.heap.size ≤ q → A q := fun q h => by rw [← hAe]; exact Or.inr h
  have hS : va_S A s.heap s.heap [] := va_S.rf
  have hl := lv_entry ([.ref h]) (n := 2) (Nat.le_of_ble_eq_true rfl)
  rw [lg_entry_eq]
  generalize (lg_sl ([.ref h]) ++ List.replicate (2 - (lg_sl ([.ref h])).length) Slot.unset).toArray = ls at hl ⊢
  have hl : lv_has ls 2 [(0, .ref h)] := hl
  refine lv_aload_n hx hb dX9_init_0 rfl (lv_at hl 0 rfl) ?_
  refine W.objInit hx hb hown (ht _ k_48) (ht _ k_1) (ht _ k_2) rfl (by rw [hml]; exact hl.1) rfl dX9_init_1 (Nat.le_of_ble_eq_true rfl) (Nat.le_of_ble_eq_true rfl) ?_
  refine W.eq (g2 := F0 m 4 ls []) rfl ?_
  refine lv_aload_n hx hb dX9_init_4 rfl (lv_at hl 0 rfl) ?_
  refine lv_bipush (v := 14) hx hb dX9_init_5 (by decide) ?_
  refine ow_newq (N' := 14) (C := "TuneLocks$Song") hx hb hown (ht _ k_49) hN.2.1 hK hP hD hS hA 4 rfl (by decide) (by decide +kernel) (by decide) (Nat.le_of_ble_eq_true rfl) (Nat.le_of_ble_eq_true rfl) dX9_init_7 (fun q_1 H hP hD hS => ?_)
  refine va_putF (ci := 9) (v := .ref q_1) (ty := .array (.object "TuneLocks$Song")) (C := RX9) (T := TX9) (N := 9) hx hb ht iX9 tyX9 tyX9_ok nmX9 hown hK hP hD hS 0 rfl rfl 0 (by decide) (ht _ k_50) (fun _ h9 => h9) rfl hin rfl (by decide +kernel) rfl rfl (Nat.le_of_ble_eq_true rfl) dX9_init_10 (fun H locs hP hD hS => ?_)
  have hP : va_P G vwCl [(h, .inr (9, [.ref q_1, .null, .null, .int 0, .null, .int 0, .null, .int 0, .null])), (q_1, .inl (cy 4, 14, .inr (.inr (.inr (.inr (fun _ => none))))))] H := hP
  have hD : va_D A [(h, .inr (9, [.ref q_1, .null, .null, .int 0, .null, .int 0, .null, .int 0, .null])), (q_1, .inl (cy 4, 14, .inr (.inr (.inr (.inr (fun _ => none))))))] := hD
  refine lv_aload_n hx hb dX9_init_13 rfl (lv_at hl 0 rfl) ?_
  refine lv_bipush (v := 14) hx hb dX9_init_14 (by decide) ?_
  refine ow_newa (N' := 14) (atype := .long) (ty := .long) (a0 := (14, .inr (.inl (fun _ => 0)))) hx hb (ht _ k_51) rfl hK hP hD hS hA 3 rfl (fun _ => rfl) (by decide) (by decide +kernel) (by decide) (Nat.le_of_ble_eq_true rfl) (Nat.le_of_ble_eq_true rfl) dX9_init_16 (fun q_2 H hP hD hS => ?_)
  refine va_putF (ci := 9) (v := .ref q_2) (ty := .array (.long)) (C := RX9) (T := TX9) (N := 9) hx hb ht iX9 tyX9 tyX9_ok nmX9 hown hK hP hD hS 0 rfl rfl 1 (by decide) (ht _ k_52) (fun _ h9 => h9) rfl hin rfl (by decide +kernel) rfl rfl (Nat.le_of_ble_eq_true rfl) dX9_init_18 (fun H locs hP hD hS => ?_)
  have hP : va_P G vwCl [(h, .inr (9, [.ref q_1, .ref q_2, .null, .int 0, .null, .int 0, .null, .int 0, .null])), (q_1, .inl (cy 4, 14, .inr (.inr (.inr (.inr (fun _ => none)))))), (q_2, .inl (cy 3, 14, .inr (.inl (fun _ => 0))))] H := hP
  have hD : va_D A [(h, .inr (9, [.ref q_1, .ref q_2, .null, .int 0, .null, .int 0, .null, .int 0, .null])), (q_1, .inl (cy 4, 14, .inr (.inr (.inr (.inr (fun _ => none)))))), (q_2, .inl (cy 3, 14, .inr (.inl (fun _ => 0))))] := hD
  refine lv_aload_n hx hb dX9_init_21 rfl (lv_at hl 0 rfl) ?_
  refine lv_bipush (v := 14) hx hb dX9_init_22 (by decide) ?_
  refine ow_newq (N' := 14) (C := "TuneLocks$Hearing") hx hb hown (ht _ k_53) hN.2.2.1 hK hP hD hS hA 5 rfl (by decide) (by decide +kernel) (by decide) (Nat.le_of_ble_eq_true rfl) (Nat.le_of_ble_eq_true rfl) dX9_init_24 (fun q_3 H hP hD hS => ?_)
  refine va_putF (ci := 9) (v := .ref q_3) (ty := .array (.object "TuneLocks$Hearing")) (C := RX9) (T := TX9) (N := 9) hx hb ht iX9 tyX9 tyX9_ok nmX9 hown hK hP hD hS 0 rfl rfl 2 (by decide) (ht _ k_54) (fun _ h9 => h9) rfl hin rfl (by decide +kernel) rfl rfl (Nat.le_of_ble_eq_true rfl) dX9_init_27 (fun H locs hP hD hS => ?_)
  have hP : va_P G vwCl [(h, .inr (9, [.ref q_1, .ref q_2, .ref q_3, .int 0, .null, .int 0, .null, .int 0, .null])), (q_1, .inl (cy 4, 14, .inr (.inr (.inr (.inr (fun _ => none)))))), (q_2, .inl (cy 3, 14, .inr (.inl (fun _ => 0)))), (q_3, .inl (cy 5, 14, .inr (.inr (.inr (.inr (fun _ => none))))))] H := hP
  have hD : va_D A [(h, .inr (9, [.ref q_1, .ref q_2, .ref q_3, .int 0, .null, .int 0, .null, .int 0, .null])), (q_1, .inl (cy 4, 14, .inr (.inr (.inr (.inr (fun _ => none)))))), (q_2, .inl (cy 3, 14, .inr (.inl (fun _ => 0)))), (q_3, .inl (cy 5, 14, .inr (.inr (.inr (.inr (fun _ => none))))))] := hD
  refine lv_aload_n hx hb dX9_init_30 rfl (lv_at hl 0 rfl) ?_
  refine lv_bipush (v := 8) hx hb dX9_init_31 (by decide) ?_
  refine ow_newq (N' := 8) (C := "TuneLocks$Lock") hx hb hown (ht _ k_55) hN.2.2.2.1 hK hP hD hS hA 6 rfl (by decide) (by decide +kernel) (by decide) (Nat.le_of_ble_eq_true rfl) (Nat.le_of_ble_eq_true rfl) dX9_init_33 (fun q_4 H hP hD hS => ?_)
  refine va_putF (ci := 9) (v := .ref q_4) (ty := .array (.object "TuneLocks$Lock")) (C := RX9) (T := TX9) (N := 9) hx hb ht iX9 tyX9 tyX9_ok nmX9 hown hK hP hD hS 0 rfl rfl 4 (by decide) (ht _ k_56) (fun _ h9 => h9) rfl hin rfl (by decide +kernel) rfl rfl (Nat.le_of_ble_eq_true rfl) dX9_init_36 (fun H locs hP hD hS => ?_)
  have hP : va_P G vwCl [(h, .inr (9, [.ref q_1, .ref q_2, .ref q_3, .int 0, .ref q_4, .int 0, .null, .int 0, .null])), (q_1, .inl (cy 4, 14, .inr (.inr (.inr (.inr (fun _ => none)))))), (q_2, .inl (cy 3, 14, .inr (.inl (fun _ => 0)))), (q_3, .inl (cy 5, 14, .inr (.inr (.inr (.inr (fun _ => none)))))), (q_4, .inl (cy 6, 8, .inr (.inr (.inr (.inr (fun _ => none))))))] H := hP
  have hD : va_D A [(h, .inr (9, [.ref q_1, .ref q_2, .ref q_3, .int 0, .ref q_4, .int 0, .null, .int 0, .null])), (q_1, .inl (cy 4, 14, .inr (.inr (.inr (.inr (fun _ => none)))))), (q_2, .inl (cy 3, 14, .inr (.inl (fun _ => 0)))), (q_3, .inl (cy 5, 14, .inr (.inr (.inr (.inr (fun _ => none)))))), (q_4, .inl (cy 6, 8, .inr (.inr (.inr (.inr (fun _ => none))))))] := hD
  refine lv_aload_n hx hb dX9_init_39 rfl (lv_at hl 0 rfl) ?_
  refine va_new (ci := 5) (fs := [.null, .null, .int 0, .null, .int 0]) (C := RX5) (T := TX5) (N := 5) hx hb ht iX5 tyX5 tyX5_ok hown (ht _ k_57) (ht _ k_58) (ht _ k_59) hK hP hD hS hA rfl df5 (Nat.le_of_ble_eq_true rfl) (Nat.le_of_ble_eq_true rfl) dX9_init_40 (fun q_5 H hP hD hS => ?_)
  refine lv_dup hx hb dX9_init_43 rfl ?_
  have hFc := fr_lastF hD hS hA
  have hPc := fr_lastP hP
  refine va_callv (va_runIN (As := []) (rest := [.ref q_5, .ref h]) ⟨hx, hb, hml, hown, ht⟩ (c_Questions l G cy _ q_5 ) ⟨va_cnB (host := "TuneLocks") 0 ht (gc k_60) rfl rfl rfl (hN.1 _ ns_65) (ht _ k_59) (by decide +kernel) ⟨Nat.le_of_ble_eq_true rfl, Nat.le_of_ble_eq_true rfl⟩, rfl, ht _ k_61⟩ ⟨En.blind, fun U hU hW => ⟨rfl, En.of hU hW hPc hK (fr_lastD (ws := [])) hN⟩⟩ rfl rfl hl.1 rfl (lv_room (Nat.le_of_ble_eq_true rfl)) dX9_init_44 ⟨Nat.le_of_ble_eq_true rfl, Nat.le_of_ble_eq_true rfl⟩) hS (fun q _ h => hFc q h) hFc (fun u_6 t H locs ht9 hvm hw hB hz1 hk1 hS => ?_)
  obtain ⟨hP1, hD1⟩ := hB
  rw [ht9] at hP1
  obtain ⟨hP, hD⟩ := fr_last hP hD hFc hk1 hP1 hD1
  clear hFc hPc hP1 hD1 hz1 hk1
  have hP : va_P G vwCl [(h, .inr (9, [.ref q_1, .ref q_2, .ref q_3, .int 0, .ref q_4, .int 0, .null, .int 0, .null])), (q_1, .inl (cy 4, 14, .inr (.inr (.inr (.inr (fun _ => none)))))), (q_2, .inl (cy 3, 14, .inr (.inl (fun _ => 0)))), (q_3, .inl (cy 5, 14, .inr (.inr (.inr (.inr (fun _ => none)))))), (q_4, .inl (cy 6, 8, .inr (.inr (.inr (.inr (fun _ => none)))))), (q_5, .inr (5, [.ref (u_6 0), .ref (u_6 1), .int 0, .ref (u_6 2), .int 0]))] H := hP
  have hD : va_D A [(h, .inr (9, [.ref q_1, .ref q_2, .ref q_3, .int 0, .ref q_4, .int 0, .null, .int 0, .null])), (q_1, .inl (cy 4, 14, .inr (.inr (.inr (.inr (fun _ => none)))))), (q_2, .inl (cy 3, 14, .inr (.inl (fun _ => 0)))), (q_3, .inl (cy 5, 14, .inr (.inr (.inr (.inr (fun _ => none)))))), (q_4, .inl (cy 6, 8, .inr (.inr (.inr (.inr (fun _ => none)))))), (q_5, .inr (5, [.ref (u_6 0), .ref (u_6 1), .int 0, .ref (u_6 2), .int 0]))] := hD
  refine va_putF (ci := 9) (v := .ref q_5) (ty := .object "TuneLocks$Questions") (C := RX9) (T := TX9) (N := 9) hx hb ht iX9 tyX9 tyX9_ok nmX9 hown hK hP hD hS 0 rfl rfl 6 (by decide) (ht _ k_62) (fun _ h9 => h9) rfl hin rfl (by decide +kernel) rfl rfl (Nat.le_of_ble_eq_true rfl) dX9_init_47 (fun H locs hP hD hS => ?_)
  have hP : va_P G vwCl [(h, .inr (9, [.ref q_1, .ref q_2, .ref q_3, .int 0, .ref q_4, .int 0, .ref q_5, .int 0, .null])), (q_1, .inl (cy 4, 14, .inr (.inr (.inr (.inr (fun _ => none)))))), (q_2, .inl (cy 3, 14, .inr (.inl (fun _ => 0)))), (q_3, .inl (cy 5, 14, .inr (.inr (.inr (.inr (fun _ => none)))))), (q_4, .inl (cy 6, 8, .inr (.inr (.inr (.inr (fun _ => none)))))), (q_5, .inr (5, [.ref (u_6 0), .ref (u_6 1), .int 0, .ref (u_6 2), .int 0]))] H := hP
  have hD : va_D A [(h, .inr (9, [.ref q_1, .ref q_2, .ref q_3, .int 0, .ref q_4, .int 0, .ref q_5, .int 0, .null])), (q_1, .inl (cy 4, 14, .inr (.inr (.inr (.inr (fun _ => none)))))), (q_2, .inl (cy 3, 14, .inr (.inl (fun _ => 0)))), (q_3, .inl (cy 5, 14, .inr (.inr (.inr (.inr (fun _ => none)))))), (q_4, .inl (cy 6, 8, .inr (.inr (.inr (.inr (fun _ => none)))))), (q_5, .inr (5, [.ref (u_6 0), .ref (u_6 1), .int 0, .ref (u_6 2), .int 0]))] := hD
  refine lv_aload_n hx hb dX9_init_50 rfl (lv_at hl 0 rfl) ?_
  refine lv_bipush (v := 12) hx hb dX9_init_51 (by decide) ?_
  refine ow_newa (N' := 12) (atype := .boolean) (ty := .boolean) (a0 := (12, .inl (fun _ => 0))) hx hb (ht _ k_19) rfl hK hP hD hS hA 2 rfl (fun _ => rfl) (by decide) (by decide +kernel) (by decide) (Nat.le_of_ble_eq_true rfl) (Nat.le_of_ble_eq_true rfl) dX9_init_53 (fun q_7 H hP hD hS => ?_)
  refine va_putF (ci := 9) (v := .ref q_7) (ty := .array (.boolean)) (C := RX9) (T := TX9) (N := 9) hx hb ht iX9 tyX9 tyX9_ok nmX9 hown hK hP hD hS 0 rfl rfl 8 (by decide) (ht _ k_63) (fun _ h9 => h9) rfl hin rfl (by decide +kernel) rfl rfl (Nat.le_of_ble_eq_true rfl) dX9_init_55 (fun H locs hP hD hS => ?_)
  have hP : va_P G vwCl [(h, .inr (9, [.ref q_1, .ref q_2, .ref q_3, .int 0, .ref q_4, .int 0, .ref q_5, .int 0, .ref q_7])), (q_1, .inl (cy 4, 14, .inr (.inr (.inr (.inr (fun _ => none)))))), (q_2, .inl (cy 3, 14, .inr (.inl (fun _ => 0)))), (q_3, .inl (cy 5, 14, .inr (.inr (.inr (.inr (fun _ => none)))))), (q_4, .inl (cy 6, 8, .inr (.inr (.inr (.inr (fun _ => none)))))), (q_5, .inr (5, [.ref (u_6 0), .ref (u_6 1), .int 0, .ref (u_6 2), .int 0])), (q_7, .inl (cy 2, 12, .inl (fun _ => 0)))] H := hP
  have hD : va_D A [(h, .inr (9, [.ref q_1, .ref q_2, .ref q_3, .int 0, .ref q_4, .int 0, .ref q_5, .int 0, .ref q_7])), (q_1, .inl (cy 4, 14, .inr (.inr (.inr (.inr (fun _ => none)))))), (q_2, .inl (cy 3, 14, .inr (.inl (fun _ => 0)))), (q_3, .inl (cy 5, 14, .inr (.inr (.inr (.inr (fun _ => none)))))), (q_4, .inl (cy 6, 8, .inr (.inr (.inr (.inr (fun _ => none)))))), (q_5, .inr (5, [.ref (u_6 0), .ref (u_6 1), .int 0, .ref (u_6 2), .int 0])), (q_7, .inl (cy 2, 12, .inl (fun _ => 0)))] := hD
  refine lv_iconst (v := 0) hx hb dX9_init_58 (by decide) ?_
  refine lv_istore_n (lv' := [(1, .int 0), (0, .ref h)]) hx hb dX9_init_59 rfl hl (by decide) rfl (fun ls hl => ?_)
  refine lv_iload_n hx hb dX9_init_60 rfl (lv_at hl 0 rfl) ?_
  refine lv_bipush (v := 14) hx hb dX9_init_61 (by decide) ?_
  refine lv_icmp_ge (tgt := 100) hx hb dX9_init_63 (by decide) (fun c9 => absurd c9 (by decide)) (fun _ => ?_)
  refine lv_aload_n hx hb dX9_init_66 rfl (lv_at hl 1 rfl) ?_
  refine va_get (ci := 9) (v := .ref q_1) (C := RX9) (T := TX9) (N := 9) hx hb ht iX9 hown hK hP 0 rfl rfl 0 (by decide) (ht _ k_50) (fun _ h9 => h9) rfl dX9_init_67 ?_
  refine lv_iload_n hx hb dX9_init_70 rfl (lv_at hl 0 rfl) ?_
  refine va_new (ci := 8) (fs := [.null, .null, .int 0]) (C := RX8) (T := TX8) (N := 3) hx hb ht iX8 tyX8 tyX8_ok hown (ht _ k_49) (ht _ k_40) (ht _ k_41) hK hP hD hS hA rfl df8 (Nat.le_of_ble_eq_true rfl) (Nat.le_of_ble_eq_true rfl) dX9_init_71 (fun q_8 H hP hD hS => ?_)
  refine lv_dup hx hb dX9_init_74 rfl ?_
  refine lv_bipush (v := 12) hx hb dX9_init_75 (by decide) ?_
  have hFc := fr_lastF hD hS hA
  have hPc := fr_lastP hP
  refine va_callv (va_runI (As := [.int 12]) (rest := [.ref q_8, .int 0, .ref q_1]) ⟨hx, hb, hml, hown, ht⟩ (c_Song12 l G cy _ q_8 ) (cwI 1 ht (gc k_42) rfl rfl rfl (ht _ k_41) (ht _ k_64) (ht _ k_44) rfl (by decide +kernel) ⟨Nat.le_of_ble_eq_true rfl, Nat.le_of_ble_eq_true rfl⟩) ⟨En.blind, fun U hU hW => ⟨rfl, En.of hU hW hPc hK (fr_lastD (ws := [])) hN⟩⟩ rfl rfl hl.1 rfl (lv_room (Nat.le_of_ble_eq_true rfl)) dX9_init_77 ⟨Nat.le_of_ble_eq_true rfl, Nat.le_of_ble_eq_true rfl⟩) hS (fun q _ h => hFc q h) hFc (fun u_9 t H locs ht9 hvm hw hB hz1 hk1 hS => ?_)
  obtain ⟨hP1, hD1⟩ := hB
  rw [ht9] at hP1
  obtain ⟨hP, hD⟩ := fr_last hP hD hFc hk1 hP1 hD1
  clear hFc hPc hP1 hD1 hz1 hk1
  have hP : va_P G vwCl [(h, .inr (9, [.ref q_1, .ref q_2, .ref q_3, .int 0, .ref q_4, .int 0, .ref q_5, .int 0, .ref q_7])), (q_1, .inl (cy 4, 14, .inr (.inr (.inr (.inr (fun _ => none)))))), (q_2, .inl (cy 3, 14, .inr (.inl (fun _ => 0)))), (q_3, .inl (cy 5, 14, .inr (.inr (.inr (.inr (fun _ => none)))))), (q_4, .inl (cy 6, 8, .inr (.inr (.inr (.inr (fun _ => none)))))), (q_5, .inr (5, [.ref (u_6 0), .ref (u_6 1), .int 0, .ref (u_6 2), .int 0])), (q_7, .inl (cy 2, 12, .inl (fun _ => 0))), (q_8, .inr (8, [.ref (u_9 0), .ref (u_9 1), .int 0])), ((u_9 0), .inl (cy 0, 12, .inl (fun _ => 0))), ((u_9 1), .inl (cy 0, 12, .inl (fun _ => 0)))] H := hP
  have hD : va_D A [(h, .inr (9, [.ref q_1, .ref q_2, .ref q_3, .int 0, .ref q_4, .int 0, .ref q_5, .int 0, .ref q_7])), (q_1, .inl (cy 4, 14, .inr (.inr (.inr (.inr (fun _ => none)))))), (q_2, .inl (cy 3, 14, .inr (.inl (fun _ => 0)))), (q_3, .inl (cy 5, 14, .inr (.inr (.inr (.inr (fun _ => none)))))), (q_4, .inl (cy 6, 8, .inr (.inr (.inr (.inr (fun _ => none)))))), (q_5, .inr (5, [.ref (u_6 0), .ref (u_6 1), .int 0, .ref (u_6 2), .int 0])), (q_7, .inl (cy 2, 12, .inl (fun _ => 0))), (q_8, .inr (8, [.ref (u_9 0), .ref (u_9 1), .int 0])), ((u_9 0), .inl (cy 0, 12, .inl (fun _ => 0))), ((u_9 1), .inl (cy 0, 12, .inl (fun _ => 0)))] := hD
  refine ow_astq hx hb hK hP hD hS 1 4 7 8 rfl rfl rfl rfl (in_lit (by decide +kernel)) dX9_init_80 (fun f_10 H locs hP hD hS => ?_)
  have hP : va_P G vwCl [(h, .inr (9, [.ref q_1, .ref q_2, .ref q_3, .int 0, .ref q_4, .int 0, .ref q_5, .int 0, .ref q_7])), (q_1, .inl (cy 4, 14, .inr (.inr (.inr (.inr f_10))))), (q_2, .inl (cy 3, 14, .inr (.inl (fun _ => 0)))), (q_3, .inl (cy 5, 14, .inr (.inr (.inr (.inr (fun _ => none)))))), (q_4, .inl (cy 6, 8, .inr (.inr (.inr (.inr (fun _ => none)))))), (q_5, .inr (5, [.ref (u_6 0), .ref (u_6 1), .int 0, .ref (u_6 2), .int 0])), (q_7, .inl (cy 2, 12, .inl (fun _ => 0))), (q_8, .inr (8, [.ref (u_9 0), .ref (u_9 1), .int 0])), ((u_9 0), .inl (cy 0, 12, .inl (fun _ => 0))), ((u_9 1), .inl (cy 0, 12, .inl (fun _ => 0)))] H := hP
  have hD : va_D A [(h, .inr (9, [.ref q_1, .ref q_2, .ref q_3, .int 0, .ref q_4, .int 0, .ref q_5, .int 0, .ref q_7])), (q_1, .inl (cy 4, 14, .inr (.inr (.inr (.inr f_10))))), (q_2, .inl (cy 3, 14, .inr (.inl (fun _ => 0)))), (q_3, .inl (cy 5, 14, .inr (.inr (.inr (.inr (fun _ => none)))))), (q_4, .inl (cy 6, 8, .inr (.inr (.inr (.inr (fun _ => none)))))), (q_5, .inr (5, [.ref (u_6 0), .ref (u_6 1), .int 0, .ref (u_6 2), .int 0])), (q_7, .inl (cy 2, 12, .inl (fun _ => 0))), (q_8, .inr (8, [.ref (u_9 0), .ref (u_9 1), .int 0])), ((u_9 0), .inl (cy 0, 12, .inl (fun _ => 0))), ((u_9 1), .inl (cy 0, 12, .inl (fun _ => 0)))] := hD
  have hP : va_P G vwCl [(h, .inr (9, [.ref q_1, .ref q_2, .ref q_3, .int 0, .ref q_4, .int 0, .ref q_5, .int 0, .ref q_7])), (q_1, .inl (cy 4, 14, .inr (.inr (.inr (.inr f_10))))), (q_2, .inl (cy 3, 14, .inr (.inl (fun _ => 0)))), (q_3, .inl (cy 5, 14, .inr (.inr (.inr (.inr (fun _ => none)))))), (q_4, .inl (cy 6, 8, .inr (.inr (.inr (.inr (fun _ => none)))))), (q_5, .inr (5, [.ref (u_6 0), .ref (u_6 1), .int 0, .ref (u_6 2), .int 0])), (q_7, .inl (cy 2, 12, .inl (fun _ => 0)))] H := hP.sub [0, 1, 2, 3, 4, 5, 6] rfl
  have hD : va_D A [(h, .inr (9, [.ref q_1, .ref q_2, .ref q_3, .int 0, .ref q_4, .int 0, .ref q_5, .int 0, .ref q_7])), (q_1, .inl (cy 4, 14, .inr (.inr (.inr (.inr f_10))))), (q_2, .inl (cy 3, 14, .inr (.inl (fun _ => 0)))), (q_3, .inl (cy 5, 14, .inr (.inr (.inr (.inr (fun _ => none)))))), (q_4, .inl (cy 6, 8, .inr (.inr (.inr (.inr (fun _ => none)))))), (q_5, .inr (5, [.ref (u_6 0), .ref (u_6 1), .int 0, .ref (u_6 2), .int 0])), (q_7, .inl (cy 2, 12, .inl (fun _ => 0)))] := hD.sub [0, 1, 2, 3, 4, 5, 6] (by decide) rfl
  refine lv_aload_n hx hb dX9_init_81 rfl (lv_at hl 1 rfl) ?_
  refine va_get (ci := 9) (v := .ref q_3) (C := RX9) (T := TX9) (N := 9) hx hb ht iX9 hown hK hP 0 rfl rfl 2 (by decide) (ht _ k_54) (fun _ h9 => h9) rfl dX9_init_82 ?_
  refine lv_iload_n hx hb dX9_init_85 rfl (lv_at hl 0 rfl) ?_
  refine va_new (ci := 2) (fs := [.null, .null, .null, .null, .int 0]) (C := RX2) (T := TX2) (N := 5) hx hb ht iX2 tyX2 tyX2_ok hown (ht _ k_53) (ht _ k_65) (ht _ k_66) hK hP hD hS hA rfl df2 (Nat.le_of_ble_eq_true rfl) (Nat.le_of_ble_eq_true rfl) dX9_init_86 (fun q_11 H hP hD hS => ?_)
  refine lv_dup hx hb dX9_init_89 rfl ?_
  have hFc := fr_lastF hD hS hA
  have hPc := fr_lastP hP
  refine va_callv (va_runIN (As := []) (rest := [.ref q_11, .int 0, .ref q_3]) ⟨hx, hb, hml, hown, ht⟩ (c_Hearing l G cy _ q_11 ) ⟨va_cnB (host := "TuneLocks") 0 ht (gc k_67) rfl rfl rfl (hN.1 _ ns_66) (ht _ k_66) (by decide +kernel) ⟨Nat.le_of_ble_eq_true rfl, Nat.le_of_ble_eq_true rfl⟩, rfl, ht _ k_68⟩ ⟨En.blind, fun U hU hW => ⟨rfl, En.of hU hW hPc hK (fr_lastD (ws := [])) hN⟩⟩ rfl rfl hl.1 rfl (lv_room (Nat.le_of_ble_eq_true rfl)) dX9_init_90 ⟨Nat.le_of_ble_eq_true rfl, Nat.le_of_ble_eq_true rfl⟩) hS (fun q _ h => hFc q h) hFc (fun u_12 t H locs ht9 hvm hw hB hz1 hk1 hS => ?_)
  obtain ⟨hP1, hD1⟩ := hB
  rw [ht9] at hP1
  obtain ⟨hP, hD⟩ := fr_last hP hD hFc hk1 hP1 hD1
  clear hFc hPc hP1 hD1 hz1 hk1
  have hP : va_P G vwCl [(h, .inr (9, [.ref q_1, .ref q_2, .ref q_3, .int 0, .ref q_4, .int 0, .ref q_5, .int 0, .ref q_7])), (q_1, .inl (cy 4, 14, .inr (.inr (.inr (.inr f_10))))), (q_2, .inl (cy 3, 14, .inr (.inl (fun _ => 0)))), (q_3, .inl (cy 5, 14, .inr (.inr (.inr (.inr (fun _ => none)))))), (q_4, .inl (cy 6, 8, .inr (.inr (.inr (.inr (fun _ => none)))))), (q_5, .inr (5, [.ref (u_6 0), .ref (u_6 1), .int 0, .ref (u_6 2), .int 0])), (q_7, .inl (cy 2, 12, .inl (fun _ => 0))), (q_11, .inr (2, [.ref (u_12 0), .ref (u_12 1), .ref (u_12 2), .ref (u_12 3), .int 0]))] H := hP
  have hD : va_D A [(h, .inr (9, [.ref q_1, .ref q_2, .ref q_3, .int 0, .ref q_4, .int 0, .ref q_5, .int 0, .ref q_7])), (q_1, .inl (cy 4, 14, .inr (.inr (.inr (.inr f_10))))), (q_2, .inl (cy 3, 14, .inr (.inl (fun _ => 0)))), (q_3, .inl (cy 5, 14, .inr (.inr (.inr (.inr (fun _ => none)))))), (q_4, .inl (cy 6, 8, .inr (.inr (.inr (.inr (fun _ => none)))))), (q_5, .inr (5, [.ref (u_6 0), .ref (u_6 1), .int 0, .ref (u_6 2), .int 0])), (q_7, .inl (cy 2, 12, .inl (fun _ => 0))), (q_11, .inr (2, [.ref (u_12 0), .ref (u_12 1), .ref (u_12 2), .ref (u_12 3), .int 0]))] := hD
  refine ow_astq hx hb hK hP hD hS 3 5 7 2 rfl rfl rfl rfl (in_lit (by decide +kernel)) dX9_init_93 (fun f_13 H locs hP hD hS => ?_)
  have hP : va_P G vwCl [(h, .inr (9, [.ref q_1, .ref q_2, .ref q_3, .int 0, .ref q_4, .int 0, .ref q_5, .int 0, .ref q_7])), (q_1, .inl (cy 4, 14, .inr (.inr (.inr (.inr f_10))))), (q_2, .inl (cy 3, 14, .inr (.inl (fun _ => 0)))), (q_3, .inl (cy 5, 14, .inr (.inr (.inr (.inr f_13))))), (q_4, .inl (cy 6, 8, .inr (.inr (.inr (.inr (fun _ => none)))))), (q_5, .inr (5, [.ref (u_6 0), .ref (u_6 1), .int 0, .ref (u_6 2), .int 0])), (q_7, .inl (cy 2, 12, .inl (fun _ => 0))), (q_11, .inr (2, [.ref (u_12 0), .ref (u_12 1), .ref (u_12 2), .ref (u_12 3), .int 0]))] H := hP
  have hD : va_D A [(h, .inr (9, [.ref q_1, .ref q_2, .ref q_3, .int 0, .ref q_4, .int 0, .ref q_5, .int 0, .ref q_7])), (q_1, .inl (cy 4, 14, .inr (.inr (.inr (.inr f_10))))), (q_2, .inl (cy 3, 14, .inr (.inl (fun _ => 0)))), (q_3, .inl (cy 5, 14, .inr (.inr (.inr (.inr f_13))))), (q_4, .inl (cy 6, 8, .inr (.inr (.inr (.inr (fun _ => none)))))), (q_5, .inr (5, [.ref (u_6 0), .ref (u_6 1), .int 0, .ref (u_6 2), .int 0])), (q_7, .inl (cy 2, 12, .inl (fun _ => 0))), (q_11, .inr (2, [.ref (u_12 0), .ref (u_12 1), .ref (u_12 2), .ref (u_12 3), .int 0]))] := hD
  have hP : va_P G vwCl [(h, .inr (9, [.ref q_1, .ref q_2, .ref q_3, .int 0, .ref q_4, .int 0, .ref q_5, .int 0, .ref q_7])), (q_1, .inl (cy 4, 14, .inr (.inr (.inr (.inr f_10))))), (q_2, .inl (cy 3, 14, .inr (.inl (fun _ => 0)))), (q_3, .inl (cy 5, 14, .inr (.inr (.inr (.inr f_13))))), (q_4, .inl (cy 6, 8, .inr (.inr (.inr (.inr (fun _ => none)))))), (q_5, .inr (5, [.ref (u_6 0), .ref (u_6 1), .int 0, .ref (u_6 2), .int 0])), (q_7, .inl (cy 2, 12, .inl (fun _ => 0)))] H := hP.sub [0, 1, 2, 3, 4, 5, 6] rfl
  have hD : va_D A [(h, .inr (9, [.ref q_1, .ref q_2, .ref q_3, .int 0, .ref q_4, .int 0, .ref q_5, .int 0, .ref q_7])), (q_1, .inl (cy 4, 14, .inr (.inr (.inr (.inr f_10))))), (q_2, .inl (cy 3, 14, .inr (.inl (fun _ => 0)))), (q_3, .inl (cy 5, 14, .inr (.inr (.inr (.inr f_13))))), (q_4, .inl (cy 6, 8, .inr (.inr (.inr (.inr (fun _ => none)))))), (q_5, .inr (5, [.ref (u_6 0), .ref (u_6 1), .int 0, .ref (u_6 2), .int 0])), (q_7, .inl (cy 2, 12, .inl (fun _ => 0)))] := hD.sub [0, 1, 2, 3, 4, 5, 6] (by decide) rfl
  refine lv_iinc (v := 1) (lv' := [(1, .int 1), (0, .ref h)]) hx hb dX9_init_94 hl (k := 0) rfl (by decide) (by decide) rfl (fun ls hl => ?_)
  refine lv_goto (tgt := 60) hx hb dX9_init_97 (by decide) ?_
  refine lv_iload_n hx hb dX9_init_60 rfl (lv_at hl 0 rfl) ?_
  refine lv_bipush (v := 14) hx hb dX9_init_61 (by decide) ?_
  refine lv_icmp_ge (tgt := 100) hx hb dX9_init_63 (by decide) (fun c9 => absurd c9 (by decide)) (fun _ => ?_)
  refine lv_aload_n hx hb dX9_init_66 rfl (lv_at hl 1 rfl) ?_
  refine va_get (ci := 9) (v := .ref q_1) (C := RX9) (T := TX9) (N := 9) hx hb ht iX9 hown hK hP 0 rfl rfl 0 (by decide) (ht _ k_50) (fun _ h9 => h9) rfl dX9_init_67 ?_
  refine lv_iload_n hx hb dX9_init_70 rfl (lv_at hl 0 rfl) ?_
  refine va_new (ci := 8) (fs := [.null, .null, .int 0]) (C := RX8) (T := TX8) (N := 3) hx hb ht iX8 tyX8 tyX8_ok hown (ht _ k_49) (ht _ k_40) (ht _ k_41) hK hP hD hS hA rfl df8 (Nat.le_of_ble_eq_true rfl) (Nat.le_of_ble_eq_true rfl) dX9_init_71 (fun q_14 H hP hD hS => ?_)
  refine lv_dup hx hb dX9_init_74 rfl ?_
  refine lv_bipush (v := 12) hx hb dX9_init_75 (by decide) ?_
  have hFc := fr_lastF hD hS hA
  have hPc := fr_lastP hP
  refine va_callv (va_runI (As := [.int 12]) (rest := [.ref q_14, .int 1, .ref q_1]) ⟨hx, hb, hml, hown, ht⟩ (c_Song12 l G cy _ q_14 ) (cwI 1 ht (gc k_42) rfl rfl rfl (ht _ k_41) (ht _ k_64) (ht _ k_44) rfl (by decide +kernel) ⟨Nat.le_of_ble_eq_true rfl, Nat.le_of_ble_eq_true rfl⟩) ⟨En.blind, fun U hU hW => ⟨rfl, En.of hU hW hPc hK (fr_lastD (ws := [])) hN⟩⟩ rfl rfl hl.1 rfl (lv_room (Nat.le_of_ble_eq_true rfl)) dX9_init_77 ⟨Nat.le_of_ble_eq_true rfl, Nat.le_of_ble_eq_true rfl⟩) hS (fun q _ h => hFc q h) hFc (fun u_15 t H locs ht9 hvm hw hB hz1 hk1 hS => ?_)
  obtain ⟨hP1, hD1⟩ := hB
  rw [ht9] at hP1
  obtain ⟨hP, hD⟩ := fr_last hP hD hFc hk1 hP1 hD1
  clear hFc hPc hP1 hD1 hz1 hk1
  have hP : va_P G vwCl [(h, .inr (9, [.ref q_1, .ref q_2, .ref q_3, .int 0, .ref q_4, .int 0, .ref q_5, .int 0, .ref q_7])), (q_1, .inl (cy 4, 14, .inr (.inr (.inr (.inr f_10))))), (q_2, .inl (cy 3, 14, .inr (.inl (fun _ => 0)))), (q_3, .inl (cy 5, 14, .inr (.inr (.inr (.inr f_13))))), (q_4, .inl (cy 6, 8, .inr (.inr (.inr (.inr (fun _ => none)))))), (q_5, .inr (5, [.ref (u_6 0), .ref (u_6 1), .int 0, .ref (u_6 2), .int 0])), (q_7, .inl (cy 2, 12, .inl (fun _ => 0))), (q_14, .inr (8, [.ref (u_15 0), .ref (u_15 1), .int 0])), ((u_15 0), .inl (cy 0, 12, .inl (fun _ => 0))), ((u_15 1), .inl (cy 0, 12, .inl (fun _ => 0)))] H := hP
  have hD : va_D A [(h, .inr (9, [.ref q_1, .ref q_2, .ref q_3, .int 0, .ref q_4, .int 0, .ref q_5, .int 0, .ref q_7])), (q_1, .inl (cy 4, 14, .inr (.inr (.inr (.inr f_10))))), (q_2, .inl (cy 3, 14, .inr (.inl (fun _ => 0)))), (q_3, .inl (cy 5, 14, .inr (.inr (.inr (.inr f_13))))), (q_4, .inl (cy 6, 8, .inr (.inr (.inr (.inr (fun _ => none)))))), (q_5, .inr (5, [.ref (u_6 0), .ref (u_6 1), .int 0, .ref (u_6 2), .int 0])), (q_7, .inl (cy 2, 12, .inl (fun _ => 0))), (q_14, .inr (8, [.ref (u_15 0), .ref (u_15 1), .int 0])), ((u_15 0), .inl (cy 0, 12, .inl (fun _ => 0))), ((u_15 1), .inl (cy 0, 12, .inl (fun _ => 0)))] := hD
  refine ow_astq hx hb hK hP hD hS 1 4 7 8 rfl rfl rfl rfl (in_lit (by decide +kernel)) dX9_init_80 (fun f_16 H locs hP hD hS => ?_)
  have hP : va_P G vwCl [(h, .inr (9, [.ref q_1, .ref q_2, .ref q_3, .int 0, .ref q_4, .int 0, .ref q_5, .int 0, .ref q_7])), (q_1, .inl (cy 4, 14, .inr (.inr (.inr (.inr f_16))))), (q_2, .inl (cy 3, 14, .inr (.inl (fun _ => 0)))), (q_3, .inl (cy 5, 14, .inr (.inr (.inr (.inr f_13))))), (q_4, .inl (cy 6, 8, .inr (.inr (.inr (.inr (fun _ => none)))))), (q_5, .inr (5, [.ref (u_6 0), .ref (u_6 1), .int 0, .ref (u_6 2), .int 0])), (q_7, .inl (cy 2, 12, .inl (fun _ => 0))), (q_14, .inr (8, [.ref (u_15 0), .ref (u_15 1), .int 0])), ((u_15 0), .inl (cy 0, 12, .inl (fun _ => 0))), ((u_15 1), .inl (cy 0, 12, .inl (fun _ => 0)))] H := hP
  have hD : va_D A [(h, .inr (9, [.ref q_1, .ref q_2, .ref q_3, .int 0, .ref q_4, .int 0, .ref q_5, .int 0, .ref q_7])), (q_1, .inl (cy 4, 14, .inr (.inr (.inr (.inr f_16))))), (q_2, .inl (cy 3, 14, .inr (.inl (fun _ => 0)))), (q_3, .inl (cy 5, 14, .inr (.inr (.inr (.inr f_13))))), (q_4, .inl (cy 6, 8, .inr (.inr (.inr (.inr (fun _ => none)))))), (q_5, .inr (5, [.ref (u_6 0), .ref (u_6 1), .int 0, .ref (u_6 2), .int 0])), (q_7, .inl (cy 2, 12, .inl (fun _ => 0))), (q_14, .inr (8, [.ref (u_15 0), .ref (u_15 1), .int 0])), ((u_15 0), .inl (cy 0, 12, .inl (fun _ => 0))), ((u_15 1), .inl (cy 0, 12, .inl (fun _ => 0)))] := hD
  have hP : va_P G vwCl [(h, .inr (9, [.ref q_1, .ref q_2, .ref q_3, .int 0, .ref q_4, .int 0, .ref q_5, .int 0, .ref q_7])), (q_1, .inl (cy 4, 14, .inr (.inr (.inr (.inr f_16))))), (q_2, .inl (cy 3, 14, .inr (.inl (fun _ => 0)))), (q_3, .inl (cy 5, 14, .inr (.inr (.inr (.inr f_13))))), (q_4, .inl (cy 6, 8, .inr (.inr (.inr (.inr (fun _ => none)))))), (q_5, .inr (5, [.ref (u_6 0), .ref (u_6 1), .int 0, .ref (u_6 2), .int 0])), (q_7, .inl (cy 2, 12, .inl (fun _ => 0)))] H := hP.sub [0, 1, 2, 3, 4, 5, 6] rfl
  have hD : va_D A [(h, .inr (9, [.ref q_1, .ref q_2, .ref q_3, .int 0, .ref q_4, .int 0, .ref q_5, .int 0, .ref q_7])), (q_1, .inl (cy 4, 14, .inr (.inr (.inr (.inr f_16))))), (q_2, .inl (cy 3, 14, .inr (.inl (fun _ => 0)))), (q_3, .inl (cy 5, 14, .inr (.inr (.inr (.inr f_13))))), (q_4, .inl (cy 6, 8, .inr (.inr (.inr (.inr (fun _ => none)))))), (q_5, .inr (5, [.ref (u_6 0), .ref (u_6 1), .int 0, .ref (u_6 2), .int 0])), (q_7, .inl (cy 2, 12, .inl (fun _ => 0)))] := hD.sub [0, 1, 2, 3, 4, 5, 6] (by decide) rfl
  refine lv_aload_n hx hb dX9_init_81 rfl (lv_at hl 1 rfl) ?_
  refine va_get (ci := 9) (v := .ref q_3) (C := RX9) (T := TX9) (N := 9) hx hb ht iX9 hown hK hP 0 rfl rfl 2 (by decide) (ht _ k_54) (fun _ h9 => h9) rfl dX9_init_82 ?_
  refine lv_iload_n hx hb dX9_init_85 rfl (lv_at hl 0 rfl) ?_
  refine va_new (ci := 2) (fs := [.null, .null, .null, .null, .int 0]) (C := RX2) (T := TX2) (N := 5) hx hb ht iX2 tyX2 tyX2_ok hown (ht _ k_53) (ht _ k_65) (ht _ k_66) hK hP hD hS hA rfl df2 (Nat.le_of_ble_eq_true rfl) (Nat.le_of_ble_eq_true rfl) dX9_init_86 (fun q_17 H hP hD hS => ?_)
  refine lv_dup hx hb dX9_init_89 rfl ?_
  have hFc := fr_lastF hD hS hA
  have hPc := fr_lastP hP
  refine va_callv (va_runIN (As := []) (rest := [.ref q_17, .int 1, .ref q_3]) ⟨hx, hb, hml, hown, ht⟩ (c_Hearing l G cy _ q_17 ) ⟨va_cnB (host := "TuneLocks") 0 ht (gc k_67) rfl rfl rfl (hN.1 _ ns_66) (ht _ k_66) (by decide +kernel) ⟨Nat.le_of_ble_eq_true rfl, Nat.le_of_ble_eq_true rfl⟩, rfl, ht _ k_68⟩ ⟨En.blind, fun U hU hW => ⟨rfl, En.of hU hW hPc hK (fr_lastD (ws := [])) hN⟩⟩ rfl rfl hl.1 rfl (lv_room (Nat.le_of_ble_eq_true rfl)) dX9_init_90 ⟨Nat.le_of_ble_eq_true rfl, Nat.le_of_ble_eq_true rfl⟩) hS (fun q _ h => hFc q h) hFc (fun u_18 t H locs ht9 hvm hw hB hz1 hk1 hS => ?_)
  obtain ⟨hP1, hD1⟩ := hB
  rw [ht9] at hP1
  obtain ⟨hP, hD⟩ := fr_last hP hD hFc hk1 hP1 hD1
  clear hFc hPc hP1 hD1 hz1 hk1
  have hP : va_P G vwCl [(h, .inr (9, [.ref q_1, .ref q_2, .ref q_3, .int 0, .ref q_4, .int 0, .ref q_5, .int 0, .ref q_7])), (q_1, .inl (cy 4, 14, .inr (.inr (.inr (.inr f_16))))), (q_2, .inl (cy 3, 14, .inr (.inl (fun _ => 0)))), (q_3, .inl (cy 5, 14, .inr (.inr (.inr (.inr f_13))))), (q_4, .inl (cy 6, 8, .inr (.inr (.inr (.inr (fun _ => none)))))), (q_5, .inr (5, [.ref (u_6 0), .ref (u_6 1), .int 0, .ref (u_6 2), .int 0])), (q_7, .inl (cy 2, 12, .inl (fun _ => 0))), (q_17, .inr (2, [.ref (u_18 0), .ref (u_18 1), .ref (u_18 2), .ref (u_18 3), .int 0]))] H := hP
  have hD : va_D A [(h, .inr (9, [.ref q_1, .ref q_2, .ref q_3, .int 0, .ref q_4, .int 0, .ref q_5, .int 0, .ref q_7])), (q_1, .inl (cy 4, 14, .inr (.inr (.inr (.inr f_16))))), (q_2, .inl (cy 3, 14, .inr (.inl (fun _ => 0)))), (q_3, .inl (cy 5, 14, .inr (.inr (.inr (.inr f_13))))), (q_4, .inl (cy 6, 8, .inr (.inr (.inr (.inr (fun _ => none)))))), (q_5, .inr (5, [.ref (u_6 0), .ref (u_6 1), .int 0, .ref (u_6 2), .int 0])), (q_7, .inl (cy 2, 12, .inl (fun _ => 0))), (q_17, .inr (2, [.ref (u_18 0), .ref (u_18 1), .ref (u_18 2), .ref (u_18 3), .int 0]))] := hD
  refine ow_astq hx hb hK hP hD hS 3 5 7 2 rfl rfl rfl rfl (in_lit (by decide +kernel)) dX9_init_93 (fun f_19 H locs hP hD hS => ?_)
  have hP : va_P G vwCl [(h, .inr (9, [.ref q_1, .ref q_2, .ref q_3, .int 0, .ref q_4, .int 0, .ref q_5, .int 0, .ref q_7])), (q_1, .inl (cy 4, 14, .inr (.inr (.inr (.inr f_16))))), (q_2, .inl (cy 3, 14, .inr (.inl (fun _ => 0)))), (q_3, .inl (cy 5, 14, .inr (.inr (.inr (.inr f_19))))), (q_4, .inl (cy 6, 8, .inr (.inr (.inr (.inr (fun _ => none)))))), (q_5, .inr (5, [.ref (u_6 0), .ref (u_6 1), .int 0, .ref (u_6 2), .int 0])), (q_7, .inl (cy 2, 12, .inl (fun _ => 0))), (q_17, .inr (2, [.ref (u_18 0), .ref (u_18 1), .ref (u_18 2), .ref (u_18 3), .int 0]))] H := hP
  have hD : va_D A [(h, .inr (9, [.ref q_1, .ref q_2, .ref q_3, .int 0, .ref q_4, .int 0, .ref q_5, .int 0, .ref q_7])), (q_1, .inl (cy 4, 14, .inr (.inr (.inr (.inr f_16))))), (q_2, .inl (cy 3, 14, .inr (.inl (fun _ => 0)))), (q_3, .inl (cy 5, 14, .inr (.inr (.inr (.inr f_19))))), (q_4, .inl (cy 6, 8, .inr (.inr (.inr (.inr (fun _ => none)))))), (q_5, .inr (5, [.ref (u_6 0), .ref (u_6 1), .int 0, .ref (u_6 2), .int 0])), (q_7, .inl (cy 2, 12, .inl (fun _ => 0))), (q_17, .inr (2, [.ref (u_18 0), .ref (u_18 1), .ref (u_18 2), .ref (u_18 3), .int 0]))] := hD
  have hP : va_P G vwCl [(h, .inr (9, [.ref q_1, .ref q_2, .ref q_3, .int 0, .ref q_4, .int 0, .ref q_5, .int 0, .ref q_7])), (q_1, .inl (cy 4, 14, .inr (.inr (.inr (.inr f_16))))), (q_2, .inl (cy 3, 14, .inr (.inl (fun _ => 0)))), (q_3, .inl (cy 5, 14, .inr (.inr (.inr (.inr f_19))))), (q_4, .inl (cy 6, 8, .inr (.inr (.inr (.inr (fun _ => none)))))), (q_5, .inr (5, [.ref (u_6 0), .ref (u_6 1), .int 0, .ref (u_6 2), .int 0])), (q_7, .inl (cy 2, 12, .inl (fun _ => 0)))] H := hP.sub [0, 1, 2, 3, 4, 5, 6] rfl
  have hD : va_D A [(h, .inr (9, [.ref q_1, .ref q_2, .ref q_3, .int 0, .ref q_4, .int 0, .ref q_5, .int 0, .ref q_7])), (q_1, .inl (cy 4, 14, .inr (.inr (.inr (.inr f_16))))), (q_2, .inl (cy 3, 14, .inr (.inl (fun _ => 0)))), (q_3, .inl (cy 5, 14, .inr (.inr (.inr (.inr f_19))))), (q_4, .inl (cy 6, 8, .inr (.inr (.inr (.inr (fun _ => none)))))), (q_5, .inr (5, [.ref (u_6 0), .ref (u_6 1), .int 0, .ref (u_6 2), .int 0])), (q_7, .inl (cy 2, 12, .inl (fun _ => 0)))] := hD.sub [0, 1, 2, 3, 4, 5, 6] (by decide) rfl
  refine lv_iinc (v := 2) (lv' := [(1, .int 2), (0, .ref h)]) hx hb dX9_init_94 hl (k := 0) rfl (by decide) (by decide) rfl (fun ls hl => ?_)
  refine lv_goto (tgt := 60) hx hb dX9_init_97 (by decide) ?_
  refine lv_iload_n hx hb dX9_init_60 rfl (lv_at hl 0 rfl) ?_
  refine lv_bipush (v := 14) hx hb dX9_init_61 (by decide) ?_
  refine lv_icmp_ge (tgt := 100) hx hb dX9_init_63 (by decide) (fun c9 => absurd c9 (by decide)) (fun _ => ?_)
  refine lv_aload_n hx hb dX9_init_66 rfl (lv_at hl 1 rfl) ?_
  refine va_get (ci := 9) (v := .ref q_1) (C := RX9) (T := TX9) (N := 9) hx hb ht iX9 hown hK hP 0 rfl rfl 0 (by decide) (ht _ k_50) (fun _ h9 => h9) rfl dX9_init_67 ?_
  refine lv_iload_n hx hb dX9_init_70 rfl (lv_at hl 0 rfl) ?_
  refine va_new (ci := 8) (fs := [.null, .null, .int 0]) (C := RX8) (T := TX8) (N := 3) hx hb ht iX8 tyX8 tyX8_ok hown (ht _ k_49) (ht _ k_40) (ht _ k_41) hK hP hD hS hA rfl df8 (Nat.le_of_ble_eq_true rfl) (Nat.le_of_ble_eq_true rfl) dX9_init_71 (fun q_20 H hP hD hS => ?_)
  refine lv_dup hx hb dX9_init_74 rfl ?_
  refine lv_bipush (v := 12) hx hb dX9_init_75 (by decide) ?_
  have hFc := fr_lastF hD hS hA
  have hPc := fr_lastP hP
  refine va_callv (va_runI (As := [.int 12]) (rest := [.ref q_20, .int 2, .ref q_1]) ⟨hx, hb, hml, hown, ht⟩ (c_Song12 l G cy _ q_20 ) (cwI 1 ht (gc k_42) rfl rfl rfl (ht _ k_41) (ht _ k_64) (ht _ k_44) rfl (by decide +kernel) ⟨Nat.le_of_ble_eq_true rfl, Nat.le_of_ble_eq_true rfl⟩) ⟨En.blind, fun U hU hW => ⟨rfl, En.of hU hW hPc hK (fr_lastD (ws := [])) hN⟩⟩ rfl rfl hl.1 rfl (lv_room (Nat.le_of_ble_eq_true rfl)) dX9_init_77 ⟨Nat.le_of_ble_eq_true rfl, Nat.le_of_ble_eq_true rfl⟩) hS (fun q _ h => hFc q h) hFc (fun u_21 t H locs ht9 hvm hw hB hz1 hk1 hS => ?_)
  obtain ⟨hP1, hD1⟩ := hB
  rw [ht9] at hP1
  obtain ⟨hP, hD⟩ := fr_last hP hD hFc hk1 hP1 hD1
  clear hFc hPc hP1 hD1 hz1 hk1
  have hP : va_P G vwCl [(h, .inr (9, [.ref q_1, .ref q_2, .ref q_3, .int 0, .ref q_4, .int 0, .ref q_5, .int 0, .ref q_7])), (q_1, .inl (cy 4, 14, .inr (.inr (.inr (.inr f_16))))), (q_2, .inl (cy 3, 14, .inr (.inl (fun _ => 0)))), (q_3, .inl (cy 5, 14, .inr (.inr (.inr (.inr f_19))))), (q_4, .inl (cy 6, 8, .inr (.inr (.inr (.inr (fun _ => none)))))), (q_5, .inr (5, [.ref (u_6 0), .ref (u_6 1), .int 0, .ref (u_6 2), .int 0])), (q_7, .inl (cy 2, 12, .inl (fun _ => 0))), (q_20, .inr (8, [.ref (u_21 0), .ref (u_21 1), .int 0])), ((u_21 0), .inl (cy 0, 12, .inl (fun _ => 0))), ((u_21 1), .inl (cy 0, 12, .inl (fun _ => 0)))] H := hP
  have hD : va_D A [(h, .inr (9, [.ref q_1, .ref q_2, .ref q_3, .int 0, .ref q_4, .int 0, .ref q_5, .int 0, .ref q_7])), (q_1, .inl (cy 4, 14, .inr (.inr (.inr (.inr f_16))))), (q_2, .inl (cy 3, 14, .inr (.inl (fun _ => 0)))), (q_3, .inl (cy 5, 14, .inr (.inr (.inr (.inr f_19))))), (q_4, .inl (cy 6, 8, .inr (.inr (.inr (.inr (fun _ => none)))))), (q_5, .inr (5, [.ref (u_6 0), .ref (u_6 1), .int 0, .ref (u_6 2), .int 0])), (q_7, .inl (cy 2, 12, .inl (fun _ => 0))), (q_20, .inr (8, [.ref (u_21 0), .ref (u_21 1), .int 0])), ((u_21 0), .inl (cy 0, 12, .inl (fun _ => 0))), ((u_21 1), .inl (cy 0, 12, .inl (fun _ => 0)))] := hD
  refine ow_astq hx hb hK hP hD hS 1 4 7 8 rfl rfl rfl rfl (in_lit (by decide +kernel)) dX9_init_80 (fun f_22 H locs hP hD hS => ?_)
  have hP : va_P G vwCl [(h, .inr (9, [.ref q_1, .ref q_2, .ref q_3, .int 0, .ref q_4, .int 0, .ref q_5, .int 0, .ref q_7])), (q_1, .inl (cy 4, 14, .inr (.inr (.inr (.inr f_22))))), (q_2, .inl (cy 3, 14, .inr (.inl (fun _ => 0)))), (q_3, .inl (cy 5, 14, .inr (.inr (.inr (.inr f_19))))), (q_4, .inl (cy 6, 8, .inr (.inr (.inr (.inr (fun _ => none)))))), (q_5, .inr (5, [.ref (u_6 0), .ref (u_6 1), .int 0, .ref (u_6 2), .int 0])), (q_7, .inl (cy 2, 12, .inl (fun _ => 0))), (q_20, .inr (8, [.ref (u_21 0), .ref (u_21 1), .int 0])), ((u_21 0), .inl (cy 0, 12, .inl (fun _ => 0))), ((u_21 1), .inl (cy 0, 12, .inl (fun _ => 0)))] H := hP
  have hD : va_D A [(h, .inr (9, [.ref q_1, .ref q_2, .ref q_3, .int 0, .ref q_4, .int 0, .ref q_5, .int 0, .ref q_7])), (q_1, .inl (cy 4, 14, .inr (.inr (.inr (.inr f_22))))), (q_2, .inl (cy 3, 14, .inr (.inl (fun _ => 0)))), (q_3, .inl (cy 5, 14, .inr (.inr (.inr (.inr f_19))))), (q_4, .inl (cy 6, 8, .inr (.inr (.inr (.inr (fun _ => none)))))), (q_5, .inr (5, [.ref (u_6 0), .ref (u_6 1), .int 0, .ref (u_6 2), .int 0])), (q_7, .inl (cy 2, 12, .inl (fun _ => 0))), (q_20, .inr (8, [.ref (u_21 0), .ref (u_21 1), .int 0])), ((u_21 0), .inl (cy 0, 12, .inl (fun _ => 0))), ((u_21 1), .inl (cy 0, 12, .inl (fun _ => 0)))] := hD
  have hP : va_P G vwCl [(h, .inr (9, [.ref q_1, .ref q_2, .ref q_3, .int 0, .ref q_4, .int 0, .ref q_5, .int 0, .ref q_7])), (q_1, .inl (cy 4, 14, .inr (.inr (.inr (.inr f_22))))), (q_2, .inl (cy 3, 14, .inr (.inl (fun _ => 0)))), (q_3, .inl (cy 5, 14, .inr (.inr (.inr (.inr f_19))))), (q_4, .inl (cy 6, 8, .inr (.inr (.inr (.inr (fun _ => none)))))), (q_5, .inr (5, [.ref (u_6 0), .ref (u_6 1), .int 0, .ref (u_6 2), .int 0])), (q_7, .inl (cy 2, 12, .inl (fun _ => 0)))] H := hP.sub [0, 1, 2, 3, 4, 5, 6] rfl
  have hD : va_D A [(h, .inr (9, [.ref q_1, .ref q_2, .ref q_3, .int 0, .ref q_4, .int 0, .ref q_5, .int 0, .ref q_7])), (q_1, .inl (cy 4, 14, .inr (.inr (.inr (.inr f_22))))), (q_2, .inl (cy 3, 14, .inr (.inl (fun _ => 0)))), (q_3, .inl (cy 5, 14, .inr (.inr (.inr (.inr f_19))))), (q_4, .inl (cy 6, 8, .inr (.inr (.inr (.inr (fun _ => none)))))), (q_5, .inr (5, [.ref (u_6 0), .ref (u_6 1), .int 0, .ref (u_6 2), .int 0])), (q_7, .inl (cy 2, 12, .inl (fun _ => 0)))] := hD.sub [0, 1, 2, 3, 4, 5, 6] (by decide) rfl
  refine lv_aload_n hx hb dX9_init_81 rfl (lv_at hl 1 rfl) ?_
  refine va_get (ci := 9) (v := .ref q_3) (C := RX9) (T := TX9) (N := 9) hx hb ht iX9 hown hK hP 0 rfl rfl 2 (by decide) (ht _ k_54) (fun _ h9 => h9) rfl dX9_init_82 ?_
  refine lv_iload_n hx hb dX9_init_85 rfl (lv_at hl 0 rfl) ?_
  refine va_new (ci := 2) (fs := [.null, .null, .null, .null, .int 0]) (C := RX2) (T := TX2) (N := 5) hx hb ht iX2 tyX2 tyX2_ok hown (ht _ k_53) (ht _ k_65) (ht _ k_66) hK hP hD hS hA rfl df2 (Nat.le_of_ble_eq_true rfl) (Nat.le_of_ble_eq_true rfl) dX9_init_86 (fun q_23 H hP hD hS => ?_)
  refine lv_dup hx hb dX9_init_89 rfl ?_
  have hFc := fr_lastF hD hS hA
  have hPc := fr_lastP hP
  refine va_callv (va_runIN (As := []) (rest := [.ref q_23, .int 2, .ref q_3]) ⟨hx, hb, hml, hown, ht⟩ (c_Hearing l G cy _ q_23 ) ⟨va_cnB (host := "TuneLocks") 0 ht (gc k_67) rfl rfl rfl (hN.1 _ ns_66) (ht _ k_66) (by decide +kernel) ⟨Nat.le_of_ble_eq_true rfl, Nat.le_of_ble_eq_true rfl⟩, rfl, ht _ k_68⟩ ⟨En.blind, fun U hU hW => ⟨rfl, En.of hU hW hPc hK (fr_lastD (ws := [])) hN⟩⟩ rfl rfl hl.1 rfl (lv_room (Nat.le_of_ble_eq_true rfl)) dX9_init_90 ⟨Nat.le_of_ble_eq_true rfl, Nat.le_of_ble_eq_true rfl⟩) hS (fun q _ h => hFc q h) hFc (fun u_24 t H locs ht9 hvm hw hB hz1 hk1 hS => ?_)
  obtain ⟨hP1, hD1⟩ := hB
  rw [ht9] at hP1
  obtain ⟨hP, hD⟩ := fr_last hP hD hFc hk1 hP1 hD1
  clear hFc hPc hP1 hD1 hz1 hk1
  have hP : va_P G vwCl [(h, .inr (9, [.ref q_1, .ref q_2, .ref q_3, .int 0, .ref q_4, .int 0, .ref q_5, .int 0, .ref q_7])), (q_1, .inl (cy 4, 14, .inr (.inr (.inr (.inr f_22))))), (q_2, .inl (cy 3, 14, .inr (.inl (fun _ => 0)))), (q_3, .inl (cy 5, 14, .inr (.inr (.inr (.inr f_19))))), (q_4, .inl (cy 6, 8, .inr (.inr (.inr (.inr (fun _ => none)))))), (q_5, .inr (5, [.ref (u_6 0), .ref (u_6 1), .int 0, .ref (u_6 2), .int 0])), (q_7, .inl (cy 2, 12, .inl (fun _ => 0))), (q_23, .inr (2, [.ref (u_24 0), .ref (u_24 1), .ref (u_24 2), .ref (u_24 3), .int 0]))] H := hP
  have hD : va_D A [(h, .inr (9, [.ref q_1, .ref q_2, .ref q_3, .int 0, .ref q_4, .int 0, .ref q_5, .int 0, .ref q_7])), (q_1, .inl (cy 4, 14, .inr (.inr (.inr (.inr f_22))))), (q_2, .inl (cy 3, 14, .inr (.inl (fun _ => 0)))), (q_3, .inl (cy 5, 14, .inr (.inr (.inr (.inr f_19))))), (q_4, .inl (cy 6, 8, .inr (.inr (.inr (.inr (fun _ => none)))))), (q_5, .inr (5, [.ref (u_6 0), .ref (u_6 1), .int 0, .ref (u_6 2), .int 0])), (q_7, .inl (cy 2, 12, .inl (fun _ => 0))), (q_23, .inr (2, [.ref (u_24 0), .ref (u_24 1), .ref (u_24 2), .ref (u_24 3), .int 0]))] := hD
  refine ow_astq hx hb hK hP hD hS 3 5 7 2 rfl rfl rfl rfl (in_lit (by decide +kernel)) dX9_init_93 (fun f_25 H locs hP hD hS => ?_)
  have hP : va_P G vwCl [(h, .inr (9, [.ref q_1, .ref q_2, .ref q_3, .int 0, .ref q_4, .int 0, .ref q_5, .int 0, .ref q_7])), (q_1, .inl (cy 4, 14, .inr (.inr (.inr (.inr f_22))))), (q_2, .inl (cy 3, 14, .inr (.inl (fun _ => 0)))), (q_3, .inl (cy 5, 14, .inr (.inr (.inr (.inr f_25))))), (q_4, .inl (cy 6, 8, .inr (.inr (.inr (.inr (fun _ => none)))))), (q_5, .inr (5, [.ref (u_6 0), .ref (u_6 1), .int 0, .ref (u_6 2), .int 0])), (q_7, .inl (cy 2, 12, .inl (fun _ => 0))), (q_23, .inr (2, [.ref (u_24 0), .ref (u_24 1), .ref (u_24 2), .ref (u_24 3), .int 0]))] H := hP
  have hD : va_D A [(h, .inr (9, [.ref q_1, .ref q_2, .ref q_3, .int 0, .ref q_4, .int 0, .ref q_5, .int 0, .ref q_7])), (q_1, .inl (cy 4, 14, .inr (.inr (.inr (.inr f_22))))), (q_2, .inl (cy 3, 14, .inr (.inl (fun _ => 0)))), (q_3, .inl (cy 5, 14, .inr (.inr (.inr (.inr f_25))))), (q_4, .inl (cy 6, 8, .inr (.inr (.inr (.inr (fun _ => none)))))), (q_5, .inr (5, [.ref (u_6 0), .ref (u_6 1), .int 0, .ref (u_6 2), .int 0])), (q_7, .inl (cy 2, 12, .inl (fun _ => 0))), (q_23, .inr (2, [.ref (u_24 0), .ref (u_24 1), .ref (u_24 2), .ref (u_24 3), .int 0]))] := hD
  have hP : va_P G vwCl [(h, .inr (9, [.ref q_1, .ref q_2, .ref q_3, .int 0, .ref q_4, .int 0, .ref q_5, .int 0, .ref q_7])), (q_1, .inl (cy 4, 14, .inr (.inr (.inr (.inr f_22))))), (q_2, .inl (cy 3, 14, .inr (.inl (fun _ => 0)))), (q_3, .inl (cy 5, 14, .inr (.inr (.inr (.inr f_25))))), (q_4, .inl (cy 6, 8, .inr (.inr (.inr (.inr (fun _ => none)))))), (q_5, .inr (5, [.ref (u_6 0), .ref (u_6 1), .int 0, .ref (u_6 2), .int 0])), (q_7, .inl (cy 2, 12, .inl (fun _ => 0)))] H := hP.sub [0, 1, 2, 3, 4, 5, 6] rfl
  have hD : va_D A [(h, .inr (9, [.ref q_1, .ref q_2, .ref q_3, .int 0, .ref q_4, .int 0, .ref q_5, .int 0, .ref q_7])), (q_1, .inl (cy 4, 14, .inr (.inr (.inr (.inr f_22))))), (q_2, .inl (cy 3, 14, .inr (.inl (fun _ => 0)))), (q_3, .inl (cy 5, 14, .inr (.inr (.inr (.inr f_25))))), (q_4, .inl (cy 6, 8, .inr (.inr (.inr (.inr (fun _ => none)))))), (q_5, .inr (5, [.ref (u_6 0), .ref (u_6 1), .int 0, .ref (u_6 2), .int 0])), (q_7, .inl (cy 2, 12, .inl (fun _ => 0)))] := hD.sub [0, 1, 2, 3, 4, 5, 6] (by decide) rfl
  refine lv_iinc (v := 3) (lv' := [(1, .int 3), (0, .ref h)]) hx hb dX9_init_94 hl (k := 0) rfl (by decide) (by decide) rfl (fun ls hl => ?_)
  refine lv_goto (tgt := 60) hx hb dX9_init_97 (by decide) ?_
  refine lv_iload_n hx hb dX9_init_60 rfl (lv_at hl 0 rfl) ?_
  refine lv_bipush (v := 14) hx hb dX9_init_61 (by decide) ?_
  refine lv_icmp_ge (tgt := 100) hx hb dX9_init_63 (by decide) (fun c9 => absurd c9 (by decide)) (fun _ => ?_)
  refine lv_aload_n hx hb dX9_init_66 rfl (lv_at hl 1 rfl) ?_
  refine va_get (ci := 9) (v := .ref q_1) (C := RX9) (T := TX9) (N := 9) hx hb ht iX9 hown hK hP 0 rfl rfl 0 (by decide) (ht _ k_50) (fun _ h9 => h9) rfl dX9_init_67 ?_
  refine lv_iload_n hx hb dX9_init_70 rfl (lv_at hl 0 rfl) ?_
  refine va_new (ci := 8) (fs := [.null, .null, .int 0]) (C := RX8) (T := TX8) (N := 3) hx hb ht iX8 tyX8 tyX8_ok hown (ht _ k_49) (ht _ k_40) (ht _ k_41) hK hP hD hS hA rfl df8 (Nat.le_of_ble_eq_true rfl) (Nat.le_of_ble_eq_true rfl) dX9_init_71 (fun q_26 H hP hD hS => ?_)
  refine lv_dup hx hb dX9_init_74 rfl ?_
  refine lv_bipush (v := 12) hx hb dX9_init_75 (by decide) ?_
  have hFc := fr_lastF hD hS hA
  have hPc := fr_lastP hP
  refine va_callv (va_runI (As := [.int 12]) (rest := [.ref q_26, .int 3, .ref q_1]) ⟨hx, hb, hml, hown, ht⟩ (c_Song12 l G cy _ q_26 ) (cwI 1 ht (gc k_42) rfl rfl rfl (ht _ k_41) (ht _ k_64) (ht _ k_44) rfl (by decide +kernel) ⟨Nat.le_of_ble_eq_true rfl, Nat.le_of_ble_eq_true rfl⟩) ⟨En.blind, fun U hU hW => ⟨rfl, En.of hU hW hPc hK (fr_lastD (ws := [])) hN⟩⟩ rfl rfl hl.1 rfl (lv_room (Nat.le_of_ble_eq_true rfl)) dX9_init_77 ⟨Nat.le_of_ble_eq_true rfl, Nat.le_of_ble_eq_true rfl⟩) hS (fun q _ h => hFc q h) hFc (fun u_27 t H locs ht9 hvm hw hB hz1 hk1 hS => ?_)
  obtain ⟨hP1, hD1⟩ := hB
  rw [ht9] at hP1
  obtain ⟨hP, hD⟩ := fr_last hP hD hFc hk1 hP1 hD1
  clear hFc hPc hP1 hD1 hz1 hk1
  have hP : va_P G vwCl [(h, .inr (9, [.ref q_1, .ref q_2, .ref q_3, .int 0, .ref q_4, .int 0, .ref q_5, .int 0, .ref q_7])), (q_1, .inl (cy 4, 14, .inr (.inr (.inr (.inr f_22))))), (q_2, .inl (cy 3, 14, .inr (.inl (fun _ => 0)))), (q_3, .inl (cy 5, 14, .inr (.inr (.inr (.inr f_25))))), (q_4, .inl (cy 6, 8, .inr (.inr (.inr (.inr (fun _ => none)))))), (q_5, .inr (5, [.ref (u_6 0), .ref (u_6 1), .int 0, .ref (u_6 2), .int 0])), (q_7, .inl (cy 2, 12, .inl (fun _ => 0))), (q_26, .inr (8, [.ref (u_27 0), .ref (u_27 1), .int 0])), ((u_27 0), .inl (cy 0, 12, .inl (fun _ => 0))), ((u_27 1), .inl (cy 0, 12, .inl (fun _ => 0)))] H := hP
  have hD : va_D A [(h, .inr (9, [.ref q_1, .ref q_2, .ref q_3, .int 0, .ref q_4, .int 0, .ref q_5, .int 0, .ref q_7])), (q_1, .inl (cy 4, 14, .inr (.inr (.inr (.inr f_22))))), (q_2, .inl (cy 3, 14, .inr (.inl (fun _ => 0)))), (q_3, .inl (cy 5, 14, .inr (.inr (.inr (.inr f_25))))), (q_4, .inl (cy 6, 8, .inr (.inr (.inr (.inr (fun _ => none)))))), (q_5, .inr (5, [.ref (u_6 0), .ref (u_6 1), .int 0, .ref (u_6 2), .int 0])), (q_7, .inl (cy 2, 12, .inl (fun _ => 0))), (q_26, .inr (8, [.ref (u_27 0), .ref (u_27 1), .int 0])), ((u_27 0), .inl (cy 0, 12, .inl (fun _ => 0))), ((u_27 1), .inl (cy 0, 12, .inl (fun _ => 0)))] := hD
  refine ow_astq hx hb hK hP hD hS 1 4 7 8 rfl rfl rfl rfl (in_lit (by decide +kernel)) dX9_init_80 (fun f_28 H locs hP hD hS => ?_)
  have hP : va_P G vwCl [(h, .inr (9, [.ref q_1, .ref q_2, .ref q_3, .int 0, .ref q_4, .int 0, .ref q_5, .int 0, .ref q_7])), (q_1, .inl (cy 4, 14, .inr (.inr (.inr (.inr f_28))))), (q_2, .inl (cy 3, 14, .inr (.inl (fun _ => 0)))), (q_3, .inl (cy 5, 14, .inr (.inr (.inr (.inr f_25))))), (q_4, .inl (cy 6, 8, .inr (.inr (.inr (.inr (fun _ => none)))))), (q_5, .inr (5, [.ref (u_6 0), .ref (u_6 1), .int 0, .ref (u_6 2), .int 0])), (q_7, .inl (cy 2, 12, .inl (fun _ => 0))), (q_26, .inr (8, [.ref (u_27 0), .ref (u_27 1), .int 0])), ((u_27 0), .inl (cy 0, 12, .inl (fun _ => 0))), ((u_27 1), .inl (cy 0, 12, .inl (fun _ => 0)))] H := hP
  have hD : va_D A [(h, .inr (9, [.ref q_1, .ref q_2, .ref q_3, .int 0, .ref q_4, .int 0, .ref q_5, .int 0, .ref q_7])), (q_1, .inl (cy 4, 14, .inr (.inr (.inr (.inr f_28))))), (q_2, .inl (cy 3, 14, .inr (.inl (fun _ => 0)))), (q_3, .inl (cy 5, 14, .inr (.inr (.inr (.inr f_25))))), (q_4, .inl (cy 6, 8, .inr (.inr (.inr (.inr (fun _ => none)))))), (q_5, .inr (5, [.ref (u_6 0), .ref (u_6 1), .int 0, .ref (u_6 2), .int 0])), (q_7, .inl (cy 2, 12, .inl (fun _ => 0))), (q_26, .inr (8, [.ref (u_27 0), .ref (u_27 1), .int 0])), ((u_27 0), .inl (cy 0, 12, .inl (fun _ => 0))), ((u_27 1), .inl (cy 0, 12, .inl (fun _ => 0)))] := hD
  have hP : va_P G vwCl [(h, .inr (9, [.ref q_1, .ref q_2, .ref q_3, .int 0, .ref q_4, .int 0, .ref q_5, .int 0, .ref q_7])), (q_1, .inl (cy 4, 14, .inr (.inr (.inr (.inr f_28))))), (q_2, .inl (cy 3, 14, .inr (.inl (fun _ => 0)))), (q_3, .inl (cy 5, 14, .inr (.inr (.inr (.inr f_25))))), (q_4, .inl (cy 6, 8, .inr (.inr (.inr (.inr (fun _ => none)))))), (q_5, .inr (5, [.ref (u_6 0), .ref (u_6 1), .int 0, .ref (u_6 2), .int 0])), (q_7, .inl (cy 2, 12, .inl (fun _ => 0)))] H := hP.sub [0, 1, 2, 3, 4, 5, 6] rfl
  have hD : va_D A [(h, .inr (9, [.ref q_1, .ref q_2, .ref q_3, .int 0, .ref q_4, .int 0, .ref q_5, .int 0, .ref q_7])), (q_1, .inl (cy 4, 14, .inr (.inr (.inr (.inr f_28))))), (q_2, .inl (cy 3, 14, .inr (.inl (fun _ => 0)))), (q_3, .inl (cy 5, 14, .inr (.inr (.inr (.inr f_25))))), (q_4, .inl (cy 6, 8, .inr (.inr (.inr (.inr (fun _ => none)))))), (q_5, .inr (5, [.ref (u_6 0), .ref (u_6 1), .int 0, .ref (u_6 2), .int 0])), (q_7, .inl (cy 2, 12, .inl (fun _ => 0)))] := hD.sub [0, 1, 2, 3, 4, 5, 6] (by decide) rfl
  refine lv_aload_n hx hb dX9_init_81 rfl (lv_at hl 1 rfl) ?_
  refine va_get (ci := 9) (v := .ref q_3) (C := RX9) (T := TX9) (N := 9) hx hb ht iX9 hown hK hP 0 rfl rfl 2 (by decide) (ht _ k_54) (fun _ h9 => h9) rfl dX9_init_82 ?_
  refine lv_iload_n hx hb dX9_init_85 rfl (lv_at hl 0 rfl) ?_
  refine va_new (ci := 2) (fs := [.null, .null, .null, .null, .int 0]) (C := RX2) (T := TX2) (N := 5) hx hb ht iX2 tyX2 tyX2_ok hown (ht _ k_53) (ht _ k_65) (ht _ k_66) hK hP hD hS hA rfl df2 (Nat.le_of_ble_eq_true rfl) (Nat.le_of_ble_eq_true rfl) dX9_init_86 (fun q_29 H hP hD hS => ?_)
  refine lv_dup hx hb dX9_init_89 rfl ?_
  have hFc := fr_lastF hD hS hA
  have hPc := fr_lastP hP
  refine va_callv (va_runIN (As := []) (rest := [.ref q_29, .int 3, .ref q_3]) ⟨hx, hb, hml, hown, ht⟩ (c_Hearing l G cy _ q_29 ) ⟨va_cnB (host := "TuneLocks") 0 ht (gc k_67) rfl rfl rfl (hN.1 _ ns_66) (ht _ k_66) (by decide +kernel) ⟨Nat.le_of_ble_eq_true rfl, Nat.le_of_ble_eq_true rfl⟩, rfl, ht _ k_68⟩ ⟨En.blind, fun U hU hW => ⟨rfl, En.of hU hW hPc hK (fr_lastD (ws := [])) hN⟩⟩ rfl rfl hl.1 rfl (lv_room (Nat.le_of_ble_eq_true rfl)) dX9_init_90 ⟨Nat.le_of_ble_eq_true rfl, Nat.le_of_ble_eq_true rfl⟩) hS (fun q _ h => hFc q h) hFc (fun u_30 t H locs ht9 hvm hw hB hz1 hk1 hS => ?_)
  obtain ⟨hP1, hD1⟩ := hB
  rw [ht9] at hP1
  obtain ⟨hP, hD⟩ := fr_last hP hD hFc hk1 hP1 hD1
  clear hFc hPc hP1 hD1 hz1 hk1
  have hP : va_P G vwCl [(h, .inr (9, [.ref q_1, .ref q_2, .ref q_3, .int 0, .ref q_4, .int 0, .ref q_5, .int 0, .ref q_7])), (q_1, .inl (cy 4, 14, .inr (.inr (.inr (.inr f_28))))), (q_2, .inl (cy 3, 14, .inr (.inl (fun _ => 0)))), (q_3, .inl (cy 5, 14, .inr (.inr (.inr (.inr f_25))))), (q_4, .inl (cy 6, 8, .inr (.inr (.inr (.inr (fun _ => none)))))), (q_5, .inr (5, [.ref (u_6 0), .ref (u_6 1), .int 0, .ref (u_6 2), .int 0])), (q_7, .inl (cy 2, 12, .inl (fun _ => 0))), (q_29, .inr (2, [.ref (u_30 0), .ref (u_30 1), .ref (u_30 2), .ref (u_30 3), .int 0]))] H := hP
  have hD : va_D A [(h, .inr (9, [.ref q_1, .ref q_2, .ref q_3, .int 0, .ref q_4, .int 0, .ref q_5, .int 0, .ref q_7])), (q_1, .inl (cy 4, 14, .inr (.inr (.inr (.inr f_28))))), (q_2, .inl (cy 3, 14, .inr (.inl (fun _ => 0)))), (q_3, .inl (cy 5, 14, .inr (.inr (.inr (.inr f_25))))), (q_4, .inl (cy 6, 8, .inr (.inr (.inr (.inr (fun _ => none)))))), (q_5, .inr (5, [.ref (u_6 0), .ref (u_6 1), .int 0, .ref (u_6 2), .int 0])), (q_7, .inl (cy 2, 12, .inl (fun _ => 0))), (q_29, .inr (2, [.ref (u_30 0), .ref (u_30 1), .ref (u_30 2), .ref (u_30 3), .int 0]))] := hD
  refine ow_astq hx hb hK hP hD hS 3 5 7 2 rfl rfl rfl rfl (in_lit (by decide +kernel)) dX9_init_93 (fun f_31 H locs hP hD hS => ?_)
  have hP : va_P G vwCl [(h, .inr (9, [.ref q_1, .ref q_2, .ref q_3, .int 0, .ref q_4, .int 0, .ref q_5, .int 0, .ref q_7])), (q_1, .inl (cy 4, 14, .inr (.inr (.inr (.inr f_28))))), (q_2, .inl (cy 3, 14, .inr (.inl (fun _ => 0)))), (q_3, .inl (cy 5, 14, .inr (.inr (.inr (.inr f_31))))), (q_4, .inl (cy 6, 8, .inr (.inr (.inr (.inr (fun _ => none)))))), (q_5, .inr (5, [.ref (u_6 0), .ref (u_6 1), .int 0, .ref (u_6 2), .int 0])), (q_7, .inl (cy 2, 12, .inl (fun _ => 0))), (q_29, .inr (2, [.ref (u_30 0), .ref (u_30 1), .ref (u_30 2), .ref (u_30 3), .int 0]))] H := hP
  have hD : va_D A [(h, .inr (9, [.ref q_1, .ref q_2, .ref q_3, .int 0, .ref q_4, .int 0, .ref q_5, .int 0, .ref q_7])), (q_1, .inl (cy 4, 14, .inr (.inr (.inr (.inr f_28))))), (q_2, .inl (cy 3, 14, .inr (.inl (fun _ => 0)))), (q_3, .inl (cy 5, 14, .inr (.inr (.inr (.inr f_31))))), (q_4, .inl (cy 6, 8, .inr (.inr (.inr (.inr (fun _ => none)))))), (q_5, .inr (5, [.ref (u_6 0), .ref (u_6 1), .int 0, .ref (u_6 2), .int 0])), (q_7, .inl (cy 2, 12, .inl (fun _ => 0))), (q_29, .inr (2, [.ref (u_30 0), .ref (u_30 1), .ref (u_30 2), .ref (u_30 3), .int 0]))] := hD
  have hP : va_P G vwCl [(h, .inr (9, [.ref q_1, .ref q_2, .ref q_3, .int 0, .ref q_4, .int 0, .ref q_5, .int 0, .ref q_7])), (q_1, .inl (cy 4, 14, .inr (.inr (.inr (.inr f_28))))), (q_2, .inl (cy 3, 14, .inr (.inl (fun _ => 0)))), (q_3, .inl (cy 5, 14, .inr (.inr (.inr (.inr f_31))))), (q_4, .inl (cy 6, 8, .inr (.inr (.inr (.inr (fun _ => none)))))), (q_5, .inr (5, [.ref (u_6 0), .ref (u_6 1), .int 0, .ref (u_6 2), .int 0])), (q_7, .inl (cy 2, 12, .inl (fun _ => 0)))] H := hP.sub [0, 1, 2, 3, 4, 5, 6] rfl
  have hD : va_D A [(h, .inr (9, [.ref q_1, .ref q_2, .ref q_3, .int 0, .ref q_4, .int 0, .ref q_5, .int 0, .ref q_7])), (q_1, .inl (cy 4, 14, .inr (.inr (.inr (.inr f_28))))), (q_2, .inl (cy 3, 14, .inr (.inl (fun _ => 0)))), (q_3, .inl (cy 5, 14, .inr (.inr (.inr (.inr f_31))))), (q_4, .inl (cy 6, 8, .inr (.inr (.inr (.inr (fun _ => none)))))), (q_5, .inr (5, [.ref (u_6 0), .ref (u_6 1), .int 0, .ref (u_6 2), .int 0])), (q_7, .inl (cy 2, 12, .inl (fun _ => 0)))] := hD.sub [0, 1, 2, 3, 4, 5, 6] (by decide) rfl
  refine lv_iinc (v := 4) (lv' := [(1, .int 4), (0, .ref h)]) hx hb dX9_init_94 hl (k := 0) rfl (by decide) (by decide) rfl (fun ls hl => ?_)
  refine lv_goto (tgt := 60) hx hb dX9_init_97 (by decide) ?_
  refine lv_iload_n hx hb dX9_init_60 rfl (lv_at hl 0 rfl) ?_
  refine lv_bipush (v := 14) hx hb dX9_init_61 (by decide) ?_
  refine lv_icmp_ge (tgt := 100) hx hb dX9_init_63 (by decide) (fun c9 => absurd c9 (by decide)) (fun _ => ?_)
  refine lv_aload_n hx hb dX9_init_66 rfl (lv_at hl 1 rfl) ?_
  refine va_get (ci := 9) (v := .ref q_1) (C := RX9) (T := TX9) (N := 9) hx hb ht iX9 hown hK hP 0 rfl rfl 0 (by decide) (ht _ k_50) (fun _ h9 => h9) rfl dX9_init_67 ?_
  refine lv_iload_n hx hb dX9_init_70 rfl (lv_at hl 0 rfl) ?_
  refine va_new (ci := 8) (fs := [.null, .null, .int 0]) (C := RX8) (T := TX8) (N := 3) hx hb ht iX8 tyX8 tyX8_ok hown (ht _ k_49) (ht _ k_40) (ht _ k_41) hK hP hD hS hA rfl df8 (Nat.le_of_ble_eq_true rfl) (Nat.le_of_ble_eq_true rfl) dX9_init_71 (fun q_32 H hP hD hS => ?_)
  refine lv_dup hx hb dX9_init_74 rfl ?_
  refine lv_bipush (v := 12) hx hb dX9_init_75 (by decide) ?_
  have hFc := fr_lastF hD hS hA
  have hPc := fr_lastP hP
  refine va_callv (va_runI (As := [.int 12]) (rest := [.ref q_32, .int 4, .ref q_1]) ⟨hx, hb, hml, hown, ht⟩ (c_Song12 l G cy _ q_32 ) (cwI 1 ht (gc k_42) rfl rfl rfl (ht _ k_41) (ht _ k_64) (ht _ k_44) rfl (by decide +kernel) ⟨Nat.le_of_ble_eq_true rfl, Nat.le_of_ble_eq_true rfl⟩) ⟨En.blind, fun U hU hW => ⟨rfl, En.of hU hW hPc hK (fr_lastD (ws := [])) hN⟩⟩ rfl rfl hl.1 rfl (lv_room (Nat.le_of_ble_eq_true rfl)) dX9_init_77 ⟨Nat.le_of_ble_eq_true rfl, Nat.le_of_ble_eq_true rfl⟩) hS (fun q _ h => hFc q h) hFc (fun u_33 t H locs ht9 hvm hw hB hz1 hk1 hS => ?_)
  obtain ⟨hP1, hD1⟩ := hB
  rw [ht9] at hP1
  obtain ⟨hP, hD⟩ := fr_last hP hD hFc hk1 hP1 hD1
  clear hFc hPc hP1 hD1 hz1 hk1
  have hP : va_P G vwCl [(h, .inr (9, [.ref q_1, .ref q_2, .ref q_3, .int 0, .ref q_4, .int 0, .ref q_5, .int 0, .ref q_7])), (q_1, .inl (cy 4, 14, .inr (.inr (.inr (.inr f_28))))), (q_2, .inl (cy 3, 14, .inr (.inl (fun _ => 0)))), (q_3, .inl (cy 5, 14, .inr (.inr (.inr (.inr f_31))))), (q_4, .inl (cy 6, 8, .inr (.inr (.inr (.inr (fun _ => none)))))), (q_5, .inr (5, [.ref (u_6 0), .ref (u_6 1), .int 0, .ref (u_6 2), .int 0])), (q_7, .inl (cy 2, 12, .inl (fun _ => 0))), (q_32, .inr (8, [.ref (u_33 0), .ref (u_33 1), .int 0])), ((u_33 0), .inl (cy 0, 12, .inl (fun _ => 0))), ((u_33 1), .inl (cy 0, 12, .inl (fun _ => 0)))] H := hP
  have hD : va_D A [(h, .inr (9, [.ref q_1, .ref q_2, .ref q_3, .int 0, .ref q_4, .int 0, .ref q_5, .int 0, .ref q_7])), (q_1, .inl (cy 4, 14, .inr (.inr (.inr (.inr f_28))))), (q_2, .inl (cy 3, 14, .inr (.inl (fun _ => 0)))), (q_3, .inl (cy 5, 14, .inr (.inr (.inr (.inr f_31))))), (q_4, .inl (cy 6, 8, .inr (.inr (.inr (.inr (fun _ => none)))))), (q_5, .inr (5, [.ref (u_6 0), .ref (u_6 1), .int 0, .ref (u_6 2), .int 0])), (q_7, .inl (cy 2, 12, .inl (fun _ => 0))), (q_32, .inr (8, [.ref (u_33 0), .ref (u_33 1), .int 0])), ((u_33 0), .inl (cy 0, 12, .inl (fun _ => 0))), ((u_33 1), .inl (cy 0, 12, .inl (fun _ => 0)))] := hD
  refine ow_astq hx hb hK hP hD hS 1 4 7 8 rfl rfl rfl rfl (in_lit (by decide +kernel)) dX9_init_80 (fun f_34 H locs hP hD hS => ?_)
  have hP : va_P G vwCl [(h, .inr (9, [.ref q_1, .ref q_2, .ref q_3, .int 0, .ref q_4, .int 0, .ref q_5, .int 0, .ref q_7])), (q_1, .inl (cy 4, 14, .inr (.inr (.inr (.inr f_34))))), (q_2, .inl (cy 3, 14, .inr (.inl (fun _ => 0)))), (q_3, .inl (cy 5, 14, .inr (.inr (.inr (.inr f_31))))), (q_4, .inl (cy 6, 8, .inr (.inr (.inr (.inr (fun _ => none)))))), (q_5, .inr (5, [.ref (u_6 0), .ref (u_6 1), .int 0, .ref (u_6 2), .int 0])), (q_7, .inl (cy 2, 12, .inl (fun _ => 0))), (q_32, .inr (8, [.ref (u_33 0), .ref (u_33 1), .int 0])), ((u_33 0), .inl (cy 0, 12, .inl (fun _ => 0))), ((u_33 1), .inl (cy 0, 12, .inl (fun _ => 0)))] H := hP
  have hD : va_D A [(h, .inr (9, [.ref q_1, .ref q_2, .ref q_3, .int 0, .ref q_4, .int 0, .ref q_5, .int 0, .ref q_7])), (q_1, .inl (cy 4, 14, .inr (.inr (.inr (.inr f_34))))), (q_2, .inl (cy 3, 14, .inr (.inl (fun _ => 0)))), (q_3, .inl (cy 5, 14, .inr (.inr (.inr (.inr f_31))))), (q_4, .inl (cy 6, 8, .inr (.inr (.inr (.inr (fun _ => none)))))), (q_5, .inr (5, [.ref (u_6 0), .ref (u_6 1), .int 0, .ref (u_6 2), .int 0])), (q_7, .inl (cy 2, 12, .inl (fun _ => 0))), (q_32, .inr (8, [.ref (u_33 0), .ref (u_33 1), .int 0])), ((u_33 0), .inl (cy 0, 12, .inl (fun _ => 0))), ((u_33 1), .inl (cy 0, 12, .inl (fun _ => 0)))] := hD
  have hP : va_P G vwCl [(h, .inr (9, [.ref q_1, .ref q_2, .ref q_3, .int 0, .ref q_4, .int 0, .ref q_5, .int 0, .ref q_7])), (q_1, .inl (cy 4, 14, .inr (.inr (.inr (.inr f_34))))), (q_2, .inl (cy 3, 14, .inr (.inl (fun _ => 0)))), (q_3, .inl (cy 5, 14, .inr (.inr (.inr (.inr f_31))))), (q_4, .inl (cy 6, 8, .inr (.inr (.inr (.inr (fun _ => none)))))), (q_5, .inr (5, [.ref (u_6 0), .ref (u_6 1), .int 0, .ref (u_6 2), .int 0])), (q_7, .inl (cy 2, 12, .inl (fun _ => 0)))] H := hP.sub [0, 1, 2, 3, 4, 5, 6] rfl
  have hD : va_D A [(h, .inr (9, [.ref q_1, .ref q_2, .ref q_3, .int 0, .ref q_4, .int 0, .ref q_5, .int 0, .ref q_7])), (q_1, .inl (cy 4, 14, .inr (.inr (.inr (.inr f_34))))), (q_2, .inl (cy 3, 14, .inr (.inl (fun _ => 0)))), (q_3, .inl (cy 5, 14, .inr (.inr (.inr (.inr f_31))))), (q_4, .inl (cy 6, 8, .inr (.inr (.inr (.inr (fun _ => none)))))), (q_5, .inr (5, [.ref (u_6 0), .ref (u_6 1), .int 0, .ref (u_6 2), .int 0])), (q_7, .inl (cy 2, 12, .inl (fun _ => 0)))] := hD.sub [0, 1, 2, 3, 4, 5, 6] (by decide) rfl
  refine lv_aload_n hx hb dX9_init_81 rfl (lv_at hl 1 rfl) ?_
  refine va_get (ci := 9) (v := .ref q_3) (C := RX9) (T := TX9) (N := 9) hx hb ht iX9 hown hK hP 0 rfl rfl 2 (by decide) (ht _ k_54) (fun _ h9 => h9) rfl dX9_init_82 ?_
  refine lv_iload_n hx hb dX9_init_85 rfl (lv_at hl 0 rfl) ?_
  refine va_new (ci := 2) (fs := [.null, .null, .null, .null, .int 0]) (C := RX2) (T := TX2) (N := 5) hx hb ht iX2 tyX2 tyX2_ok hown (ht _ k_53) (ht _ k_65) (ht _ k_66) hK hP hD hS hA rfl df2 (Nat.le_of_ble_eq_true rfl) (Nat.le_of_ble_eq_true rfl) dX9_init_86 (fun q_35 H hP hD hS => ?_)
  refine lv_dup hx hb dX9_init_89 rfl ?_
  have hFc := fr_lastF hD hS hA
  have hPc := fr_lastP hP
  refine va_callv (va_runIN (As := []) (rest := [.ref q_35, .int 4, .ref q_3]) ⟨hx, hb, hml, hown, ht⟩ (c_Hearing l G cy _ q_35 ) ⟨va_cnB (host := "TuneLocks") 0 ht (gc k_67) rfl rfl rfl (hN.1 _ ns_66) (ht _ k_66) (by decide +kernel) ⟨Nat.le_of_ble_eq_true rfl, Nat.le_of_ble_eq_true rfl⟩, rfl, ht _ k_68⟩ ⟨En.blind, fun U hU hW => ⟨rfl, En.of hU hW hPc hK (fr_lastD (ws := [])) hN⟩⟩ rfl rfl hl.1 rfl (lv_room (Nat.le_of_ble_eq_true rfl)) dX9_init_90 ⟨Nat.le_of_ble_eq_true rfl, Nat.le_of_ble_eq_true rfl⟩) hS (fun q _ h => hFc q h) hFc (fun u_36 t H locs ht9 hvm hw hB hz1 hk1 hS => ?_)
  obtain ⟨hP1, hD1⟩ := hB
  rw [ht9] at hP1
  obtain ⟨hP, hD⟩ := fr_last hP hD hFc hk1 hP1 hD1
  clear hFc hPc hP1 hD1 hz1 hk1
  have hP : va_P G vwCl [(h, .inr (9, [.ref q_1, .ref q_2, .ref q_3, .int 0, .ref q_4, .int 0, .ref q_5, .int 0, .ref q_7])), (q_1, .inl (cy 4, 14, .inr (.inr (.inr (.inr f_34))))), (q_2, .inl (cy 3, 14, .inr (.inl (fun _ => 0)))), (q_3, .inl (cy 5, 14, .inr (.inr (.inr (.inr f_31))))), (q_4, .inl (cy 6, 8, .inr (.inr (.inr (.inr (fun _ => none)))))), (q_5, .inr (5, [.ref (u_6 0), .ref (u_6 1), .int 0, .ref (u_6 2), .int 0])), (q_7, .inl (cy 2, 12, .inl (fun _ => 0))), (q_35, .inr (2, [.ref (u_36 0), .ref (u_36 1), .ref (u_36 2), .ref (u_36 3), .int 0]))] H := hP
  have hD : va_D A [(h, .inr (9, [.ref q_1, .ref q_2, .ref q_3, .int 0, .ref q_4, .int 0, .ref q_5, .int 0, .ref q_7])), (q_1, .inl (cy 4, 14, .inr (.inr (.inr (.inr f_34))))), (q_2, .inl (cy 3, 14, .inr (.inl (fun _ => 0)))), (q_3, .inl (cy 5, 14, .inr (.inr (.inr (.inr f_31))))), (q_4, .inl (cy 6, 8, .inr (.inr (.inr (.inr (fun _ => none)))))), (q_5, .inr (5, [.ref (u_6 0), .ref (u_6 1), .int 0, .ref (u_6 2), .int 0])), (q_7, .inl (cy 2, 12, .inl (fun _ => 0))), (q_35, .inr (2, [.ref (u_36 0), .ref (u_36 1), .ref (u_36 2), .ref (u_36 3), .int 0]))] := hD
  refine ow_astq hx hb hK hP hD hS 3 5 7 2 rfl rfl rfl rfl (in_lit (by decide +kernel)) dX9_init_93 (fun f_37 H locs hP hD hS => ?_)
  have hP : va_P G vwCl [(h, .inr (9, [.ref q_1, .ref q_2, .ref q_3, .int 0, .ref q_4, .int 0, .ref q_5, .int 0, .ref q_7])), (q_1, .inl (cy 4, 14, .inr (.inr (.inr (.inr f_34))))), (q_2, .inl (cy 3, 14, .inr (.inl (fun _ => 0)))), (q_3, .inl (cy 5, 14, .inr (.inr (.inr (.inr f_37))))), (q_4, .inl (cy 6, 8, .inr (.inr (.inr (.inr (fun _ => none)))))), (q_5, .inr (5, [.ref (u_6 0), .ref (u_6 1), .int 0, .ref (u_6 2), .int 0])), (q_7, .inl (cy 2, 12, .inl (fun _ => 0))), (q_35, .inr (2, [.ref (u_36 0), .ref (u_36 1), .ref (u_36 2), .ref (u_36 3), .int 0]))] H := hP
  have hD : va_D A [(h, .inr (9, [.ref q_1, .ref q_2, .ref q_3, .int 0, .ref q_4, .int 0, .ref q_5, .int 0, .ref q_7])), (q_1, .inl (cy 4, 14, .inr (.inr (.inr (.inr f_34))))), (q_2, .inl (cy 3, 14, .inr (.inl (fun _ => 0)))), (q_3, .inl (cy 5, 14, .inr (.inr (.inr (.inr f_37))))), (q_4, .inl (cy 6, 8, .inr (.inr (.inr (.inr (fun _ => none)))))), (q_5, .inr (5, [.ref (u_6 0), .ref (u_6 1), .int 0, .ref (u_6 2), .int 0])), (q_7, .inl (cy 2, 12, .inl (fun _ => 0))), (q_35, .inr (2, [.ref (u_36 0), .ref (u_36 1), .ref (u_36 2), .ref (u_36 3), .int 0]))] := hD
  have hP : va_P G vwCl [(h, .inr (9, [.ref q_1, .ref q_2, .ref q_3, .int 0, .ref q_4, .int 0, .ref q_5, .int 0, .ref q_7])), (q_1, .inl (cy 4, 14, .inr (.inr (.inr (.inr f_34))))), (q_2, .inl (cy 3, 14, .inr (.inl (fun _ => 0)))), (q_3, .inl (cy 5, 14, .inr (.inr (.inr (.inr f_37))))), (q_4, .inl (cy 6, 8, .inr (.inr (.inr (.inr (fun _ => none)))))), (q_5, .inr (5, [.ref (u_6 0), .ref (u_6 1), .int 0, .ref (u_6 2), .int 0])), (q_7, .inl (cy 2, 12, .inl (fun _ => 0)))] H := hP.sub [0, 1, 2, 3, 4, 5, 6] rfl
  have hD : va_D A [(h, .inr (9, [.ref q_1, .ref q_2, .ref q_3, .int 0, .ref q_4, .int 0, .ref q_5, .int 0, .ref q_7])), (q_1, .inl (cy 4, 14, .inr (.inr (.inr (.inr f_34))))), (q_2, .inl (cy 3, 14, .inr (.inl (fun _ => 0)))), (q_3, .inl (cy 5, 14, .inr (.inr (.inr (.inr f_37))))), (q_4, .inl (cy 6, 8, .inr (.inr (.inr (.inr (fun _ => none)))))), (q_5, .inr (5, [.ref (u_6 0), .ref (u_6 1), .int 0, .ref (u_6 2), .int 0])), (q_7, .inl (cy 2, 12, .inl (fun _ => 0)))] := hD.sub [0, 1, 2, 3, 4, 5, 6] (by decide) rfl
  refine lv_iinc (v := 5) (lv' := [(1, .int 5), (0, .ref h)]) hx hb dX9_init_94 hl (k := 0) rfl (by decide) (by decide) rfl (fun ls hl => ?_)
  refine lv_goto (tgt := 60) hx hb dX9_init_97 (by decide) ?_
  refine lv_iload_n hx hb dX9_init_60 rfl (lv_at hl 0 rfl) ?_
  refine lv_bipush (v := 14) hx hb dX9_init_61 (by decide) ?_
  refine lv_icmp_ge (tgt := 100) hx hb dX9_init_63 (by decide) (fun c9 => absurd c9 (by decide)) (fun _ => ?_)
  refine lv_aload_n hx hb dX9_init_66 rfl (lv_at hl 1 rfl) ?_
  refine va_get (ci := 9) (v := .ref q_1) (C := RX9) (T := TX9) (N := 9) hx hb ht iX9 hown hK hP 0 rfl rfl 0 (by decide) (ht _ k_50) (fun _ h9 => h9) rfl dX9_init_67 ?_
  refine lv_iload_n hx hb dX9_init_70 rfl (lv_at hl 0 rfl) ?_
  refine va_new (ci := 8) (fs := [.null, .null, .int 0]) (C := RX8) (T := TX8) (N := 3) hx hb ht iX8 tyX8 tyX8_ok hown (ht _ k_49) (ht _ k_40) (ht _ k_41) hK hP hD hS hA rfl df8 (Nat.le_of_ble_eq_true rfl) (Nat.le_of_ble_eq_true rfl) dX9_init_71 (fun q_38 H hP hD hS => ?_)
  refine lv_dup hx hb dX9_init_74 rfl ?_
  refine lv_bipush (v := 12) hx hb dX9_init_75 (by decide) ?_
  have hFc := fr_lastF hD hS hA
  have hPc := fr_lastP hP
  refine va_callv (va_runI (As := [.int 12]) (rest := [.ref q_38, .int 5, .ref q_1]) ⟨hx, hb, hml, hown, ht⟩ (c_Song12 l G cy _ q_38 ) (cwI 1 ht (gc k_42) rfl rfl rfl (ht _ k_41) (ht _ k_64) (ht _ k_44) rfl (by decide +kernel) ⟨Nat.le_of_ble_eq_true rfl, Nat.le_of_ble_eq_true rfl⟩) ⟨En.blind, fun U hU hW => ⟨rfl, En.of hU hW hPc hK (fr_lastD (ws := [])) hN⟩⟩ rfl rfl hl.1 rfl (lv_room (Nat.le_of_ble_eq_true rfl)) dX9_init_77 ⟨Nat.le_of_ble_eq_true rfl, Nat.le_of_ble_eq_true rfl⟩) hS (fun q _ h => hFc q h) hFc (fun u_39 t H locs ht9 hvm hw hB hz1 hk1 hS => ?_)
  obtain ⟨hP1, hD1⟩ := hB
  rw [ht9] at hP1
  obtain ⟨hP, hD⟩ := fr_last hP hD hFc hk1 hP1 hD1
  clear hFc hPc hP1 hD1 hz1 hk1
  have hP : va_P G vwCl [(h, .inr (9, [.ref q_1, .ref q_2, .ref q_3, .int 0, .ref q_4, .int 0, .ref q_5, .int 0, .ref q_7])), (q_1, .inl (cy 4, 14, .inr (.inr (.inr (.inr f_34))))), (q_2, .inl (cy 3, 14, .inr (.inl (fun _ => 0)))), (q_3, .inl (cy 5, 14, .inr (.inr (.inr (.inr f_37))))), (q_4, .inl (cy 6, 8, .inr (.inr (.inr (.inr (fun _ => none)))))), (q_5, .inr (5, [.ref (u_6 0), .ref (u_6 1), .int 0, .ref (u_6 2), .int 0])), (q_7, .inl (cy 2, 12, .inl (fun _ => 0))), (q_38, .inr (8, [.ref (u_39 0), .ref (u_39 1), .int 0])), ((u_39 0), .inl (cy 0, 12, .inl (fun _ => 0))), ((u_39 1), .inl (cy 0, 12, .inl (fun _ => 0)))] H := hP
  have hD : va_D A [(h, .inr (9, [.ref q_1, .ref q_2, .ref q_3, .int 0, .ref q_4, .int 0, .ref q_5, .int 0, .ref q_7])), (q_1, .inl (cy 4, 14, .inr (.inr (.inr (.inr f_34))))), (q_2, .inl (cy 3, 14, .inr (.inl (fun _ => 0)))), (q_3, .inl (cy 5, 14, .inr (.inr (.inr (.inr f_37))))), (q_4, .inl (cy 6, 8, .inr (.inr (.inr (.inr (fun _ => none)))))), (q_5, .inr (5, [.ref (u_6 0), .ref (u_6 1), .int 0, .ref (u_6 2), .int 0])), (q_7, .inl (cy 2, 12, .inl (fun _ => 0))), (q_38, .inr (8, [.ref (u_39 0), .ref (u_39 1), .int 0])), ((u_39 0), .inl (cy 0, 12, .inl (fun _ => 0))), ((u_39 1), .inl (cy 0, 12, .inl (fun _ => 0)))] := hD
  refine ow_astq hx hb hK hP hD hS 1 4 7 8 rfl rfl rfl rfl (in_lit (by decide +kernel)) dX9_init_80 (fun f_40 H locs hP hD hS => ?_)
  have hP : va_P G vwCl [(h, .inr (9, [.ref q_1, .ref q_2, .ref q_3, .int 0, .ref q_4, .int 0, .ref q_5, .int 0, .ref q_7])), (q_1, .inl (cy 4, 14, .inr (.inr (.inr (.inr f_40))))), (q_2, .inl (cy 3, 14, .inr (.inl (fun _ => 0)))), (q_3, .inl (cy 5, 14, .inr (.inr (.inr (.inr f_37))))), (q_4, .inl (cy 6, 8, .inr (.inr (.inr (.inr (fun _ => none)))))), (q_5, .inr (5, [.ref (u_6 0), .ref (u_6 1), .int 0, .ref (u_6 2), .int 0])), (q_7, .inl (cy 2, 12, .inl (fun _ => 0))), (q_38, .inr (8, [.ref (u_39 0), .ref (u_39 1), .int 0])), ((u_39 0), .inl (cy 0, 12, .inl (fun _ => 0))), ((u_39 1), .inl (cy 0, 12, .inl (fun _ => 0)))] H := hP
  have hD : va_D A [(h, .inr (9, [.ref q_1, .ref q_2, .ref q_3, .int 0, .ref q_4, .int 0, .ref q_5, .int 0, .ref q_7])), (q_1, .inl (cy 4, 14, .inr (.inr (.inr (.inr f_40))))), (q_2, .inl (cy 3, 14, .inr (.inl (fun _ => 0)))), (q_3, .inl (cy 5, 14, .inr (.inr (.inr (.inr f_37))))), (q_4, .inl (cy 6, 8, .inr (.inr (.inr (.inr (fun _ => none)))))), (q_5, .inr (5, [.ref (u_6 0), .ref (u_6 1), .int 0, .ref (u_6 2), .int 0])), (q_7, .inl (cy 2, 12, .inl (fun _ => 0))), (q_38, .inr (8, [.ref (u_39 0), .ref (u_39 1), .int 0])), ((u_39 0), .inl (cy 0, 12, .inl (fun _ => 0))), ((u_39 1), .inl (cy 0, 12, .inl (fun _ => 0)))] := hD
  have hP : va_P G vwCl [(h, .inr (9, [.ref q_1, .ref q_2, .ref q_3, .int 0, .ref q_4, .int 0, .ref q_5, .int 0, .ref q_7])), (q_1, .inl (cy 4, 14, .inr (.inr (.inr (.inr f_40))))), (q_2, .inl (cy 3, 14, .inr (.inl (fun _ => 0)))), (q_3, .inl (cy 5, 14, .inr (.inr (.inr (.inr f_37))))), (q_4, .inl (cy 6, 8, .inr (.inr (.inr (.inr (fun _ => none)))))), (q_5, .inr (5, [.ref (u_6 0), .ref (u_6 1), .int 0, .ref (u_6 2), .int 0])), (q_7, .inl (cy 2, 12, .inl (fun _ => 0)))] H := hP.sub [0, 1, 2, 3, 4, 5, 6] rfl
  have hD : va_D A [(h, .inr (9, [.ref q_1, .ref q_2, .ref q_3, .int 0, .ref q_4, .int 0, .ref q_5, .int 0, .ref q_7])), (q_1, .inl (cy 4, 14, .inr (.inr (.inr (.inr f_40))))), (q_2, .inl (cy 3, 14, .inr (.inl (fun _ => 0)))), (q_3, .inl (cy 5, 14, .inr (.inr (.inr (.inr f_37))))), (q_4, .inl (cy 6, 8, .inr (.inr (.inr (.inr (fun _ => none)))))), (q_5, .inr (5, [.ref (u_6 0), .ref (u_6 1), .int 0, .ref (u_6 2), .int 0])), (q_7, .inl (cy 2, 12, .inl (fun _ => 0)))] := hD.sub [0, 1, 2, 3, 4, 5, 6] (by decide) rfl
  refine lv_aload_n hx hb dX9_init_81 rfl (lv_at hl 1 rfl) ?_
  refine va_get (ci := 9) (v := .ref q_3) (C := RX9) (T := TX9) (N := 9) hx hb ht iX9 hown hK hP 0 rfl rfl 2 (by decide) (ht _ k_54) (fun _ h9 => h9) rfl dX9_init_82 ?_
  refine lv_iload_n hx hb dX9_init_85 rfl (lv_at hl 0 rfl) ?_
  refine va_new (ci := 2) (fs := [.null, .null, .null, .null, .int 0]) (C := RX2) (T := TX2) (N := 5) hx hb ht iX2 tyX2 tyX2_ok hown (ht _ k_53) (ht _ k_65) (ht _ k_66) hK hP hD hS hA rfl df2 (Nat.le_of_ble_eq_true rfl) (Nat.le_of_ble_eq_true rfl) dX9_init_86 (fun q_41 H hP hD hS => ?_)
  refine lv_dup hx hb dX9_init_89 rfl ?_
  have hFc := fr_lastF hD hS hA
  have hPc := fr_lastP hP
  refine va_callv (va_runIN (As := []) (rest := [.ref q_41, .int 5, .ref q_3]) ⟨hx, hb, hml, hown, ht⟩ (c_Hearing l G cy _ q_41 ) ⟨va_cnB (host := "TuneLocks") 0 ht (gc k_67) rfl rfl rfl (hN.1 _ ns_66) (ht _ k_66) (by decide +kernel) ⟨Nat.le_of_ble_eq_true rfl, Nat.le_of_ble_eq_true rfl⟩, rfl, ht _ k_68⟩ ⟨En.blind, fun U hU hW => ⟨rfl, En.of hU hW hPc hK (fr_lastD (ws := [])) hN⟩⟩ rfl rfl hl.1 rfl (lv_room (Nat.le_of_ble_eq_true rfl)) dX9_init_90 ⟨Nat.le_of_ble_eq_true rfl, Nat.le_of_ble_eq_true rfl⟩) hS (fun q _ h => hFc q h) hFc (fun u_42 t H locs ht9 hvm hw hB hz1 hk1 hS => ?_)
  obtain ⟨hP1, hD1⟩ := hB
  rw [ht9] at hP1
  obtain ⟨hP, hD⟩ := fr_last hP hD hFc hk1 hP1 hD1
  clear hFc hPc hP1 hD1 hz1 hk1
  have hP : va_P G vwCl [(h, .inr (9, [.ref q_1, .ref q_2, .ref q_3, .int 0, .ref q_4, .int 0, .ref q_5, .int 0, .ref q_7])), (q_1, .inl (cy 4, 14, .inr (.inr (.inr (.inr f_40))))), (q_2, .inl (cy 3, 14, .inr (.inl (fun _ => 0)))), (q_3, .inl (cy 5, 14, .inr (.inr (.inr (.inr f_37))))), (q_4, .inl (cy 6, 8, .inr (.inr (.inr (.inr (fun _ => none)))))), (q_5, .inr (5, [.ref (u_6 0), .ref (u_6 1), .int 0, .ref (u_6 2), .int 0])), (q_7, .inl (cy 2, 12, .inl (fun _ => 0))), (q_41, .inr (2, [.ref (u_42 0), .ref (u_42 1), .ref (u_42 2), .ref (u_42 3), .int 0]))] H := hP
  have hD : va_D A [(h, .inr (9, [.ref q_1, .ref q_2, .ref q_3, .int 0, .ref q_4, .int 0, .ref q_5, .int 0, .ref q_7])), (q_1, .inl (cy 4, 14, .inr (.inr (.inr (.inr f_40))))), (q_2, .inl (cy 3, 14, .inr (.inl (fun _ => 0)))), (q_3, .inl (cy 5, 14, .inr (.inr (.inr (.inr f_37))))), (q_4, .inl (cy 6, 8, .inr (.inr (.inr (.inr (fun _ => none)))))), (q_5, .inr (5, [.ref (u_6 0), .ref (u_6 1), .int 0, .ref (u_6 2), .int 0])), (q_7, .inl (cy 2, 12, .inl (fun _ => 0))), (q_41, .inr (2, [.ref (u_42 0), .ref (u_42 1), .ref (u_42 2), .ref (u_42 3), .int 0]))] := hD
  refine ow_astq hx hb hK hP hD hS 3 5 7 2 rfl rfl rfl rfl (in_lit (by decide +kernel)) dX9_init_93 (fun f_43 H locs hP hD hS => ?_)
  have hP : va_P G vwCl [(h, .inr (9, [.ref q_1, .ref q_2, .ref q_3, .int 0, .ref q_4, .int 0, .ref q_5, .int 0, .ref q_7])), (q_1, .inl (cy 4, 14, .inr (.inr (.inr (.inr f_40))))), (q_2, .inl (cy 3, 14, .inr (.inl (fun _ => 0)))), (q_3, .inl (cy 5, 14, .inr (.inr (.inr (.inr f_43))))), (q_4, .inl (cy 6, 8, .inr (.inr (.inr (.inr (fun _ => none)))))), (q_5, .inr (5, [.ref (u_6 0), .ref (u_6 1), .int 0, .ref (u_6 2), .int 0])), (q_7, .inl (cy 2, 12, .inl (fun _ => 0))), (q_41, .inr (2, [.ref (u_42 0), .ref (u_42 1), .ref (u_42 2), .ref (u_42 3), .int 0]))] H := hP
  have hD : va_D A [(h, .inr (9, [.ref q_1, .ref q_2, .ref q_3, .int 0, .ref q_4, .int 0, .ref q_5, .int 0, .ref q_7])), (q_1, .inl (cy 4, 14, .inr (.inr (.inr (.inr f_40))))), (q_2, .inl (cy 3, 14, .inr (.inl (fun _ => 0)))), (q_3, .inl (cy 5, 14, .inr (.inr (.inr (.inr f_43))))), (q_4, .inl (cy 6, 8, .inr (.inr (.inr (.inr (fun _ => none)))))), (q_5, .inr (5, [.ref (u_6 0), .ref (u_6 1), .int 0, .ref (u_6 2), .int 0])), (q_7, .inl (cy 2, 12, .inl (fun _ => 0))), (q_41, .inr (2, [.ref (u_42 0), .ref (u_42 1), .ref (u_42 2), .ref (u_42 3), .int 0]))] := hD
  have hP : va_P G vwCl [(h, .inr (9, [.ref q_1, .ref q_2, .ref q_3, .int 0, .ref q_4, .int 0, .ref q_5, .int 0, .ref q_7])), (q_1, .inl (cy 4, 14, .inr (.inr (.inr (.inr f_40))))), (q_2, .inl (cy 3, 14, .inr (.inl (fun _ => 0)))), (q_3, .inl (cy 5, 14, .inr (.inr (.inr (.inr f_43))))), (q_4, .inl (cy 6, 8, .inr (.inr (.inr (.inr (fun _ => none)))))), (q_5, .inr (5, [.ref (u_6 0), .ref (u_6 1), .int 0, .ref (u_6 2), .int 0])), (q_7, .inl (cy 2, 12, .inl (fun _ => 0)))] H := hP.sub [0, 1, 2, 3, 4, 5, 6] rfl
  have hD : va_D A [(h, .inr (9, [.ref q_1, .ref q_2, .ref q_3, .int 0, .ref q_4, .int 0, .ref q_5, .int 0, .ref q_7])), (q_1, .inl (cy 4, 14, .inr (.inr (.inr (.inr f_40))))), (q_2, .inl (cy 3, 14, .inr (.inl (fun _ => 0)))), (q_3, .inl (cy 5, 14, .inr (.inr (.inr (.inr f_43))))), (q_4, .inl (cy 6, 8, .inr (.inr (.inr (.inr (fun _ => none)))))), (q_5, .inr (5, [.ref (u_6 0), .ref (u_6 1), .int 0, .ref (u_6 2), .int 0])), (q_7, .inl (cy 2, 12, .inl (fun _ => 0)))] := hD.sub [0, 1, 2, 3, 4, 5, 6] (by decide) rfl
  refine lv_iinc (v := 6) (lv' := [(1, .int 6), (0, .ref h)]) hx hb dX9_init_94 hl (k := 0) rfl (by decide) (by decide) rfl (fun ls hl => ?_)
  refine lv_goto (tgt := 60) hx hb dX9_init_97 (by decide) ?_
  refine lv_iload_n hx hb dX9_init_60 rfl (lv_at hl 0 rfl) ?_
  refine lv_bipush (v := 14) hx hb dX9_init_61 (by decide) ?_
  refine lv_icmp_ge (tgt := 100) hx hb dX9_init_63 (by decide) (fun c9 => absurd c9 (by decide)) (fun _ => ?_)
  refine lv_aload_n hx hb dX9_init_66 rfl (lv_at hl 1 rfl) ?_
  refine va_get (ci := 9) (v := .ref q_1) (C := RX9) (T := TX9) (N := 9) hx hb ht iX9 hown hK hP 0 rfl rfl 0 (by decide) (ht _ k_50) (fun _ h9 => h9) rfl dX9_init_67 ?_
  refine lv_iload_n hx hb dX9_init_70 rfl (lv_at hl 0 rfl) ?_
  refine va_new (ci := 8) (fs := [.null, .null, .int 0]) (C := RX8) (T := TX8) (N := 3) hx hb ht iX8 tyX8 tyX8_ok hown (ht _ k_49) (ht _ k_40) (ht _ k_41) hK hP hD hS hA rfl df8 (Nat.le_of_ble_eq_true rfl) (Nat.le_of_ble_eq_true rfl) dX9_init_71 (fun q_44 H hP hD hS => ?_)
  refine lv_dup hx hb dX9_init_74 rfl ?_
  refine lv_bipush (v := 12) hx hb dX9_init_75 (by decide) ?_
  have hFc := fr_lastF hD hS hA
  have hPc := fr_lastP hP
  refine va_callv (va_runI (As := [.int 12]) (rest := [.ref q_44, .int 6, .ref q_1]) ⟨hx, hb, hml, hown, ht⟩ (c_Song12 l G cy _ q_44 ) (cwI 1 ht (gc k_42) rfl rfl rfl (ht _ k_41) (ht _ k_64) (ht _ k_44) rfl (by decide +kernel) ⟨Nat.le_of_ble_eq_true rfl, Nat.le_of_ble_eq_true rfl⟩) ⟨En.blind, fun U hU hW => ⟨rfl, En.of hU hW hPc hK (fr_lastD (ws := [])) hN⟩⟩ rfl rfl hl.1 rfl (lv_room (Nat.le_of_ble_eq_true rfl)) dX9_init_77 ⟨Nat.le_of_ble_eq_true rfl, Nat.le_of_ble_eq_true rfl⟩) hS (fun q _ h => hFc q h) hFc (fun u_45 t H locs ht9 hvm hw hB hz1 hk1 hS => ?_)
  obtain ⟨hP1, hD1⟩ := hB
  rw [ht9] at hP1
  obtain ⟨hP, hD⟩ := fr_last hP hD hFc hk1 hP1 hD1
  clear hFc hPc hP1 hD1 hz1 hk1
  have hP : va_P G vwCl [(h, .inr (9, [.ref q_1, .ref q_2, .ref q_3, .int 0, .ref q_4, .int 0, .ref q_5, .int 0, .ref q_7])), (q_1, .inl (cy 4, 14, .inr (.inr (.inr (.inr f_40))))), (q_2, .inl (cy 3, 14, .inr (.inl (fun _ => 0)))), (q_3, .inl (cy 5, 14, .inr (.inr (.inr (.inr f_43))))), (q_4, .inl (cy 6, 8, .inr (.inr (.inr (.inr (fun _ => none)))))), (q_5, .inr (5, [.ref (u_6 0), .ref (u_6 1), .int 0, .ref (u_6 2), .int 0])), (q_7, .inl (cy 2, 12, .inl (fun _ => 0))), (q_44, .inr (8, [.ref (u_45 0), .ref (u_45 1), .int 0])), ((u_45 0), .inl (cy 0, 12, .inl (fun _ => 0))), ((u_45 1), .inl (cy 0, 12, .inl (fun _ => 0)))] H := hP
  have hD : va_D A [(h, .inr (9, [.ref q_1, .ref q_2, .ref q_3, .int 0, .ref q_4, .int 0, .ref q_5, .int 0, .ref q_7])), (q_1, .inl (cy 4, 14, .inr (.inr (.inr (.inr f_40))))), (q_2, .inl (cy 3, 14, .inr (.inl (fun _ => 0)))), (q_3, .inl (cy 5, 14, .inr (.inr (.inr (.inr f_43))))), (q_4, .inl (cy 6, 8, .inr (.inr (.inr (.inr (fun _ => none)))))), (q_5, .inr (5, [.ref (u_6 0), .ref (u_6 1), .int 0, .ref (u_6 2), .int 0])), (q_7, .inl (cy 2, 12, .inl (fun _ => 0))), (q_44, .inr (8, [.ref (u_45 0), .ref (u_45 1), .int 0])), ((u_45 0), .inl (cy 0, 12, .inl (fun _ => 0))), ((u_45 1), .inl (cy 0, 12, .inl (fun _ => 0)))] := hD
  refine ow_astq hx hb hK hP hD hS 1 4 7 8 rfl rfl rfl rfl (in_lit (by decide +kernel)) dX9_init_80 (fun f_46 H locs hP hD hS => ?_)
  have hP : va_P G vwCl [(h, .inr (9, [.ref q_1, .ref q_2, .ref q_3, .int 0, .ref q_4, .int 0, .ref q_5, .int 0, .ref q_7])), (q_1, .inl (cy 4, 14, .inr (.inr (.inr (.inr f_46))))), (q_2, .inl (cy 3, 14, .inr (.inl (fun _ => 0)))), (q_3, .inl (cy 5, 14, .inr (.inr (.inr (.inr f_43))))), (q_4, .inl (cy 6, 8, .inr (.inr (.inr (.inr (fun _ => none)))))), (q_5, .inr (5, [.ref (u_6 0), .ref (u_6 1), .int 0, .ref (u_6 2), .int 0])), (q_7, .inl (cy 2, 12, .inl (fun _ => 0))), (q_44, .inr (8, [.ref (u_45 0), .ref (u_45 1), .int 0])), ((u_45 0), .inl (cy 0, 12, .inl (fun _ => 0))), ((u_45 1), .inl (cy 0, 12, .inl (fun _ => 0)))] H := hP
  have hD : va_D A [(h, .inr (9, [.ref q_1, .ref q_2, .ref q_3, .int 0, .ref q_4, .int 0, .ref q_5, .int 0, .ref q_7])), (q_1, .inl (cy 4, 14, .inr (.inr (.inr (.inr f_46))))), (q_2, .inl (cy 3, 14, .inr (.inl (fun _ => 0)))), (q_3, .inl (cy 5, 14, .inr (.inr (.inr (.inr f_43))))), (q_4, .inl (cy 6, 8, .inr (.inr (.inr (.inr (fun _ => none)))))), (q_5, .inr (5, [.ref (u_6 0), .ref (u_6 1), .int 0, .ref (u_6 2), .int 0])), (q_7, .inl (cy 2, 12, .inl (fun _ => 0))), (q_44, .inr (8, [.ref (u_45 0), .ref (u_45 1), .int 0])), ((u_45 0), .inl (cy 0, 12, .inl (fun _ => 0))), ((u_45 1), .inl (cy 0, 12, .inl (fun _ => 0)))] := hD
  have hP : va_P G vwCl [(h, .inr (9, [.ref q_1, .ref q_2, .ref q_3, .int 0, .ref q_4, .int 0, .ref q_5, .int 0, .ref q_7])), (q_1, .inl (cy 4, 14, .inr (.inr (.inr (.inr f_46))))), (q_2, .inl (cy 3, 14, .inr (.inl (fun _ => 0)))), (q_3, .inl (cy 5, 14, .inr (.inr (.inr (.inr f_43))))), (q_4, .inl (cy 6, 8, .inr (.inr (.inr (.inr (fun _ => none)))))), (q_5, .inr (5, [.ref (u_6 0), .ref (u_6 1), .int 0, .ref (u_6 2), .int 0])), (q_7, .inl (cy 2, 12, .inl (fun _ => 0)))] H := hP.sub [0, 1, 2, 3, 4, 5, 6] rfl
  have hD : va_D A [(h, .inr (9, [.ref q_1, .ref q_2, .ref q_3, .int 0, .ref q_4, .int 0, .ref q_5, .int 0, .ref q_7])), (q_1, .inl (cy 4, 14, .inr (.inr (.inr (.inr f_46))))), (q_2, .inl (cy 3, 14, .inr (.inl (fun _ => 0)))), (q_3, .inl (cy 5, 14, .inr (.inr (.inr (.inr f_43))))), (q_4, .inl (cy 6, 8, .inr (.inr (.inr (.inr (fun _ => none)))))), (q_5, .inr (5, [.ref (u_6 0), .ref (u_6 1), .int 0, .ref (u_6 2), .int 0])), (q_7, .inl (cy 2, 12, .inl (fun _ => 0)))] := hD.sub [0, 1, 2, 3, 4, 5, 6] (by decide) rfl
  refine lv_aload_n hx hb dX9_init_81 rfl (lv_at hl 1 rfl) ?_
  refine va_get (ci := 9) (v := .ref q_3) (C := RX9) (T := TX9) (N := 9) hx hb ht iX9 hown hK hP 0 rfl rfl 2 (by decide) (ht _ k_54) (fun _ h9 => h9) rfl dX9_init_82 ?_
  refine lv_iload_n hx hb dX9_init_85 rfl (lv_at hl 0 rfl) ?_
  refine va_new (ci := 2) (fs := [.null, .null, .null, .null, .int 0]) (C := RX2) (T := TX2) (N := 5) hx hb ht iX2 tyX2 tyX2_ok hown (ht _ k_53) (ht _ k_65) (ht _ k_66) hK hP hD hS hA rfl df2 (Nat.le_of_ble_eq_true rfl) (Nat.le_of_ble_eq_true rfl) dX9_init_86 (fun q_47 H hP hD hS => ?_)
  refine lv_dup hx hb dX9_init_89 rfl ?_
  have hFc := fr_lastF hD hS hA
  have hPc := fr_lastP hP
  refine va_callv (va_runIN (As := []) (rest := [.ref q_47, .int 6, .ref q_3]) ⟨hx, hb, hml, hown, ht⟩ (c_Hearing l G cy _ q_47 ) ⟨va_cnB (host := "TuneLocks") 0 ht (gc k_67) rfl rfl rfl (hN.1 _ ns_66) (ht _ k_66) (by decide +kernel) ⟨Nat.le_of_ble_eq_true rfl, Nat.le_of_ble_eq_true rfl⟩, rfl, ht _ k_68⟩ ⟨En.blind, fun U hU hW => ⟨rfl, En.of hU hW hPc hK (fr_lastD (ws := [])) hN⟩⟩ rfl rfl hl.1 rfl (lv_room (Nat.le_of_ble_eq_true rfl)) dX9_init_90 ⟨Nat.le_of_ble_eq_true rfl, Nat.le_of_ble_eq_true rfl⟩) hS (fun q _ h => hFc q h) hFc (fun u_48 t H locs ht9 hvm hw hB hz1 hk1 hS => ?_)
  obtain ⟨hP1, hD1⟩ := hB
  rw [ht9] at hP1
  obtain ⟨hP, hD⟩ := fr_last hP hD hFc hk1 hP1 hD1
  clear hFc hPc hP1 hD1 hz1 hk1
  have hP : va_P G vwCl [(h, .inr (9, [.ref q_1, .ref q_2, .ref q_3, .int 0, .ref q_4, .int 0, .ref q_5, .int 0, .ref q_7])), (q_1, .inl (cy 4, 14, .inr (.inr (.inr (.inr f_46))))), (q_2, .inl (cy 3, 14, .inr (.inl (fun _ => 0)))), (q_3, .inl (cy 5, 14, .inr (.inr (.inr (.inr f_43))))), (q_4, .inl (cy 6, 8, .inr (.inr (.inr (.inr (fun _ => none)))))), (q_5, .inr (5, [.ref (u_6 0), .ref (u_6 1), .int 0, .ref (u_6 2), .int 0])), (q_7, .inl (cy 2, 12, .inl (fun _ => 0))), (q_47, .inr (2, [.ref (u_48 0), .ref (u_48 1), .ref (u_48 2), .ref (u_48 3), .int 0]))] H := hP
  have hD : va_D A [(h, .inr (9, [.ref q_1, .ref q_2, .ref q_3, .int 0, .ref q_4, .int 0, .ref q_5, .int 0, .ref q_7])), (q_1, .inl (cy 4, 14, .inr (.inr (.inr (.inr f_46))))), (q_2, .inl (cy 3, 14, .inr (.inl (fun _ => 0)))), (q_3, .inl (cy 5, 14, .inr (.inr (.inr (.inr f_43))))), (q_4, .inl (cy 6, 8, .inr (.inr (.inr (.inr (fun _ => none)))))), (q_5, .inr (5, [.ref (u_6 0), .ref (u_6 1), .int 0, .ref (u_6 2), .int 0])), (q_7, .inl (cy 2, 12, .inl (fun _ => 0))), (q_47, .inr (2, [.ref (u_48 0), .ref (u_48 1), .ref (u_48 2), .ref (u_48 3), .int 0]))] := hD
  refine ow_astq hx hb hK hP hD hS 3 5 7 2 rfl rfl rfl rfl (in_lit (by decide +kernel)) dX9_init_93 (fun f_49 H locs hP hD hS => ?_)
  have hP : va_P G vwCl [(h, .inr (9, [.ref q_1, .ref q_2, .ref q_3, .int 0, .ref q_4, .int 0, .ref q_5, .int 0, .ref q_7])), (q_1, .inl (cy 4, 14, .inr (.inr (.inr (.inr f_46))))), (q_2, .inl (cy 3, 14, .inr (.inl (fun _ => 0)))), (q_3, .inl (cy 5, 14, .inr (.inr (.inr (.inr f_49))))), (q_4, .inl (cy 6, 8, .inr (.inr (.inr (.inr (fun _ => none)))))), (q_5, .inr (5, [.ref (u_6 0), .ref (u_6 1), .int 0, .ref (u_6 2), .int 0])), (q_7, .inl (cy 2, 12, .inl (fun _ => 0))), (q_47, .inr (2, [.ref (u_48 0), .ref (u_48 1), .ref (u_48 2), .ref (u_48 3), .int 0]))] H := hP
  have hD : va_D A [(h, .inr (9, [.ref q_1, .ref q_2, .ref q_3, .int 0, .ref q_4, .int 0, .ref q_5, .int 0, .ref q_7])), (q_1, .inl (cy 4, 14, .inr (.inr (.inr (.inr f_46))))), (q_2, .inl (cy 3, 14, .inr (.inl (fun _ => 0)))), (q_3, .inl (cy 5, 14, .inr (.inr (.inr (.inr f_49))))), (q_4, .inl (cy 6, 8, .inr (.inr (.inr (.inr (fun _ => none)))))), (q_5, .inr (5, [.ref (u_6 0), .ref (u_6 1), .int 0, .ref (u_6 2), .int 0])), (q_7, .inl (cy 2, 12, .inl (fun _ => 0))), (q_47, .inr (2, [.ref (u_48 0), .ref (u_48 1), .ref (u_48 2), .ref (u_48 3), .int 0]))] := hD
  have hP : va_P G vwCl [(h, .inr (9, [.ref q_1, .ref q_2, .ref q_3, .int 0, .ref q_4, .int 0, .ref q_5, .int 0, .ref q_7])), (q_1, .inl (cy 4, 14, .inr (.inr (.inr (.inr f_46))))), (q_2, .inl (cy 3, 14, .inr (.inl (fun _ => 0)))), (q_3, .inl (cy 5, 14, .inr (.inr (.inr (.inr f_49))))), (q_4, .inl (cy 6, 8, .inr (.inr (.inr (.inr (fun _ => none)))))), (q_5, .inr (5, [.ref (u_6 0), .ref (u_6 1), .int 0, .ref (u_6 2), .int 0])), (q_7, .inl (cy 2, 12, .inl (fun _ => 0)))] H := hP.sub [0, 1, 2, 3, 4, 5, 6] rfl
  have hD : va_D A [(h, .inr (9, [.ref q_1, .ref q_2, .ref q_3, .int 0, .ref q_4, .int 0, .ref q_5, .int 0, .ref q_7])), (q_1, .inl (cy 4, 14, .inr (.inr (.inr (.inr f_46))))), (q_2, .inl (cy 3, 14, .inr (.inl (fun _ => 0)))), (q_3, .inl (cy 5, 14, .inr (.inr (.inr (.inr f_49))))), (q_4, .inl (cy 6, 8, .inr (.inr (.inr (.inr (fun _ => none)))))), (q_5, .inr (5, [.ref (u_6 0), .ref (u_6 1), .int 0, .ref (u_6 2), .int 0])), (q_7, .inl (cy 2, 12, .inl (fun _ => 0)))] := hD.sub [0, 1, 2, 3, 4, 5, 6] (by decide) rfl
  refine lv_iinc (v := 7) (lv' := [(1, .int 7), (0, .ref h)]) hx hb dX9_init_94 hl (k := 0) rfl (by decide) (by decide) rfl (fun ls hl => ?_)
  refine lv_goto (tgt := 60) hx hb dX9_init_97 (by decide) ?_
  refine lv_iload_n hx hb dX9_init_60 rfl (lv_at hl 0 rfl) ?_
  refine lv_bipush (v := 14) hx hb dX9_init_61 (by decide) ?_
  refine lv_icmp_ge (tgt := 100) hx hb dX9_init_63 (by decide) (fun c9 => absurd c9 (by decide)) (fun _ => ?_)
  refine lv_aload_n hx hb dX9_init_66 rfl (lv_at hl 1 rfl) ?_
  refine va_get (ci := 9) (v := .ref q_1) (C := RX9) (T := TX9) (N := 9) hx hb ht iX9 hown hK hP 0 rfl rfl 0 (by decide) (ht _ k_50) (fun _ h9 => h9) rfl dX9_init_67 ?_
  refine lv_iload_n hx hb dX9_init_70 rfl (lv_at hl 0 rfl) ?_
  refine va_new (ci := 8) (fs := [.null, .null, .int 0]) (C := RX8) (T := TX8) (N := 3) hx hb ht iX8 tyX8 tyX8_ok hown (ht _ k_49) (ht _ k_40) (ht _ k_41) hK hP hD hS hA rfl df8 (Nat.le_of_ble_eq_true rfl) (Nat.le_of_ble_eq_true rfl) dX9_init_71 (fun q_50 H hP hD hS => ?_)
  refine lv_dup hx hb dX9_init_74 rfl ?_
  refine lv_bipush (v := 12) hx hb dX9_init_75 (by decide) ?_
  have hFc := fr_lastF hD hS hA
  have hPc := fr_lastP hP
  refine va_callv (va_runI (As := [.int 12]) (rest := [.ref q_50, .int 7, .ref q_1]) ⟨hx, hb, hml, hown, ht⟩ (c_Song12 l G cy _ q_50 ) (cwI 1 ht (gc k_42) rfl rfl rfl (ht _ k_41) (ht _ k_64) (ht _ k_44) rfl (by decide +kernel) ⟨Nat.le_of_ble_eq_true rfl, Nat.le_of_ble_eq_true rfl⟩) ⟨En.blind, fun U hU hW => ⟨rfl, En.of hU hW hPc hK (fr_lastD (ws := [])) hN⟩⟩ rfl rfl hl.1 rfl (lv_room (Nat.le_of_ble_eq_true rfl)) dX9_init_77 ⟨Nat.le_of_ble_eq_true rfl, Nat.le_of_ble_eq_true rfl⟩) hS (fun q _ h => hFc q h) hFc (fun u_51 t H locs ht9 hvm hw hB hz1 hk1 hS => ?_)
  obtain ⟨hP1, hD1⟩ := hB
  rw [ht9] at hP1
  obtain ⟨hP, hD⟩ := fr_last hP hD hFc hk1 hP1 hD1
  clear hFc hPc hP1 hD1 hz1 hk1
  have hP : va_P G vwCl [(h, .inr (9, [.ref q_1, .ref q_2, .ref q_3, .int 0, .ref q_4, .int 0, .ref q_5, .int 0, .ref q_7])), (q_1, .inl (cy 4, 14, .inr (.inr (.inr (.inr f_46))))), (q_2, .inl (cy 3, 14, .inr (.inl (fun _ => 0)))), (q_3, .inl (cy 5, 14, .inr (.inr (.inr (.inr f_49))))), (q_4, .inl (cy 6, 8, .inr (.inr (.inr (.inr (fun _ => none)))))), (q_5, .inr (5, [.ref (u_6 0), .ref (u_6 1), .int 0, .ref (u_6 2), .int 0])), (q_7, .inl (cy 2, 12, .inl (fun _ => 0))), (q_50, .inr (8, [.ref (u_51 0), .ref (u_51 1), .int 0])), ((u_51 0), .inl (cy 0, 12, .inl (fun _ => 0))), ((u_51 1), .inl (cy 0, 12, .inl (fun _ => 0)))] H := hP
  have hD : va_D A [(h, .inr (9, [.ref q_1, .ref q_2, .ref q_3, .int 0, .ref q_4, .int 0, .ref q_5, .int 0, .ref q_7])), (q_1, .inl (cy 4, 14, .inr (.inr (.inr (.inr f_46))))), (q_2, .inl (cy 3, 14, .inr (.inl (fun _ => 0)))), (q_3, .inl (cy 5, 14, .inr (.inr (.inr (.inr f_49))))), (q_4, .inl (cy 6, 8, .inr (.inr (.inr (.inr (fun _ => none)))))), (q_5, .inr (5, [.ref (u_6 0), .ref (u_6 1), .int 0, .ref (u_6 2), .int 0])), (q_7, .inl (cy 2, 12, .inl (fun _ => 0))), (q_50, .inr (8, [.ref (u_51 0), .ref (u_51 1), .int 0])), ((u_51 0), .inl (cy 0, 12, .inl (fun _ => 0))), ((u_51 1), .inl (cy 0, 12, .inl (fun _ => 0)))] := hD
  refine ow_astq hx hb hK hP hD hS 1 4 7 8 rfl rfl rfl rfl (in_lit (by decide +kernel)) dX9_init_80 (fun f_52 H locs hP hD hS => ?_)
  have hP : va_P G vwCl [(h, .inr (9, [.ref q_1, .ref q_2, .ref q_3, .int 0, .ref q_4, .int 0, .ref q_5, .int 0, .ref q_7])), (q_1, .inl (cy 4, 14, .inr (.inr (.inr (.inr f_52))))), (q_2, .inl (cy 3, 14, .inr (.inl (fun _ => 0)))), (q_3, .inl (cy 5, 14, .inr (.inr (.inr (.inr f_49))))), (q_4, .inl (cy 6, 8, .inr (.inr (.inr (.inr (fun _ => none)))))), (q_5, .inr (5, [.ref (u_6 0), .ref (u_6 1), .int 0, .ref (u_6 2), .int 0])), (q_7, .inl (cy 2, 12, .inl (fun _ => 0))), (q_50, .inr (8, [.ref (u_51 0), .ref (u_51 1), .int 0])), ((u_51 0), .inl (cy 0, 12, .inl (fun _ => 0))), ((u_51 1), .inl (cy 0, 12, .inl (fun _ => 0)))] H := hP
  have hD : va_D A [(h, .inr (9, [.ref q_1, .ref q_2, .ref q_3, .int 0, .ref q_4, .int 0, .ref q_5, .int 0, .ref q_7])), (q_1, .inl (cy 4, 14, .inr (.inr (.inr (.inr f_52))))), (q_2, .inl (cy 3, 14, .inr (.inl (fun _ => 0)))), (q_3, .inl (cy 5, 14, .inr (.inr (.inr (.inr f_49))))), (q_4, .inl (cy 6, 8, .inr (.inr (.inr (.inr (fun _ => none)))))), (q_5, .inr (5, [.ref (u_6 0), .ref (u_6 1), .int 0, .ref (u_6 2), .int 0])), (q_7, .inl (cy 2, 12, .inl (fun _ => 0))), (q_50, .inr (8, [.ref (u_51 0), .ref (u_51 1), .int 0])), ((u_51 0), .inl (cy 0, 12, .inl (fun _ => 0))), ((u_51 1), .inl (cy 0, 12, .inl (fun _ => 0)))] := hD
  have hP : va_P G vwCl [(h, .inr (9, [.ref q_1, .ref q_2, .ref q_3, .int 0, .ref q_4, .int 0, .ref q_5, .int 0, .ref q_7])), (q_1, .inl (cy 4, 14, .inr (.inr (.inr (.inr f_52))))), (q_2, .inl (cy 3, 14, .inr (.inl (fun _ => 0)))), (q_3, .inl (cy 5, 14, .inr (.inr (.inr (.inr f_49))))), (q_4, .inl (cy 6, 8, .inr (.inr (.inr (.inr (fun _ => none)))))), (q_5, .inr (5, [.ref (u_6 0), .ref (u_6 1), .int 0, .ref (u_6 2), .int 0])), (q_7, .inl (cy 2, 12, .inl (fun _ => 0)))] H := hP.sub [0, 1, 2, 3, 4, 5, 6] rfl
  have hD : va_D A [(h, .inr (9, [.ref q_1, .ref q_2, .ref q_3, .int 0, .ref q_4, .int 0, .ref q_5, .int 0, .ref q_7])), (q_1, .inl (cy 4, 14, .inr (.inr (.inr (.inr f_52))))), (q_2, .inl (cy 3, 14, .inr (.inl (fun _ => 0)))), (q_3, .inl (cy 5, 14, .inr (.inr (.inr (.inr f_49))))), (q_4, .inl (cy 6, 8, .inr (.inr (.inr (.inr (fun _ => none)))))), (q_5, .inr (5, [.ref (u_6 0), .ref (u_6 1), .int 0, .ref (u_6 2), .int 0])), (q_7, .inl (cy 2, 12, .inl (fun _ => 0)))] := hD.sub [0, 1, 2, 3, 4, 5, 6] (by decide) rfl
  refine lv_aload_n hx hb dX9_init_81 rfl (lv_at hl 1 rfl) ?_
  refine va_get (ci := 9) (v := .ref q_3) (C := RX9) (T := TX9) (N := 9) hx hb ht iX9 hown hK hP 0 rfl rfl 2 (by decide) (ht _ k_54) (fun _ h9 => h9) rfl dX9_init_82 ?_
  refine lv_iload_n hx hb dX9_init_85 rfl (lv_at hl 0 rfl) ?_
  refine va_new (ci := 2) (fs := [.null, .null, .null, .null, .int 0]) (C := RX2) (T := TX2) (N := 5) hx hb ht iX2 tyX2 tyX2_ok hown (ht _ k_53) (ht _ k_65) (ht _ k_66) hK hP hD hS hA rfl df2 (Nat.le_of_ble_eq_true rfl) (Nat.le_of_ble_eq_true rfl) dX9_init_86 (fun q_53 H hP hD hS => ?_)
  refine lv_dup hx hb dX9_init_89 rfl ?_
  have hFc := fr_lastF hD hS hA
  have hPc := fr_lastP hP
  refine va_callv (va_runIN (As := []) (rest := [.ref q_53, .int 7, .ref q_3]) ⟨hx, hb, hml, hown, ht⟩ (c_Hearing l G cy _ q_53 ) ⟨va_cnB (host := "TuneLocks") 0 ht (gc k_67) rfl rfl rfl (hN.1 _ ns_66) (ht _ k_66) (by decide +kernel) ⟨Nat.le_of_ble_eq_true rfl, Nat.le_of_ble_eq_true rfl⟩, rfl, ht _ k_68⟩ ⟨En.blind, fun U hU hW => ⟨rfl, En.of hU hW hPc hK (fr_lastD (ws := [])) hN⟩⟩ rfl rfl hl.1 rfl (lv_room (Nat.le_of_ble_eq_true rfl)) dX9_init_90 ⟨Nat.le_of_ble_eq_true rfl, Nat.le_of_ble_eq_true rfl⟩) hS (fun q _ h => hFc q h) hFc (fun u_54 t H locs ht9 hvm hw hB hz1 hk1 hS => ?_)
  obtain ⟨hP1, hD1⟩ := hB
  rw [ht9] at hP1
  obtain ⟨hP, hD⟩ := fr_last hP hD hFc hk1 hP1 hD1
  clear hFc hPc hP1 hD1 hz1 hk1
  have hP : va_P G vwCl [(h, .inr (9, [.ref q_1, .ref q_2, .ref q_3, .int 0, .ref q_4, .int 0, .ref q_5, .int 0, .ref q_7])), (q_1, .inl (cy 4, 14, .inr (.inr (.inr (.inr f_52))))), (q_2, .inl (cy 3, 14, .inr (.inl (fun _ => 0)))), (q_3, .inl (cy 5, 14, .inr (.inr (.inr (.inr f_49))))), (q_4, .inl (cy 6, 8, .inr (.inr (.inr (.inr (fun _ => none)))))), (q_5, .inr (5, [.ref (u_6 0), .ref (u_6 1), .int 0, .ref (u_6 2), .int 0])), (q_7, .inl (cy 2, 12, .inl (fun _ => 0))), (q_53, .inr (2, [.ref (u_54 0), .ref (u_54 1), .ref (u_54 2), .ref (u_54 3), .int 0]))] H := hP
  have hD : va_D A [(h, .inr (9, [.ref q_1, .ref q_2, .ref q_3, .int 0, .ref q_4, .int 0, .ref q_5, .int 0, .ref q_7])), (q_1, .inl (cy 4, 14, .inr (.inr (.inr (.inr f_52))))), (q_2, .inl (cy 3, 14, .inr (.inl (fun _ => 0)))), (q_3, .inl (cy 5, 14, .inr (.inr (.inr (.inr f_49))))), (q_4, .inl (cy 6, 8, .inr (.inr (.inr (.inr (fun _ => none)))))), (q_5, .inr (5, [.ref (u_6 0), .ref (u_6 1), .int 0, .ref (u_6 2), .int 0])), (q_7, .inl (cy 2, 12, .inl (fun _ => 0))), (q_53, .inr (2, [.ref (u_54 0), .ref (u_54 1), .ref (u_54 2), .ref (u_54 3), .int 0]))] := hD
  refine ow_astq hx hb hK hP hD hS 3 5 7 2 rfl rfl rfl rfl (in_lit (by decide +kernel)) dX9_init_93 (fun f_55 H locs hP hD hS => ?_)
  have hP : va_P G vwCl [(h, .inr (9, [.ref q_1, .ref q_2, .ref q_3, .int 0, .ref q_4, .int 0, .ref q_5, .int 0, .ref q_7])), (q_1, .inl (cy 4, 14, .inr (.inr (.inr (.inr f_52))))), (q_2, .inl (cy 3, 14, .inr (.inl (fun _ => 0)))), (q_3, .inl (cy 5, 14, .inr (.inr (.inr (.inr f_55))))), (q_4, .inl (cy 6, 8, .inr (.inr (.inr (.inr (fun _ => none)))))), (q_5, .inr (5, [.ref (u_6 0), .ref (u_6 1), .int 0, .ref (u_6 2), .int 0])), (q_7, .inl (cy 2, 12, .inl (fun _ => 0))), (q_53, .inr (2, [.ref (u_54 0), .ref (u_54 1), .ref (u_54 2), .ref (u_54 3), .int 0]))] H := hP
  have hD : va_D A [(h, .inr (9, [.ref q_1, .ref q_2, .ref q_3, .int 0, .ref q_4, .int 0, .ref q_5, .int 0, .ref q_7])), (q_1, .inl (cy 4, 14, .inr (.inr (.inr (.inr f_52))))), (q_2, .inl (cy 3, 14, .inr (.inl (fun _ => 0)))), (q_3, .inl (cy 5, 14, .inr (.inr (.inr (.inr f_55))))), (q_4, .inl (cy 6, 8, .inr (.inr (.inr (.inr (fun _ => none)))))), (q_5, .inr (5, [.ref (u_6 0), .ref (u_6 1), .int 0, .ref (u_6 2), .int 0])), (q_7, .inl (cy 2, 12, .inl (fun _ => 0))), (q_53, .inr (2, [.ref (u_54 0), .ref (u_54 1), .ref (u_54 2), .ref (u_54 3), .int 0]))] := hD
  have hP : va_P G vwCl [(h, .inr (9, [.ref q_1, .ref q_2, .ref q_3, .int 0, .ref q_4, .int 0, .ref q_5, .int 0, .ref q_7])), (q_1, .inl (cy 4, 14, .inr (.inr (.inr (.inr f_52))))), (q_2, .inl (cy 3, 14, .inr (.inl (fun _ => 0)))), (q_3, .inl (cy 5, 14, .inr (.inr (.inr (.inr f_55))))), (q_4, .inl (cy 6, 8, .inr (.inr (.inr (.inr (fun _ => none)))))), (q_5, .inr (5, [.ref (u_6 0), .ref (u_6 1), .int 0, .ref (u_6 2), .int 0])), (q_7, .inl (cy 2, 12, .inl (fun _ => 0)))] H := hP.sub [0, 1, 2, 3, 4, 5, 6] rfl
  have hD : va_D A [(h, .inr (9, [.ref q_1, .ref q_2, .ref q_3, .int 0, .ref q_4, .int 0, .ref q_5, .int 0, .ref q_7])), (q_1, .inl (cy 4, 14, .inr (.inr (.inr (.inr f_52))))), (q_2, .inl (cy 3, 14, .inr (.inl (fun _ => 0)))), (q_3, .inl (cy 5, 14, .inr (.inr (.inr (.inr f_55))))), (q_4, .inl (cy 6, 8, .inr (.inr (.inr (.inr (fun _ => none)))))), (q_5, .inr (5, [.ref (u_6 0), .ref (u_6 1), .int 0, .ref (u_6 2), .int 0])), (q_7, .inl (cy 2, 12, .inl (fun _ => 0)))] := hD.sub [0, 1, 2, 3, 4, 5, 6] (by decide) rfl
  refine lv_iinc (v := 8) (lv' := [(1, .int 8), (0, .ref h)]) hx hb dX9_init_94 hl (k := 0) rfl (by decide) (by decide) rfl (fun ls hl => ?_)
  refine lv_goto (tgt := 60) hx hb dX9_init_97 (by decide) ?_
  refine lv_iload_n hx hb dX9_init_60 rfl (lv_at hl 0 rfl) ?_
  refine lv_bipush (v := 14) hx hb dX9_init_61 (by decide) ?_
  refine lv_icmp_ge (tgt := 100) hx hb dX9_init_63 (by decide) (fun c9 => absurd c9 (by decide)) (fun _ => ?_)
  refine lv_aload_n hx hb dX9_init_66 rfl (lv_at hl 1 rfl) ?_
  refine va_get (ci := 9) (v := .ref q_1) (C := RX9) (T := TX9) (N := 9) hx hb ht iX9 hown hK hP 0 rfl rfl 0 (by decide) (ht _ k_50) (fun _ h9 => h9) rfl dX9_init_67 ?_
  refine lv_iload_n hx hb dX9_init_70 rfl (lv_at hl 0 rfl) ?_
  refine va_new (ci := 8) (fs := [.null, .null, .int 0]) (C := RX8) (T := TX8) (N := 3) hx hb ht iX8 tyX8 tyX8_ok hown (ht _ k_49) (ht _ k_40) (ht _ k_41) hK hP hD hS hA rfl df8 (Nat.le_of_ble_eq_true rfl) (Nat.le_of_ble_eq_true rfl) dX9_init_71 (fun q_56 H hP hD hS => ?_)
  refine lv_dup hx hb dX9_init_74 rfl ?_
  refine lv_bipush (v := 12) hx hb dX9_init_75 (by decide) ?_
  have hFc := fr_lastF hD hS hA
  have hPc := fr_lastP hP
  refine va_callv (va_runI (As := [.int 12]) (rest := [.ref q_56, .int 8, .ref q_1]) ⟨hx, hb, hml, hown, ht⟩ (c_Song12 l G cy _ q_56 ) (cwI 1 ht (gc k_42) rfl rfl rfl (ht _ k_41) (ht _ k_64) (ht _ k_44) rfl (by decide +kernel) ⟨Nat.le_of_ble_eq_true rfl, Nat.le_of_ble_eq_true rfl⟩) ⟨En.blind, fun U hU hW => ⟨rfl, En.of hU hW hPc hK (fr_lastD (ws := [])) hN⟩⟩ rfl rfl hl.1 rfl (lv_room (Nat.le_of_ble_eq_true rfl)) dX9_init_77 ⟨Nat.le_of_ble_eq_true rfl, Nat.le_of_ble_eq_true rfl⟩) hS (fun q _ h => hFc q h) hFc (fun u_57 t H locs ht9 hvm hw hB hz1 hk1 hS => ?_)
  obtain ⟨hP1, hD1⟩ := hB
  rw [ht9] at hP1
  obtain ⟨hP, hD⟩ := fr_last hP hD hFc hk1 hP1 hD1
  clear hFc hPc hP1 hD1 hz1 hk1
  have hP : va_P G vwCl [(h, .inr (9, [.ref q_1, .ref q_2, .ref q_3, .int 0, .ref q_4, .int 0, .ref q_5, .int 0, .ref q_7])), (q_1, .inl (cy 4, 14, .inr (.inr (.inr (.inr f_52))))), (q_2, .inl (cy 3, 14, .inr (.inl (fun _ => 0)))), (q_3, .inl (cy 5, 14, .inr (.inr (.inr (.inr f_55))))), (q_4, .inl (cy 6, 8, .inr (.inr (.inr (.inr (fun _ => none)))))), (q_5, .inr (5, [.ref (u_6 0), .ref (u_6 1), .int 0, .ref (u_6 2), .int 0])), (q_7, .inl (cy 2, 12, .inl (fun _ => 0))), (q_56, .inr (8, [.ref (u_57 0), .ref (u_57 1), .int 0])), ((u_57 0), .inl (cy 0, 12, .inl (fun _ => 0))), ((u_57 1), .inl (cy 0, 12, .inl (fun _ => 0)))] H := hP
  have hD : va_D A [(h, .inr (9, [.ref q_1, .ref q_2, .ref q_3, .int 0, .ref q_4, .int 0, .ref q_5, .int 0, .ref q_7])), (q_1, .inl (cy 4, 14, .inr (.inr (.inr (.inr f_52))))), (q_2, .inl (cy 3, 14, .inr (.inl (fun _ => 0)))), (q_3, .inl (cy 5, 14, .inr (.inr (.inr (.inr f_55))))), (q_4, .inl (cy 6, 8, .inr (.inr (.inr (.inr (fun _ => none)))))), (q_5, .inr (5, [.ref (u_6 0), .ref (u_6 1), .int 0, .ref (u_6 2), .int 0])), (q_7, .inl (cy 2, 12, .inl (fun _ => 0))), (q_56, .inr (8, [.ref (u_57 0), .ref (u_57 1), .int 0])), ((u_57 0), .inl (cy 0, 12, .inl (fun _ => 0))), ((u_57 1), .inl (cy 0, 12, .inl (fun _ => 0)))] := hD
  refine ow_astq hx hb hK hP hD hS 1 4 7 8 rfl rfl rfl rfl (in_lit (by decide +kernel)) dX9_init_80 (fun f_58 H locs hP hD hS => ?_)
  have hP : va_P G vwCl [(h, .inr (9, [.ref q_1, .ref q_2, .ref q_3, .int 0, .ref q_4, .int 0, .ref q_5, .int 0, .ref q_7])), (q_1, .inl (cy 4, 14, .inr (.inr (.inr (.inr f_58))))), (q_2, .inl (cy 3, 14, .inr (.inl (fun _ => 0)))), (q_3, .inl (cy 5, 14, .inr (.inr (.inr (.inr f_55))))), (q_4, .inl (cy 6, 8, .inr (.inr (.inr (.inr (fun _ => none)))))), (q_5, .inr (5, [.ref (u_6 0), .ref (u_6 1), .int 0, .ref (u_6 2), .int 0])), (q_7, .inl (cy 2, 12, .inl (fun _ => 0))), (q_56, .inr (8, [.ref (u_57 0), .ref (u_57 1), .int 0])), ((u_57 0), .inl (cy 0, 12, .inl (fun _ => 0))), ((u_57 1), .inl (cy 0, 12, .inl (fun _ => 0)))] H := hP
  have hD : va_D A [(h, .inr (9, [.ref q_1, .ref q_2, .ref q_3, .int 0, .ref q_4, .int 0, .ref q_5, .int 0, .ref q_7])), (q_1, .inl (cy 4, 14, .inr (.inr (.inr (.inr f_58))))), (q_2, .inl (cy 3, 14, .inr (.inl (fun _ => 0)))), (q_3, .inl (cy 5, 14, .inr (.inr (.inr (.inr f_55))))), (q_4, .inl (cy 6, 8, .inr (.inr (.inr (.inr (fun _ => none)))))), (q_5, .inr (5, [.ref (u_6 0), .ref (u_6 1), .int 0, .ref (u_6 2), .int 0])), (q_7, .inl (cy 2, 12, .inl (fun _ => 0))), (q_56, .inr (8, [.ref (u_57 0), .ref (u_57 1), .int 0])), ((u_57 0), .inl (cy 0, 12, .inl (fun _ => 0))), ((u_57 1), .inl (cy 0, 12, .inl (fun _ => 0)))] := hD
  have hP : va_P G vwCl [(h, .inr (9, [.ref q_1, .ref q_2, .ref q_3, .int 0, .ref q_4, .int 0, .ref q_5, .int 0, .ref q_7])), (q_1, .inl (cy 4, 14, .inr (.inr (.inr (.inr f_58))))), (q_2, .inl (cy 3, 14, .inr (.inl (fun _ => 0)))), (q_3, .inl (cy 5, 14, .inr (.inr (.inr (.inr f_55))))), (q_4, .inl (cy 6, 8, .inr (.inr (.inr (.inr (fun _ => none)))))), (q_5, .inr (5, [.ref (u_6 0), .ref (u_6 1), .int 0, .ref (u_6 2), .int 0])), (q_7, .inl (cy 2, 12, .inl (fun _ => 0)))] H := hP.sub [0, 1, 2, 3, 4, 5, 6] rfl
  have hD : va_D A [(h, .inr (9, [.ref q_1, .ref q_2, .ref q_3, .int 0, .ref q_4, .int 0, .ref q_5, .int 0, .ref q_7])), (q_1, .inl (cy 4, 14, .inr (.inr (.inr (.inr f_58))))), (q_2, .inl (cy 3, 14, .inr (.inl (fun _ => 0)))), (q_3, .inl (cy 5, 14, .inr (.inr (.inr (.inr f_55))))), (q_4, .inl (cy 6, 8, .inr (.inr (.inr (.inr (fun _ => none)))))), (q_5, .inr (5, [.ref (u_6 0), .ref (u_6 1), .int 0, .ref (u_6 2), .int 0])), (q_7, .inl (cy 2, 12, .inl (fun _ => 0)))] := hD.sub [0, 1, 2, 3, 4, 5, 6] (by decide) rfl
  refine lv_aload_n hx hb dX9_init_81 rfl (lv_at hl 1 rfl) ?_
  refine va_get (ci := 9) (v := .ref q_3) (C := RX9) (T := TX9) (N := 9) hx hb ht iX9 hown hK hP 0 rfl rfl 2 (by decide) (ht _ k_54) (fun _ h9 => h9) rfl dX9_init_82 ?_
  refine lv_iload_n hx hb dX9_init_85 rfl (lv_at hl 0 rfl) ?_
  refine va_new (ci := 2) (fs := [.null, .null, .null, .null, .int 0]) (C := RX2) (T := TX2) (N := 5) hx hb ht iX2 tyX2 tyX2_ok hown (ht _ k_53) (ht _ k_65) (ht _ k_66) hK hP hD hS hA rfl df2 (Nat.le_of_ble_eq_true rfl) (Nat.le_of_ble_eq_true rfl) dX9_init_86 (fun q_59 H hP hD hS => ?_)
  refine lv_dup hx hb dX9_init_89 rfl ?_
  have hFc := fr_lastF hD hS hA
  have hPc := fr_lastP hP
  refine va_callv (va_runIN (As := []) (rest := [.ref q_59, .int 8, .ref q_3]) ⟨hx, hb, hml, hown, ht⟩ (c_Hearing l G cy _ q_59 ) ⟨va_cnB (host := "TuneLocks") 0 ht (gc k_67) rfl rfl rfl (hN.1 _ ns_66) (ht _ k_66) (by decide +kernel) ⟨Nat.le_of_ble_eq_true rfl, Nat.le_of_ble_eq_true rfl⟩, rfl, ht _ k_68⟩ ⟨En.blind, fun U hU hW => ⟨rfl, En.of hU hW hPc hK (fr_lastD (ws := [])) hN⟩⟩ rfl rfl hl.1 rfl (lv_room (Nat.le_of_ble_eq_true rfl)) dX9_init_90 ⟨Nat.le_of_ble_eq_true rfl, Nat.le_of_ble_eq_true rfl⟩) hS (fun q _ h => hFc q h) hFc (fun u_60 t H locs ht9 hvm hw hB hz1 hk1 hS => ?_)
  obtain ⟨hP1, hD1⟩ := hB
  rw [ht9] at hP1
  obtain ⟨hP, hD⟩ := fr_last hP hD hFc hk1 hP1 hD1
  clear hFc hPc hP1 hD1 hz1 hk1
  have hP : va_P G vwCl [(h, .inr (9, [.ref q_1, .ref q_2, .ref q_3, .int 0, .ref q_4, .int 0, .ref q_5, .int 0, .ref q_7])), (q_1, .inl (cy 4, 14, .inr (.inr (.inr (.inr f_58))))), (q_2, .inl (cy 3, 14, .inr (.inl (fun _ => 0)))), (q_3, .inl (cy 5, 14, .inr (.inr (.inr (.inr f_55))))), (q_4, .inl (cy 6, 8, .inr (.inr (.inr (.inr (fun _ => none)))))), (q_5, .inr (5, [.ref (u_6 0), .ref (u_6 1), .int 0, .ref (u_6 2), .int 0])), (q_7, .inl (cy 2, 12, .inl (fun _ => 0))), (q_59, .inr (2, [.ref (u_60 0), .ref (u_60 1), .ref (u_60 2), .ref (u_60 3), .int 0]))] H := hP
  have hD : va_D A [(h, .inr (9, [.ref q_1, .ref q_2, .ref q_3, .int 0, .ref q_4, .int 0, .ref q_5, .int 0, .ref q_7])), (q_1, .inl (cy 4, 14, .inr (.inr (.inr (.inr f_58))))), (q_2, .inl (cy 3, 14, .inr (.inl (fun _ => 0)))), (q_3, .inl (cy 5, 14, .inr (.inr (.inr (.inr f_55))))), (q_4, .inl (cy 6, 8, .inr (.inr (.inr (.inr (fun _ => none)))))), (q_5, .inr (5, [.ref (u_6 0), .ref (u_6 1), .int 0, .ref (u_6 2), .int 0])), (q_7, .inl (cy 2, 12, .inl (fun _ => 0))), (q_59, .inr (2, [.ref (u_60 0), .ref (u_60 1), .ref (u_60 2), .ref (u_60 3), .int 0]))] := hD
  refine ow_astq hx hb hK hP hD hS 3 5 7 2 rfl rfl rfl rfl (in_lit (by decide +kernel)) dX9_init_93 (fun f_61 H locs hP hD hS => ?_)
  have hP : va_P G vwCl [(h, .inr (9, [.ref q_1, .ref q_2, .ref q_3, .int 0, .ref q_4, .int 0, .ref q_5, .int 0, .ref q_7])), (q_1, .inl (cy 4, 14, .inr (.inr (.inr (.inr f_58))))), (q_2, .inl (cy 3, 14, .inr (.inl (fun _ => 0)))), (q_3, .inl (cy 5, 14, .inr (.inr (.inr (.inr f_61))))), (q_4, .inl (cy 6, 8, .inr (.inr (.inr (.inr (fun _ => none)))))), (q_5, .inr (5, [.ref (u_6 0), .ref (u_6 1), .int 0, .ref (u_6 2), .int 0])), (q_7, .inl (cy 2, 12, .inl (fun _ => 0))), (q_59, .inr (2, [.ref (u_60 0), .ref (u_60 1), .ref (u_60 2), .ref (u_60 3), .int 0]))] H := hP
  have hD : va_D A [(h, .inr (9, [.ref q_1, .ref q_2, .ref q_3, .int 0, .ref q_4, .int 0, .ref q_5, .int 0, .ref q_7])), (q_1, .inl (cy 4, 14, .inr (.inr (.inr (.inr f_58))))), (q_2, .inl (cy 3, 14, .inr (.inl (fun _ => 0)))), (q_3, .inl (cy 5, 14, .inr (.inr (.inr (.inr f_61))))), (q_4, .inl (cy 6, 8, .inr (.inr (.inr (.inr (fun _ => none)))))), (q_5, .inr (5, [.ref (u_6 0), .ref (u_6 1), .int 0, .ref (u_6 2), .int 0])), (q_7, .inl (cy 2, 12, .inl (fun _ => 0))), (q_59, .inr (2, [.ref (u_60 0), .ref (u_60 1), .ref (u_60 2), .ref (u_60 3), .int 0]))] := hD
  have hP : va_P G vwCl [(h, .inr (9, [.ref q_1, .ref q_2, .ref q_3, .int 0, .ref q_4, .int 0, .ref q_5, .int 0, .ref q_7])), (q_1, .inl (cy 4, 14, .inr (.inr (.inr (.inr f_58))))), (q_2, .inl (cy 3, 14, .inr (.inl (fun _ => 0)))), (q_3, .inl (cy 5, 14, .inr (.inr (.inr (.inr f_61))))), (q_4, .inl (cy 6, 8, .inr (.inr (.inr (.inr (fun _ => none)))))), (q_5, .inr (5, [.ref (u_6 0), .ref (u_6 1), .int 0, .ref (u_6 2), .int 0])), (q_7, .inl (cy 2, 12, .inl (fun _ => 0)))] H := hP.sub [0, 1, 2, 3, 4, 5, 6] rfl
  have hD : va_D A [(h, .inr (9, [.ref q_1, .ref q_2, .ref q_3, .int 0, .ref q_4, .int 0, .ref q_5, .int 0, .ref q_7])), (q_1, .inl (cy 4, 14, .inr (.inr (.inr (.inr f_58))))), (q_2, .inl (cy 3, 14, .inr (.inl (fun _ => 0)))), (q_3, .inl (cy 5, 14, .inr (.inr (.inr (.inr f_61))))), (q_4, .inl (cy 6, 8, .inr (.inr (.inr (.inr (fun _ => none)))))), (q_5, .inr (5, [.ref (u_6 0), .ref (u_6 1), .int 0, .ref (u_6 2), .int 0])), (q_7, .inl (cy 2, 12, .inl (fun _ => 0)))] := hD.sub [0, 1, 2, 3, 4, 5, 6] (by decide) rfl
  refine lv_iinc (v := 9) (lv' := [(1, .int 9), (0, .ref h)]) hx hb dX9_init_94 hl (k := 0) rfl (by decide) (by decide) rfl (fun ls hl => ?_)
  refine lv_goto (tgt := 60) hx hb dX9_init_97 (by decide) ?_
  refine lv_iload_n hx hb dX9_init_60 rfl (lv_at hl 0 rfl) ?_
  refine lv_bipush (v := 14) hx hb dX9_init_61 (by decide) ?_
  refine lv_icmp_ge (tgt := 100) hx hb dX9_init_63 (by decide) (fun c9 => absurd c9 (by decide)) (fun _ => ?_)
  refine lv_aload_n hx hb dX9_init_66 rfl (lv_at hl 1 rfl) ?_
  refine va_get (ci := 9) (v := .ref q_1) (C := RX9) (T := TX9) (N := 9) hx hb ht iX9 hown hK hP 0 rfl rfl 0 (by decide) (ht _ k_50) (fun _ h9 => h9) rfl dX9_init_67 ?_
  refine lv_iload_n hx hb dX9_init_70 rfl (lv_at hl 0 rfl) ?_
  refine va_new (ci := 8) (fs := [.null, .null, .int 0]) (C := RX8) (T := TX8) (N := 3) hx hb ht iX8 tyX8 tyX8_ok hown (ht _ k_49) (ht _ k_40) (ht _ k_41) hK hP hD hS hA rfl df8 (Nat.le_of_ble_eq_true rfl) (Nat.le_of_ble_eq_true rfl) dX9_init_71 (fun q_62 H hP hD hS => ?_)
  refine lv_dup hx hb dX9_init_74 rfl ?_
  refine lv_bipush (v := 12) hx hb dX9_init_75 (by decide) ?_
  have hFc := fr_lastF hD hS hA
  have hPc := fr_lastP hP
  refine va_callv (va_runI (As := [.int 12]) (rest := [.ref q_62, .int 9, .ref q_1]) ⟨hx, hb, hml, hown, ht⟩ (c_Song12 l G cy _ q_62 ) (cwI 1 ht (gc k_42) rfl rfl rfl (ht _ k_41) (ht _ k_64) (ht _ k_44) rfl (by decide +kernel) ⟨Nat.le_of_ble_eq_true rfl, Nat.le_of_ble_eq_true rfl⟩) ⟨En.blind, fun U hU hW => ⟨rfl, En.of hU hW hPc hK (fr_lastD (ws := [])) hN⟩⟩ rfl rfl hl.1 rfl (lv_room (Nat.le_of_ble_eq_true rfl)) dX9_init_77 ⟨Nat.le_of_ble_eq_true rfl, Nat.le_of_ble_eq_true rfl⟩) hS (fun q _ h => hFc q h) hFc (fun u_63 t H locs ht9 hvm hw hB hz1 hk1 hS => ?_)
  obtain ⟨hP1, hD1⟩ := hB
  rw [ht9] at hP1
  obtain ⟨hP, hD⟩ := fr_last hP hD hFc hk1 hP1 hD1
  clear hFc hPc hP1 hD1 hz1 hk1
  have hP : va_P G vwCl [(h, .inr (9, [.ref q_1, .ref q_2, .ref q_3, .int 0, .ref q_4, .int 0, .ref q_5, .int 0, .ref q_7])), (q_1, .inl (cy 4, 14, .inr (.inr (.inr (.inr f_58))))), (q_2, .inl (cy 3, 14, .inr (.inl (fun _ => 0)))), (q_3, .inl (cy 5, 14, .inr (.inr (.inr (.inr f_61))))), (q_4, .inl (cy 6, 8, .inr (.inr (.inr (.inr (fun _ => none)))))), (q_5, .inr (5, [.ref (u_6 0), .ref (u_6 1), .int 0, .ref (u_6 2), .int 0])), (q_7, .inl (cy 2, 12, .inl (fun _ => 0))), (q_62, .inr (8, [.ref (u_63 0), .ref (u_63 1), .int 0])), ((u_63 0), .inl (cy 0, 12, .inl (fun _ => 0))), ((u_63 1), .inl (cy 0, 12, .inl (fun _ => 0)))] H := hP
  have hD : va_D A [(h, .inr (9, [.ref q_1, .ref q_2, .ref q_3, .int 0, .ref q_4, .int 0, .ref q_5, .int 0, .ref q_7])), (q_1, .inl (cy 4, 14, .inr (.inr (.inr (.inr f_58))))), (q_2, .inl (cy 3, 14, .inr (.inl (fun _ => 0)))), (q_3, .inl (cy 5, 14, .inr (.inr (.inr (.inr f_61))))), (q_4, .inl (cy 6, 8, .inr (.inr (.inr (.inr (fun _ => none)))))), (q_5, .inr (5, [.ref (u_6 0), .ref (u_6 1), .int 0, .ref (u_6 2), .int 0])), (q_7, .inl (cy 2, 12, .inl (fun _ => 0))), (q_62, .inr (8, [.ref (u_63 0), .ref (u_63 1), .int 0])), ((u_63 0), .inl (cy 0, 12, .inl (fun _ => 0))), ((u_63 1), .inl (cy 0, 12, .inl (fun _ => 0)))] := hD
  refine ow_astq hx hb hK hP hD hS 1 4 7 8 rfl rfl rfl rfl (in_lit (by decide +kernel)) dX9_init_80 (fun f_64 H locs hP hD hS => ?_)
  have hP : va_P G vwCl [(h, .inr (9, [.ref q_1, .ref q_2, .ref q_3, .int 0, .ref q_4, .int 0, .ref q_5, .int 0, .ref q_7])), (q_1, .inl (cy 4, 14, .inr (.inr (.inr (.inr f_64))))), (q_2, .inl (cy 3, 14, .inr (.inl (fun _ => 0)))), (q_3, .inl (cy 5, 14, .inr (.inr (.inr (.inr f_61))))), (q_4, .inl (cy 6, 8, .inr (.inr (.inr (.inr (fun _ => none)))))), (q_5, .inr (5, [.ref (u_6 0), .ref (u_6 1), .int 0, .ref (u_6 2), .int 0])), (q_7, .inl (cy 2, 12, .inl (fun _ => 0))), (q_62, .inr (8, [.ref (u_63 0), .ref (u_63 1), .int 0])), ((u_63 0), .inl (cy 0, 12, .inl (fun _ => 0))), ((u_63 1), .inl (cy 0, 12, .inl (fun _ => 0)))] H := hP
  have hD : va_D A [(h, .inr (9, [.ref q_1, .ref q_2, .ref q_3, .int 0, .ref q_4, .int 0, .ref q_5, .int 0, .ref q_7])), (q_1, .inl (cy 4, 14, .inr (.inr (.inr (.inr f_64))))), (q_2, .inl (cy 3, 14, .inr (.inl (fun _ => 0)))), (q_3, .inl (cy 5, 14, .inr (.inr (.inr (.inr f_61))))), (q_4, .inl (cy 6, 8, .inr (.inr (.inr (.inr (fun _ => none)))))), (q_5, .inr (5, [.ref (u_6 0), .ref (u_6 1), .int 0, .ref (u_6 2), .int 0])), (q_7, .inl (cy 2, 12, .inl (fun _ => 0))), (q_62, .inr (8, [.ref (u_63 0), .ref (u_63 1), .int 0])), ((u_63 0), .inl (cy 0, 12, .inl (fun _ => 0))), ((u_63 1), .inl (cy 0, 12, .inl (fun _ => 0)))] := hD
  have hP : va_P G vwCl [(h, .inr (9, [.ref q_1, .ref q_2, .ref q_3, .int 0, .ref q_4, .int 0, .ref q_5, .int 0, .ref q_7])), (q_1, .inl (cy 4, 14, .inr (.inr (.inr (.inr f_64))))), (q_2, .inl (cy 3, 14, .inr (.inl (fun _ => 0)))), (q_3, .inl (cy 5, 14, .inr (.inr (.inr (.inr f_61))))), (q_4, .inl (cy 6, 8, .inr (.inr (.inr (.inr (fun _ => none)))))), (q_5, .inr (5, [.ref (u_6 0), .ref (u_6 1), .int 0, .ref (u_6 2), .int 0])), (q_7, .inl (cy 2, 12, .inl (fun _ => 0)))] H := hP.sub [0, 1, 2, 3, 4, 5, 6] rfl
  have hD : va_D A [(h, .inr (9, [.ref q_1, .ref q_2, .ref q_3, .int 0, .ref q_4, .int 0, .ref q_5, .int 0, .ref q_7])), (q_1, .inl (cy 4, 14, .inr (.inr (.inr (.inr f_64))))), (q_2, .inl (cy 3, 14, .inr (.inl (fun _ => 0)))), (q_3, .inl (cy 5, 14, .inr (.inr (.inr (.inr f_61))))), (q_4, .inl (cy 6, 8, .inr (.inr (.inr (.inr (fun _ => none)))))), (q_5, .inr (5, [.ref (u_6 0), .ref (u_6 1), .int 0, .ref (u_6 2), .int 0])), (q_7, .inl (cy 2, 12, .inl (fun _ => 0)))] := hD.sub [0, 1, 2, 3, 4, 5, 6] (by decide) rfl
  refine lv_aload_n hx hb dX9_init_81 rfl (lv_at hl 1 rfl) ?_
  refine va_get (ci := 9) (v := .ref q_3) (C := RX9) (T := TX9) (N := 9) hx hb ht iX9 hown hK hP 0 rfl rfl 2 (by decide) (ht _ k_54) (fun _ h9 => h9) rfl dX9_init_82 ?_
  refine lv_iload_n hx hb dX9_init_85 rfl (lv_at hl 0 rfl) ?_
  refine va_new (ci := 2) (fs := [.null, .null, .null, .null, .int 0]) (C := RX2) (T := TX2) (N := 5) hx hb ht iX2 tyX2 tyX2_ok hown (ht _ k_53) (ht _ k_65) (ht _ k_66) hK hP hD hS hA rfl df2 (Nat.le_of_ble_eq_true rfl) (Nat.le_of_ble_eq_true rfl) dX9_init_86 (fun q_65 H hP hD hS => ?_)
  refine lv_dup hx hb dX9_init_89 rfl ?_
  have hFc := fr_lastF hD hS hA
  have hPc := fr_lastP hP
  refine va_callv (va_runIN (As := []) (rest := [.ref q_65, .int 9, .ref q_3]) ⟨hx, hb, hml, hown, ht⟩ (c_Hearing l G cy _ q_65 ) ⟨va_cnB (host := "TuneLocks") 0 ht (gc k_67) rfl rfl rfl (hN.1 _ ns_66) (ht _ k_66) (by decide +kernel) ⟨Nat.le_of_ble_eq_true rfl, Nat.le_of_ble_eq_true rfl⟩, rfl, ht _ k_68⟩ ⟨En.blind, fun U hU hW => ⟨rfl, En.of hU hW hPc hK (fr_lastD (ws := [])) hN⟩⟩ rfl rfl hl.1 rfl (lv_room (Nat.le_of_ble_eq_true rfl)) dX9_init_90 ⟨Nat.le_of_ble_eq_true rfl, Nat.le_of_ble_eq_true rfl⟩) hS (fun q _ h => hFc q h) hFc (fun u_66 t H locs ht9 hvm hw hB hz1 hk1 hS => ?_)
  obtain ⟨hP1, hD1⟩ := hB
  rw [ht9] at hP1
  obtain ⟨hP, hD⟩ := fr_last hP hD hFc hk1 hP1 hD1
  clear hFc hPc hP1 hD1 hz1 hk1
  have hP : va_P G vwCl [(h, .inr (9, [.ref q_1, .ref q_2, .ref q_3, .int 0, .ref q_4, .int 0, .ref q_5, .int 0, .ref q_7])), (q_1, .inl (cy 4, 14, .inr (.inr (.inr (.inr f_64))))), (q_2, .inl (cy 3, 14, .inr (.inl (fun _ => 0)))), (q_3, .inl (cy 5, 14, .inr (.inr (.inr (.inr f_61))))), (q_4, .inl (cy 6, 8, .inr (.inr (.inr (.inr (fun _ => none)))))), (q_5, .inr (5, [.ref (u_6 0), .ref (u_6 1), .int 0, .ref (u_6 2), .int 0])), (q_7, .inl (cy 2, 12, .inl (fun _ => 0))), (q_65, .inr (2, [.ref (u_66 0), .ref (u_66 1), .ref (u_66 2), .ref (u_66 3), .int 0]))] H := hP
  have hD : va_D A [(h, .inr (9, [.ref q_1, .ref q_2, .ref q_3, .int 0, .ref q_4, .int 0, .ref q_5, .int 0, .ref q_7])), (q_1, .inl (cy 4, 14, .inr (.inr (.inr (.inr f_64))))), (q_2, .inl (cy 3, 14, .inr (.inl (fun _ => 0)))), (q_3, .inl (cy 5, 14, .inr (.inr (.inr (.inr f_61))))), (q_4, .inl (cy 6, 8, .inr (.inr (.inr (.inr (fun _ => none)))))), (q_5, .inr (5, [.ref (u_6 0), .ref (u_6 1), .int 0, .ref (u_6 2), .int 0])), (q_7, .inl (cy 2, 12, .inl (fun _ => 0))), (q_65, .inr (2, [.ref (u_66 0), .ref (u_66 1), .ref (u_66 2), .ref (u_66 3), .int 0]))] := hD
  refine ow_astq hx hb hK hP hD hS 3 5 7 2 rfl rfl rfl rfl (in_lit (by decide +kernel)) dX9_init_93 (fun f_67 H locs hP hD hS => ?_)
  have hP : va_P G vwCl [(h, .inr (9, [.ref q_1, .ref q_2, .ref q_3, .int 0, .ref q_4, .int 0, .ref q_5, .int 0, .ref q_7])), (q_1, .inl (cy 4, 14, .inr (.inr (.inr (.inr f_64))))), (q_2, .inl (cy 3, 14, .inr (.inl (fun _ => 0)))), (q_3, .inl (cy 5, 14, .inr (.inr (.inr (.inr f_67))))), (q_4, .inl (cy 6, 8, .inr (.inr (.inr (.inr (fun _ => none)))))), (q_5, .inr (5, [.ref (u_6 0), .ref (u_6 1), .int 0, .ref (u_6 2), .int 0])), (q_7, .inl (cy 2, 12, .inl (fun _ => 0))), (q_65, .inr (2, [.ref (u_66 0), .ref (u_66 1), .ref (u_66 2), .ref (u_66 3), .int 0]))] H := hP
  have hD : va_D A [(h, .inr (9, [.ref q_1, .ref q_2, .ref q_3, .int 0, .ref q_4, .int 0, .ref q_5, .int 0, .ref q_7])), (q_1, .inl (cy 4, 14, .inr (.inr (.inr (.inr f_64))))), (q_2, .inl (cy 3, 14, .inr (.inl (fun _ => 0)))), (q_3, .inl (cy 5, 14, .inr (.inr (.inr (.inr f_67))))), (q_4, .inl (cy 6, 8, .inr (.inr (.inr (.inr (fun _ => none)))))), (q_5, .inr (5, [.ref (u_6 0), .ref (u_6 1), .int 0, .ref (u_6 2), .int 0])), (q_7, .inl (cy 2, 12, .inl (fun _ => 0))), (q_65, .inr (2, [.ref (u_66 0), .ref (u_66 1), .ref (u_66 2), .ref (u_66 3), .int 0]))] := hD
  have hP : va_P G vwCl [(h, .inr (9, [.ref q_1, .ref q_2, .ref q_3, .int 0, .ref q_4, .int 0, .ref q_5, .int 0, .ref q_7])), (q_1, .inl (cy 4, 14, .inr (.inr (.inr (.inr f_64))))), (q_2, .inl (cy 3, 14, .inr (.inl (fun _ => 0)))), (q_3, .inl (cy 5, 14, .inr (.inr (.inr (.inr f_67))))), (q_4, .inl (cy 6, 8, .inr (.inr (.inr (.inr (fun _ => none)))))), (q_5, .inr (5, [.ref (u_6 0), .ref (u_6 1), .int 0, .ref (u_6 2), .int 0])), (q_7, .inl (cy 2, 12, .inl (fun _ => 0)))] H := hP.sub [0, 1, 2, 3, 4, 5, 6] rfl
  have hD : va_D A [(h, .inr (9, [.ref q_1, .ref q_2, .ref q_3, .int 0, .ref q_4, .int 0, .ref q_5, .int 0, .ref q_7])), (q_1, .inl (cy 4, 14, .inr (.inr (.inr (.inr f_64))))), (q_2, .inl (cy 3, 14, .inr (.inl (fun _ => 0)))), (q_3, .inl (cy 5, 14, .inr (.inr (.inr (.inr f_67))))), (q_4, .inl (cy 6, 8, .inr (.inr (.inr (.inr (fun _ => none)))))), (q_5, .inr (5, [.ref (u_6 0), .ref (u_6 1), .int 0, .ref (u_6 2), .int 0])), (q_7, .inl (cy 2, 12, .inl (fun _ => 0)))] := hD.sub [0, 1, 2, 3, 4, 5, 6] (by decide) rfl
  refine lv_iinc (v := 10) (lv' := [(1, .int 10), (0, .ref h)]) hx hb dX9_init_94 hl (k := 0) rfl (by decide) (by decide) rfl (fun ls hl => ?_)
  refine lv_goto (tgt := 60) hx hb dX9_init_97 (by decide) ?_
  refine lv_iload_n hx hb dX9_init_60 rfl (lv_at hl 0 rfl) ?_
  refine lv_bipush (v := 14) hx hb dX9_init_61 (by decide) ?_
  refine lv_icmp_ge (tgt := 100) hx hb dX9_init_63 (by decide) (fun c9 => absurd c9 (by decide)) (fun _ => ?_)
  refine lv_aload_n hx hb dX9_init_66 rfl (lv_at hl 1 rfl) ?_
  refine va_get (ci := 9) (v := .ref q_1) (C := RX9) (T := TX9) (N := 9) hx hb ht iX9 hown hK hP 0 rfl rfl 0 (by decide) (ht _ k_50) (fun _ h9 => h9) rfl dX9_init_67 ?_
  refine lv_iload_n hx hb dX9_init_70 rfl (lv_at hl 0 rfl) ?_
  refine va_new (ci := 8) (fs := [.null, .null, .int 0]) (C := RX8) (T := TX8) (N := 3) hx hb ht iX8 tyX8 tyX8_ok hown (ht _ k_49) (ht _ k_40) (ht _ k_41) hK hP hD hS hA rfl df8 (Nat.le_of_ble_eq_true rfl) (Nat.le_of_ble_eq_true rfl) dX9_init_71 (fun q_68 H hP hD hS => ?_)
  refine lv_dup hx hb dX9_init_74 rfl ?_
  refine lv_bipush (v := 12) hx hb dX9_init_75 (by decide) ?_
  have hFc := fr_lastF hD hS hA
  have hPc := fr_lastP hP
  refine va_callv (va_runI (As := [.int 12]) (rest := [.ref q_68, .int 10, .ref q_1]) ⟨hx, hb, hml, hown, ht⟩ (c_Song12 l G cy _ q_68 ) (cwI 1 ht (gc k_42) rfl rfl rfl (ht _ k_41) (ht _ k_64) (ht _ k_44) rfl (by decide +kernel) ⟨Nat.le_of_ble_eq_true rfl, Nat.le_of_ble_eq_true rfl⟩) ⟨En.blind, fun U hU hW => ⟨rfl, En.of hU hW hPc hK (fr_lastD (ws := [])) hN⟩⟩ rfl rfl hl.1 rfl (lv_room (Nat.le_of_ble_eq_true rfl)) dX9_init_77 ⟨Nat.le_of_ble_eq_true rfl, Nat.le_of_ble_eq_true rfl⟩) hS (fun q _ h => hFc q h) hFc (fun u_69 t H locs ht9 hvm hw hB hz1 hk1 hS => ?_)
  obtain ⟨hP1, hD1⟩ := hB
  rw [ht9] at hP1
  obtain ⟨hP, hD⟩ := fr_last hP hD hFc hk1 hP1 hD1
  clear hFc hPc hP1 hD1 hz1 hk1
  have hP : va_P G vwCl [(h, .inr (9, [.ref q_1, .ref q_2, .ref q_3, .int 0, .ref q_4, .int 0, .ref q_5, .int 0, .ref q_7])), (q_1, .inl (cy 4, 14, .inr (.inr (.inr (.inr f_64))))), (q_2, .inl (cy 3, 14, .inr (.inl (fun _ => 0)))), (q_3, .inl (cy 5, 14, .inr (.inr (.inr (.inr f_67))))), (q_4, .inl (cy 6, 8, .inr (.inr (.inr (.inr (fun _ => none)))))), (q_5, .inr (5, [.ref (u_6 0), .ref (u_6 1), .int 0, .ref (u_6 2), .int 0])), (q_7, .inl (cy 2, 12, .inl (fun _ => 0))), (q_68, .inr (8, [.ref (u_69 0), .ref (u_69 1), .int 0])), ((u_69 0), .inl (cy 0, 12, .inl (fun _ => 0))), ((u_69 1), .inl (cy 0, 12, .inl (fun _ => 0)))] H := hP
  have hD : va_D A [(h, .inr (9, [.ref q_1, .ref q_2, .ref q_3, .int 0, .ref q_4, .int 0, .ref q_5, .int 0, .ref q_7])), (q_1, .inl (cy 4, 14, .inr (.inr (.inr (.inr f_64))))), (q_2, .inl (cy 3, 14, .inr (.inl (fun _ => 0)))), (q_3, .inl (cy 5, 14, .inr (.inr (.inr (.inr f_67))))), (q_4, .inl (cy 6, 8, .inr (.inr (.inr (.inr (fun _ => none)))))), (q_5, .inr (5, [.ref (u_6 0), .ref (u_6 1), .int 0, .ref (u_6 2), .int 0])), (q_7, .inl (cy 2, 12, .inl (fun _ => 0))), (q_68, .inr (8, [.ref (u_69 0), .ref (u_69 1), .int 0])), ((u_69 0), .inl (cy 0, 12, .inl (fun _ => 0))), ((u_69 1), .inl (cy 0, 12, .inl (fun _ => 0)))] := hD
  refine ow_astq hx hb hK hP hD hS 1 4 7 8 rfl rfl rfl rfl (in_lit (by decide +kernel)) dX9_init_80 (fun f_70 H locs hP hD hS => ?_)
  have hP : va_P G vwCl [(h, .inr (9, [.ref q_1, .ref q_2, .ref q_3, .int 0, .ref q_4, .int 0, .ref q_5, .int 0, .ref q_7])), (q_1, .inl (cy 4, 14, .inr (.inr (.inr (.inr f_70))))), (q_2, .inl (cy 3, 14, .inr (.inl (fun _ => 0)))), (q_3, .inl (cy 5, 14, .inr (.inr (.inr (.inr f_67))))), (q_4, .inl (cy 6, 8, .inr (.inr (.inr (.inr (fun _ => none)))))), (q_5, .inr (5, [.ref (u_6 0), .ref (u_6 1), .int 0, .ref (u_6 2), .int 0])), (q_7, .inl (cy 2, 12, .inl (fun _ => 0))), (q_68, .inr (8, [.ref (u_69 0), .ref (u_69 1), .int 0])), ((u_69 0), .inl (cy 0, 12, .inl (fun _ => 0))), ((u_69 1), .inl (cy 0, 12, .inl (fun _ => 0)))] H := hP
  have hD : va_D A [(h, .inr (9, [.ref q_1, .ref q_2, .ref q_3, .int 0, .ref q_4, .int 0, .ref q_5, .int 0, .ref q_7])), (q_1, .inl (cy 4, 14, .inr (.inr (.inr (.inr f_70))))), (q_2, .inl (cy 3, 14, .inr (.inl (fun _ => 0)))), (q_3, .inl (cy 5, 14, .inr (.inr (.inr (.inr f_67))))), (q_4, .inl (cy 6, 8, .inr (.inr (.inr (.inr (fun _ => none)))))), (q_5, .inr (5, [.ref (u_6 0), .ref (u_6 1), .int 0, .ref (u_6 2), .int 0])), (q_7, .inl (cy 2, 12, .inl (fun _ => 0))), (q_68, .inr (8, [.ref (u_69 0), .ref (u_69 1), .int 0])), ((u_69 0), .inl (cy 0, 12, .inl (fun _ => 0))), ((u_69 1), .inl (cy 0, 12, .inl (fun _ => 0)))] := hD
  have hP : va_P G vwCl [(h, .inr (9, [.ref q_1, .ref q_2, .ref q_3, .int 0, .ref q_4, .int 0, .ref q_5, .int 0, .ref q_7])), (q_1, .inl (cy 4, 14, .inr (.inr (.inr (.inr f_70))))), (q_2, .inl (cy 3, 14, .inr (.inl (fun _ => 0)))), (q_3, .inl (cy 5, 14, .inr (.inr (.inr (.inr f_67))))), (q_4, .inl (cy 6, 8, .inr (.inr (.inr (.inr (fun _ => none)))))), (q_5, .inr (5, [.ref (u_6 0), .ref (u_6 1), .int 0, .ref (u_6 2), .int 0])), (q_7, .inl (cy 2, 12, .inl (fun _ => 0)))] H := hP.sub [0, 1, 2, 3, 4, 5, 6] rfl
  have hD : va_D A [(h, .inr (9, [.ref q_1, .ref q_2, .ref q_3, .int 0, .ref q_4, .int 0, .ref q_5, .int 0, .ref q_7])), (q_1, .inl (cy 4, 14, .inr (.inr (.inr (.inr f_70))))), (q_2, .inl (cy 3, 14, .inr (.inl (fun _ => 0)))), (q_3, .inl (cy 5, 14, .inr (.inr (.inr (.inr f_67))))), (q_4, .inl (cy 6, 8, .inr (.inr (.inr (.inr (fun _ => none)))))), (q_5, .inr (5, [.ref (u_6 0), .ref (u_6 1), .int 0, .ref (u_6 2), .int 0])), (q_7, .inl (cy 2, 12, .inl (fun _ => 0)))] := hD.sub [0, 1, 2, 3, 4, 5, 6] (by decide) rfl
  refine lv_aload_n hx hb dX9_init_81 rfl (lv_at hl 1 rfl) ?_
  refine va_get (ci := 9) (v := .ref q_3) (C := RX9) (T := TX9) (N := 9) hx hb ht iX9 hown hK hP 0 rfl rfl 2 (by decide) (ht _ k_54) (fun _ h9 => h9) rfl dX9_init_82 ?_
  refine lv_iload_n hx hb dX9_init_85 rfl (lv_at hl 0 rfl) ?_
  refine va_new (ci := 2) (fs := [.null, .null, .null, .null, .int 0]) (C := RX2) (T := TX2) (N := 5) hx hb ht iX2 tyX2 tyX2_ok hown (ht _ k_53) (ht _ k_65) (ht _ k_66) hK hP hD hS hA rfl df2 (Nat.le_of_ble_eq_true rfl) (Nat.le_of_ble_eq_true rfl) dX9_init_86 (fun q_71 H hP hD hS => ?_)
  refine lv_dup hx hb dX9_init_89 rfl ?_
  have hFc := fr_lastF hD hS hA
  have hPc := fr_lastP hP
  refine va_callv (va_runIN (As := []) (rest := [.ref q_71, .int 10, .ref q_3]) ⟨hx, hb, hml, hown, ht⟩ (c_Hearing l G cy _ q_71 ) ⟨va_cnB (host := "TuneLocks") 0 ht (gc k_67) rfl rfl rfl (hN.1 _ ns_66) (ht _ k_66) (by decide +kernel) ⟨Nat.le_of_ble_eq_true rfl, Nat.le_of_ble_eq_true rfl⟩, rfl, ht _ k_68⟩ ⟨En.blind, fun U hU hW => ⟨rfl, En.of hU hW hPc hK (fr_lastD (ws := [])) hN⟩⟩ rfl rfl hl.1 rfl (lv_room (Nat.le_of_ble_eq_true rfl)) dX9_init_90 ⟨Nat.le_of_ble_eq_true rfl, Nat.le_of_ble_eq_true rfl⟩) hS (fun q _ h => hFc q h) hFc (fun u_72 t H locs ht9 hvm hw hB hz1 hk1 hS => ?_)
  obtain ⟨hP1, hD1⟩ := hB
  rw [ht9] at hP1
  obtain ⟨hP, hD⟩ := fr_last hP hD hFc hk1 hP1 hD1
  clear hFc hPc hP1 hD1 hz1 hk1
  have hP : va_P G vwCl [(h, .inr (9, [.ref q_1, .ref q_2, .ref q_3, .int 0, .ref q_4, .int 0, .ref q_5, .int 0, .ref q_7])), (q_1, .inl (cy 4, 14, .inr (.inr (.inr (.inr f_70))))), (q_2, .inl (cy 3, 14, .inr (.inl (fun _ => 0)))), (q_3, .inl (cy 5, 14, .inr (.inr (.inr (.inr f_67))))), (q_4, .inl (cy 6, 8, .inr (.inr (.inr (.inr (fun _ => none)))))), (q_5, .inr (5, [.ref (u_6 0), .ref (u_6 1), .int 0, .ref (u_6 2), .int 0])), (q_7, .inl (cy 2, 12, .inl (fun _ => 0))), (q_71, .inr (2, [.ref (u_72 0), .ref (u_72 1), .ref (u_72 2), .ref (u_72 3), .int 0]))] H := hP
  have hD : va_D A [(h, .inr (9, [.ref q_1, .ref q_2, .ref q_3, .int 0, .ref q_4, .int 0, .ref q_5, .int 0, .ref q_7])), (q_1, .inl (cy 4, 14, .inr (.inr (.inr (.inr f_70))))), (q_2, .inl (cy 3, 14, .inr (.inl (fun _ => 0)))), (q_3, .inl (cy 5, 14, .inr (.inr (.inr (.inr f_67))))), (q_4, .inl (cy 6, 8, .inr (.inr (.inr (.inr (fun _ => none)))))), (q_5, .inr (5, [.ref (u_6 0), .ref (u_6 1), .int 0, .ref (u_6 2), .int 0])), (q_7, .inl (cy 2, 12, .inl (fun _ => 0))), (q_71, .inr (2, [.ref (u_72 0), .ref (u_72 1), .ref (u_72 2), .ref (u_72 3), .int 0]))] := hD
  refine ow_astq hx hb hK hP hD hS 3 5 7 2 rfl rfl rfl rfl (in_lit (by decide +kernel)) dX9_init_93 (fun f_73 H locs hP hD hS => ?_)
  have hP : va_P G vwCl [(h, .inr (9, [.ref q_1, .ref q_2, .ref q_3, .int 0, .ref q_4, .int 0, .ref q_5, .int 0, .ref q_7])), (q_1, .inl (cy 4, 14, .inr (.inr (.inr (.inr f_70))))), (q_2, .inl (cy 3, 14, .inr (.inl (fun _ => 0)))), (q_3, .inl (cy 5, 14, .inr (.inr (.inr (.inr f_73))))), (q_4, .inl (cy 6, 8, .inr (.inr (.inr (.inr (fun _ => none)))))), (q_5, .inr (5, [.ref (u_6 0), .ref (u_6 1), .int 0, .ref (u_6 2), .int 0])), (q_7, .inl (cy 2, 12, .inl (fun _ => 0))), (q_71, .inr (2, [.ref (u_72 0), .ref (u_72 1), .ref (u_72 2), .ref (u_72 3), .int 0]))] H := hP
  have hD : va_D A [(h, .inr (9, [.ref q_1, .ref q_2, .ref q_3, .int 0, .ref q_4, .int 0, .ref q_5, .int 0, .ref q_7])), (q_1, .inl (cy 4, 14, .inr (.inr (.inr (.inr f_70))))), (q_2, .inl (cy 3, 14, .inr (.inl (fun _ => 0)))), (q_3, .inl (cy 5, 14, .inr (.inr (.inr (.inr f_73))))), (q_4, .inl (cy 6, 8, .inr (.inr (.inr (.inr (fun _ => none)))))), (q_5, .inr (5, [.ref (u_6 0), .ref (u_6 1), .int 0, .ref (u_6 2), .int 0])), (q_7, .inl (cy 2, 12, .inl (fun _ => 0))), (q_71, .inr (2, [.ref (u_72 0), .ref (u_72 1), .ref (u_72 2), .ref (u_72 3), .int 0]))] := hD
  have hP : va_P G vwCl [(h, .inr (9, [.ref q_1, .ref q_2, .ref q_3, .int 0, .ref q_4, .int 0, .ref q_5, .int 0, .ref q_7])), (q_1, .inl (cy 4, 14, .inr (.inr (.inr (.inr f_70))))), (q_2, .inl (cy 3, 14, .inr (.inl (fun _ => 0)))), (q_3, .inl (cy 5, 14, .inr (.inr (.inr (.inr f_73))))), (q_4, .inl (cy 6, 8, .inr (.inr (.inr (.inr (fun _ => none)))))), (q_5, .inr (5, [.ref (u_6 0), .ref (u_6 1), .int 0, .ref (u_6 2), .int 0])), (q_7, .inl (cy 2, 12, .inl (fun _ => 0)))] H := hP.sub [0, 1, 2, 3, 4, 5, 6] rfl
  have hD : va_D A [(h, .inr (9, [.ref q_1, .ref q_2, .ref q_3, .int 0, .ref q_4, .int 0, .ref q_5, .int 0, .ref q_7])), (q_1, .inl (cy 4, 14, .inr (.inr (.inr (.inr f_70))))), (q_2, .inl (cy 3, 14, .inr (.inl (fun _ => 0)))), (q_3, .inl (cy 5, 14, .inr (.inr (.inr (.inr f_73))))), (q_4, .inl (cy 6, 8, .inr (.inr (.inr (.inr (fun _ => none)))))), (q_5, .inr (5, [.ref (u_6 0), .ref (u_6 1), .int 0, .ref (u_6 2), .int 0])), (q_7, .inl (cy 2, 12, .inl (fun _ => 0)))] := hD.sub [0, 1, 2, 3, 4, 5, 6] (by decide) rfl
  refine lv_iinc (v := 11) (lv' := [(1, .int 11), (0, .ref h)]) hx hb dX9_init_94 hl (k := 0) rfl (by decide) (by decide) rfl (fun ls hl => ?_)
  refine lv_goto (tgt := 60) hx hb dX9_init_97 (by decide) ?_
  refine lv_iload_n hx hb dX9_init_60 rfl (lv_at hl 0 rfl) ?_
  refine lv_bipush (v := 14) hx hb dX9_init_61 (by decide) ?_
  refine lv_icmp_ge (tgt := 100) hx hb dX9_init_63 (by decide) (fun c9 => absurd c9 (by decide)) (fun _ => ?_)
  refine lv_aload_n hx hb dX9_init_66 rfl (lv_at hl 1 rfl) ?_
  refine va_get (ci := 9) (v := .ref q_1) (C := RX9) (T := TX9) (N := 9) hx hb ht iX9 hown hK hP 0 rfl rfl 0 (by decide) (ht _ k_50) (fun _ h9 => h9) rfl dX9_init_67 ?_
  refine lv_iload_n hx hb dX9_init_70 rfl (lv_at hl 0 rfl) ?_
  refine va_new (ci := 8) (fs := [.null, .null, .int 0]) (C := RX8) (T := TX8) (N := 3) hx hb ht iX8 tyX8 tyX8_ok hown (ht _ k_49) (ht _ k_40) (ht _ k_41) hK hP hD hS hA rfl df8 (Nat.le_of_ble_eq_true rfl) (Nat.le_of_ble_eq_true rfl) dX9_init_71 (fun q_74 H hP hD hS => ?_)
  refine lv_dup hx hb dX9_init_74 rfl ?_
  refine lv_bipush (v := 12) hx hb dX9_init_75 (by decide) ?_
  have hFc := fr_lastF hD hS hA
  have hPc := fr_lastP hP
  refine va_callv (va_runI (As := [.int 12]) (rest := [.ref q_74, .int 11, .ref q_1]) ⟨hx, hb, hml, hown, ht⟩ (c_Song12 l G cy _ q_74 ) (cwI 1 ht (gc k_42) rfl rfl rfl (ht _ k_41) (ht _ k_64) (ht _ k_44) rfl (by decide +kernel) ⟨Nat.le_of_ble_eq_true rfl, Nat.le_of_ble_eq_true rfl⟩) ⟨En.blind, fun U hU hW => ⟨rfl, En.of hU hW hPc hK (fr_lastD (ws := [])) hN⟩⟩ rfl rfl hl.1 rfl (lv_room (Nat.le_of_ble_eq_true rfl)) dX9_init_77 ⟨Nat.le_of_ble_eq_true rfl, Nat.le_of_ble_eq_true rfl⟩) hS (fun q _ h => hFc q h) hFc (fun u_75 t H locs ht9 hvm hw hB hz1 hk1 hS => ?_)
  obtain ⟨hP1, hD1⟩ := hB
  rw [ht9] at hP1
  obtain ⟨hP, hD⟩ := fr_last hP hD hFc hk1 hP1 hD1
  clear hFc hPc hP1 hD1 hz1 hk1
  have hP : va_P G vwCl [(h, .inr (9, [.ref q_1, .ref q_2, .ref q_3, .int 0, .ref q_4, .int 0, .ref q_5, .int 0, .ref q_7])), (q_1, .inl (cy 4, 14, .inr (.inr (.inr (.inr f_70))))), (q_2, .inl (cy 3, 14, .inr (.inl (fun _ => 0)))), (q_3, .inl (cy 5, 14, .inr (.inr (.inr (.inr f_73))))), (q_4, .inl (cy 6, 8, .inr (.inr (.inr (.inr (fun _ => none)))))), (q_5, .inr (5, [.ref (u_6 0), .ref (u_6 1), .int 0, .ref (u_6 2), .int 0])), (q_7, .inl (cy 2, 12, .inl (fun _ => 0))), (q_74, .inr (8, [.ref (u_75 0), .ref (u_75 1), .int 0])), ((u_75 0), .inl (cy 0, 12, .inl (fun _ => 0))), ((u_75 1), .inl (cy 0, 12, .inl (fun _ => 0)))] H := hP
  have hD : va_D A [(h, .inr (9, [.ref q_1, .ref q_2, .ref q_3, .int 0, .ref q_4, .int 0, .ref q_5, .int 0, .ref q_7])), (q_1, .inl (cy 4, 14, .inr (.inr (.inr (.inr f_70))))), (q_2, .inl (cy 3, 14, .inr (.inl (fun _ => 0)))), (q_3, .inl (cy 5, 14, .inr (.inr (.inr (.inr f_73))))), (q_4, .inl (cy 6, 8, .inr (.inr (.inr (.inr (fun _ => none)))))), (q_5, .inr (5, [.ref (u_6 0), .ref (u_6 1), .int 0, .ref (u_6 2), .int 0])), (q_7, .inl (cy 2, 12, .inl (fun _ => 0))), (q_74, .inr (8, [.ref (u_75 0), .ref (u_75 1), .int 0])), ((u_75 0), .inl (cy 0, 12, .inl (fun _ => 0))), ((u_75 1), .inl (cy 0, 12, .inl (fun _ => 0)))] := hD
  refine ow_astq hx hb hK hP hD hS 1 4 7 8 rfl rfl rfl rfl (in_lit (by decide +kernel)) dX9_init_80 (fun f_76 H locs hP hD hS => ?_)
  have hP : va_P G vwCl [(h, .inr (9, [.ref q_1, .ref q_2, .ref q_3, .int 0, .ref q_4, .int 0, .ref q_5, .int 0, .ref q_7])), (q_1, .inl (cy 4, 14, .inr (.inr (.inr (.inr f_76))))), (q_2, .inl (cy 3, 14, .inr (.inl (fun _ => 0)))), (q_3, .inl (cy 5, 14, .inr (.inr (.inr (.inr f_73))))), (q_4, .inl (cy 6, 8, .inr (.inr (.inr (.inr (fun _ => none)))))), (q_5, .inr (5, [.ref (u_6 0), .ref (u_6 1), .int 0, .ref (u_6 2), .int 0])), (q_7, .inl (cy 2, 12, .inl (fun _ => 0))), (q_74, .inr (8, [.ref (u_75 0), .ref (u_75 1), .int 0])), ((u_75 0), .inl (cy 0, 12, .inl (fun _ => 0))), ((u_75 1), .inl (cy 0, 12, .inl (fun _ => 0)))] H := hP
  have hD : va_D A [(h, .inr (9, [.ref q_1, .ref q_2, .ref q_3, .int 0, .ref q_4, .int 0, .ref q_5, .int 0, .ref q_7])), (q_1, .inl (cy 4, 14, .inr (.inr (.inr (.inr f_76))))), (q_2, .inl (cy 3, 14, .inr (.inl (fun _ => 0)))), (q_3, .inl (cy 5, 14, .inr (.inr (.inr (.inr f_73))))), (q_4, .inl (cy 6, 8, .inr (.inr (.inr (.inr (fun _ => none)))))), (q_5, .inr (5, [.ref (u_6 0), .ref (u_6 1), .int 0, .ref (u_6 2), .int 0])), (q_7, .inl (cy 2, 12, .inl (fun _ => 0))), (q_74, .inr (8, [.ref (u_75 0), .ref (u_75 1), .int 0])), ((u_75 0), .inl (cy 0, 12, .inl (fun _ => 0))), ((u_75 1), .inl (cy 0, 12, .inl (fun _ => 0)))] := hD
  have hP : va_P G vwCl [(h, .inr (9, [.ref q_1, .ref q_2, .ref q_3, .int 0, .ref q_4, .int 0, .ref q_5, .int 0, .ref q_7])), (q_1, .inl (cy 4, 14, .inr (.inr (.inr (.inr f_76))))), (q_2, .inl (cy 3, 14, .inr (.inl (fun _ => 0)))), (q_3, .inl (cy 5, 14, .inr (.inr (.inr (.inr f_73))))), (q_4, .inl (cy 6, 8, .inr (.inr (.inr (.inr (fun _ => none)))))), (q_5, .inr (5, [.ref (u_6 0), .ref (u_6 1), .int 0, .ref (u_6 2), .int 0])), (q_7, .inl (cy 2, 12, .inl (fun _ => 0)))] H := hP.sub [0, 1, 2, 3, 4, 5, 6] rfl
  have hD : va_D A [(h, .inr (9, [.ref q_1, .ref q_2, .ref q_3, .int 0, .ref q_4, .int 0, .ref q_5, .int 0, .ref q_7])), (q_1, .inl (cy 4, 14, .inr (.inr (.inr (.inr f_76))))), (q_2, .inl (cy 3, 14, .inr (.inl (fun _ => 0)))), (q_3, .inl (cy 5, 14, .inr (.inr (.inr (.inr f_73))))), (q_4, .inl (cy 6, 8, .inr (.inr (.inr (.inr (fun _ => none)))))), (q_5, .inr (5, [.ref (u_6 0), .ref (u_6 1), .int 0, .ref (u_6 2), .int 0])), (q_7, .inl (cy 2, 12, .inl (fun _ => 0)))] := hD.sub [0, 1, 2, 3, 4, 5, 6] (by decide) rfl
  refine lv_aload_n hx hb dX9_init_81 rfl (lv_at hl 1 rfl) ?_
  refine va_get (ci := 9) (v := .ref q_3) (C := RX9) (T := TX9) (N := 9) hx hb ht iX9 hown hK hP 0 rfl rfl 2 (by decide) (ht _ k_54) (fun _ h9 => h9) rfl dX9_init_82 ?_
  refine lv_iload_n hx hb dX9_init_85 rfl (lv_at hl 0 rfl) ?_
  refine va_new (ci := 2) (fs := [.null, .null, .null, .null, .int 0]) (C := RX2) (T := TX2) (N := 5) hx hb ht iX2 tyX2 tyX2_ok hown (ht _ k_53) (ht _ k_65) (ht _ k_66) hK hP hD hS hA rfl df2 (Nat.le_of_ble_eq_true rfl) (Nat.le_of_ble_eq_true rfl) dX9_init_86 (fun q_77 H hP hD hS => ?_)
  refine lv_dup hx hb dX9_init_89 rfl ?_
  have hFc := fr_lastF hD hS hA
  have hPc := fr_lastP hP
  refine va_callv (va_runIN (As := []) (rest := [.ref q_77, .int 11, .ref q_3]) ⟨hx, hb, hml, hown, ht⟩ (c_Hearing l G cy _ q_77 ) ⟨va_cnB (host := "TuneLocks") 0 ht (gc k_67) rfl rfl rfl (hN.1 _ ns_66) (ht _ k_66) (by decide +kernel) ⟨Nat.le_of_ble_eq_true rfl, Nat.le_of_ble_eq_true rfl⟩, rfl, ht _ k_68⟩ ⟨En.blind, fun U hU hW => ⟨rfl, En.of hU hW hPc hK (fr_lastD (ws := [])) hN⟩⟩ rfl rfl hl.1 rfl (lv_room (Nat.le_of_ble_eq_true rfl)) dX9_init_90 ⟨Nat.le_of_ble_eq_true rfl, Nat.le_of_ble_eq_true rfl⟩) hS (fun q _ h => hFc q h) hFc (fun u_78 t H locs ht9 hvm hw hB hz1 hk1 hS => ?_)
  obtain ⟨hP1, hD1⟩ := hB
  rw [ht9] at hP1
  obtain ⟨hP, hD⟩ := fr_last hP hD hFc hk1 hP1 hD1
  clear hFc hPc hP1 hD1 hz1 hk1
  have hP : va_P G vwCl [(h, .inr (9, [.ref q_1, .ref q_2, .ref q_3, .int 0, .ref q_4, .int 0, .ref q_5, .int 0, .ref q_7])), (q_1, .inl (cy 4, 14, .inr (.inr (.inr (.inr f_76))))), (q_2, .inl (cy 3, 14, .inr (.inl (fun _ => 0)))), (q_3, .inl (cy 5, 14, .inr (.inr (.inr (.inr f_73))))), (q_4, .inl (cy 6, 8, .inr (.inr (.inr (.inr (fun _ => none)))))), (q_5, .inr (5, [.ref (u_6 0), .ref (u_6 1), .int 0, .ref (u_6 2), .int 0])), (q_7, .inl (cy 2, 12, .inl (fun _ => 0))), (q_77, .inr (2, [.ref (u_78 0), .ref (u_78 1), .ref (u_78 2), .ref (u_78 3), .int 0]))] H := hP
  have hD : va_D A [(h, .inr (9, [.ref q_1, .ref q_2, .ref q_3, .int 0, .ref q_4, .int 0, .ref q_5, .int 0, .ref q_7])), (q_1, .inl (cy 4, 14, .inr (.inr (.inr (.inr f_76))))), (q_2, .inl (cy 3, 14, .inr (.inl (fun _ => 0)))), (q_3, .inl (cy 5, 14, .inr (.inr (.inr (.inr f_73))))), (q_4, .inl (cy 6, 8, .inr (.inr (.inr (.inr (fun _ => none)))))), (q_5, .inr (5, [.ref (u_6 0), .ref (u_6 1), .int 0, .ref (u_6 2), .int 0])), (q_7, .inl (cy 2, 12, .inl (fun _ => 0))), (q_77, .inr (2, [.ref (u_78 0), .ref (u_78 1), .ref (u_78 2), .ref (u_78 3), .int 0]))] := hD
  refine ow_astq hx hb hK hP hD hS 3 5 7 2 rfl rfl rfl rfl (in_lit (by decide +kernel)) dX9_init_93 (fun f_79 H locs hP hD hS => ?_)
  have hP : va_P G vwCl [(h, .inr (9, [.ref q_1, .ref q_2, .ref q_3, .int 0, .ref q_4, .int 0, .ref q_5, .int 0, .ref q_7])), (q_1, .inl (cy 4, 14, .inr (.inr (.inr (.inr f_76))))), (q_2, .inl (cy 3, 14, .inr (.inl (fun _ => 0)))), (q_3, .inl (cy 5, 14, .inr (.inr (.inr (.inr f_79))))), (q_4, .inl (cy 6, 8, .inr (.inr (.inr (.inr (fun _ => none)))))), (q_5, .inr (5, [.ref (u_6 0), .ref (u_6 1), .int 0, .ref (u_6 2), .int 0])), (q_7, .inl (cy 2, 12, .inl (fun _ => 0))), (q_77, .inr (2, [.ref (u_78 0), .ref (u_78 1), .ref (u_78 2), .ref (u_78 3), .int 0]))] H := hP
  have hD : va_D A [(h, .inr (9, [.ref q_1, .ref q_2, .ref q_3, .int 0, .ref q_4, .int 0, .ref q_5, .int 0, .ref q_7])), (q_1, .inl (cy 4, 14, .inr (.inr (.inr (.inr f_76))))), (q_2, .inl (cy 3, 14, .inr (.inl (fun _ => 0)))), (q_3, .inl (cy 5, 14, .inr (.inr (.inr (.inr f_79))))), (q_4, .inl (cy 6, 8, .inr (.inr (.inr (.inr (fun _ => none)))))), (q_5, .inr (5, [.ref (u_6 0), .ref (u_6 1), .int 0, .ref (u_6 2), .int 0])), (q_7, .inl (cy 2, 12, .inl (fun _ => 0))), (q_77, .inr (2, [.ref (u_78 0), .ref (u_78 1), .ref (u_78 2), .ref (u_78 3), .int 0]))] := hD
  have hP : va_P G vwCl [(h, .inr (9, [.ref q_1, .ref q_2, .ref q_3, .int 0, .ref q_4, .int 0, .ref q_5, .int 0, .ref q_7])), (q_1, .inl (cy 4, 14, .inr (.inr (.inr (.inr f_76))))), (q_2, .inl (cy 3, 14, .inr (.inl (fun _ => 0)))), (q_3, .inl (cy 5, 14, .inr (.inr (.inr (.inr f_79))))), (q_4, .inl (cy 6, 8, .inr (.inr (.inr (.inr (fun _ => none)))))), (q_5, .inr (5, [.ref (u_6 0), .ref (u_6 1), .int 0, .ref (u_6 2), .int 0])), (q_7, .inl (cy 2, 12, .inl (fun _ => 0)))] H := hP.sub [0, 1, 2, 3, 4, 5, 6] rfl
  have hD : va_D A [(h, .inr (9, [.ref q_1, .ref q_2, .ref q_3, .int 0, .ref q_4, .int 0, .ref q_5, .int 0, .ref q_7])), (q_1, .inl (cy 4, 14, .inr (.inr (.inr (.inr f_76))))), (q_2, .inl (cy 3, 14, .inr (.inl (fun _ => 0)))), (q_3, .inl (cy 5, 14, .inr (.inr (.inr (.inr f_79))))), (q_4, .inl (cy 6, 8, .inr (.inr (.inr (.inr (fun _ => none)))))), (q_5, .inr (5, [.ref (u_6 0), .ref (u_6 1), .int 0, .ref (u_6 2), .int 0])), (q_7, .inl (cy 2, 12, .inl (fun _ => 0)))] := hD.sub [0, 1, 2, 3, 4, 5, 6] (by decide) rfl
  refine lv_iinc (v := 12) (lv' := [(1, .int 12), (0, .ref h)]) hx hb dX9_init_94 hl (k := 0) rfl (by decide) (by decide) rfl (fun ls hl => ?_)
  refine lv_goto (tgt := 60) hx hb dX9_init_97 (by decide) ?_
  refine lv_iload_n hx hb dX9_init_60 rfl (lv_at hl 0 rfl) ?_
  refine lv_bipush (v := 14) hx hb dX9_init_61 (by decide) ?_
  refine lv_icmp_ge (tgt := 100) hx hb dX9_init_63 (by decide) (fun c9 => absurd c9 (by decide)) (fun _ => ?_)
  refine lv_aload_n hx hb dX9_init_66 rfl (lv_at hl 1 rfl) ?_
  refine va_get (ci := 9) (v := .ref q_1) (C := RX9) (T := TX9) (N := 9) hx hb ht iX9 hown hK hP 0 rfl rfl 0 (by decide) (ht _ k_50) (fun _ h9 => h9) rfl dX9_init_67 ?_
  refine lv_iload_n hx hb dX9_init_70 rfl (lv_at hl 0 rfl) ?_
  refine va_new (ci := 8) (fs := [.null, .null, .int 0]) (C := RX8) (T := TX8) (N := 3) hx hb ht iX8 tyX8 tyX8_ok hown (ht _ k_49) (ht _ k_40) (ht _ k_41) hK hP hD hS hA rfl df8 (Nat.le_of_ble_eq_true rfl) (Nat.le_of_ble_eq_true rfl) dX9_init_71 (fun q_80 H hP hD hS => ?_)
  refine lv_dup hx hb dX9_init_74 rfl ?_
  refine lv_bipush (v := 12) hx hb dX9_init_75 (by decide) ?_
  have hFc := fr_lastF hD hS hA
  have hPc := fr_lastP hP
  refine va_callv (va_runI (As := [.int 12]) (rest := [.ref q_80, .int 12, .ref q_1]) ⟨hx, hb, hml, hown, ht⟩ (c_Song12 l G cy _ q_80 ) (cwI 1 ht (gc k_42) rfl rfl rfl (ht _ k_41) (ht _ k_64) (ht _ k_44) rfl (by decide +kernel) ⟨Nat.le_of_ble_eq_true rfl, Nat.le_of_ble_eq_true rfl⟩) ⟨En.blind, fun U hU hW => ⟨rfl, En.of hU hW hPc hK (fr_lastD (ws := [])) hN⟩⟩ rfl rfl hl.1 rfl (lv_room (Nat.le_of_ble_eq_true rfl)) dX9_init_77 ⟨Nat.le_of_ble_eq_true rfl, Nat.le_of_ble_eq_true rfl⟩) hS (fun q _ h => hFc q h) hFc (fun u_81 t H locs ht9 hvm hw hB hz1 hk1 hS => ?_)
  obtain ⟨hP1, hD1⟩ := hB
  rw [ht9] at hP1
  obtain ⟨hP, hD⟩ := fr_last hP hD hFc hk1 hP1 hD1
  clear hFc hPc hP1 hD1 hz1 hk1
  have hP : va_P G vwCl [(h, .inr (9, [.ref q_1, .ref q_2, .ref q_3, .int 0, .ref q_4, .int 0, .ref q_5, .int 0, .ref q_7])), (q_1, .inl (cy 4, 14, .inr (.inr (.inr (.inr f_76))))), (q_2, .inl (cy 3, 14, .inr (.inl (fun _ => 0)))), (q_3, .inl (cy 5, 14, .inr (.inr (.inr (.inr f_79))))), (q_4, .inl (cy 6, 8, .inr (.inr (.inr (.inr (fun _ => none)))))), (q_5, .inr (5, [.ref (u_6 0), .ref (u_6 1), .int 0, .ref (u_6 2), .int 0])), (q_7, .inl (cy 2, 12, .inl (fun _ => 0))), (q_80, .inr (8, [.ref (u_81 0), .ref (u_81 1), .int 0])), ((u_81 0), .inl (cy 0, 12, .inl (fun _ => 0))), ((u_81 1), .inl (cy 0, 12, .inl (fun _ => 0)))] H := hP
  have hD : va_D A [(h, .inr (9, [.ref q_1, .ref q_2, .ref q_3, .int 0, .ref q_4, .int 0, .ref q_5, .int 0, .ref q_7])), (q_1, .inl (cy 4, 14, .inr (.inr (.inr (.inr f_76))))), (q_2, .inl (cy 3, 14, .inr (.inl (fun _ => 0)))), (q_3, .inl (cy 5, 14, .inr (.inr (.inr (.inr f_79))))), (q_4, .inl (cy 6, 8, .inr (.inr (.inr (.inr (fun _ => none)))))), (q_5, .inr (5, [.ref (u_6 0), .ref (u_6 1), .int 0, .ref (u_6 2), .int 0])), (q_7, .inl (cy 2, 12, .inl (fun _ => 0))), (q_80, .inr (8, [.ref (u_81 0), .ref (u_81 1), .int 0])), ((u_81 0), .inl (cy 0, 12, .inl (fun _ => 0))), ((u_81 1), .inl (cy 0, 12, .inl (fun _ => 0)))] := hD
  refine ow_astq hx hb hK hP hD hS 1 4 7 8 rfl rfl rfl rfl (in_lit (by decide +kernel)) dX9_init_80 (fun f_82 H locs hP hD hS => ?_)
  have hP : va_P G vwCl [(h, .inr (9, [.ref q_1, .ref q_2, .ref q_3, .int 0, .ref q_4, .int 0, .ref q_5, .int 0, .ref q_7])), (q_1, .inl (cy 4, 14, .inr (.inr (.inr (.inr f_82))))), (q_2, .inl (cy 3, 14, .inr (.inl (fun _ => 0)))), (q_3, .inl (cy 5, 14, .inr (.inr (.inr (.inr f_79))))), (q_4, .inl (cy 6, 8, .inr (.inr (.inr (.inr (fun _ => none)))))), (q_5, .inr (5, [.ref (u_6 0), .ref (u_6 1), .int 0, .ref (u_6 2), .int 0])), (q_7, .inl (cy 2, 12, .inl (fun _ => 0))), (q_80, .inr (8, [.ref (u_81 0), .ref (u_81 1), .int 0])), ((u_81 0), .inl (cy 0, 12, .inl (fun _ => 0))), ((u_81 1), .inl (cy 0, 12, .inl (fun _ => 0)))] H := hP
  have hD : va_D A [(h, .inr (9, [.ref q_1, .ref q_2, .ref q_3, .int 0, .ref q_4, .int 0, .ref q_5, .int 0, .ref q_7])), (q_1, .inl (cy 4, 14, .inr (.inr (.inr (.inr f_82))))), (q_2, .inl (cy 3, 14, .inr (.inl (fun _ => 0)))), (q_3, .inl (cy 5, 14, .inr (.inr (.inr (.inr f_79))))), (q_4, .inl (cy 6, 8, .inr (.inr (.inr (.inr (fun _ => none)))))), (q_5, .inr (5, [.ref (u_6 0), .ref (u_6 1), .int 0, .ref (u_6 2), .int 0])), (q_7, .inl (cy 2, 12, .inl (fun _ => 0))), (q_80, .inr (8, [.ref (u_81 0), .ref (u_81 1), .int 0])), ((u_81 0), .inl (cy 0, 12, .inl (fun _ => 0))), ((u_81 1), .inl (cy 0, 12, .inl (fun _ => 0)))] := hD
  have hP : va_P G vwCl [(h, .inr (9, [.ref q_1, .ref q_2, .ref q_3, .int 0, .ref q_4, .int 0, .ref q_5, .int 0, .ref q_7])), (q_1, .inl (cy 4, 14, .inr (.inr (.inr (.inr f_82))))), (q_2, .inl (cy 3, 14, .inr (.inl (fun _ => 0)))), (q_3, .inl (cy 5, 14, .inr (.inr (.inr (.inr f_79))))), (q_4, .inl (cy 6, 8, .inr (.inr (.inr (.inr (fun _ => none)))))), (q_5, .inr (5, [.ref (u_6 0), .ref (u_6 1), .int 0, .ref (u_6 2), .int 0])), (q_7, .inl (cy 2, 12, .inl (fun _ => 0)))] H := hP.sub [0, 1, 2, 3, 4, 5, 6] rfl
  have hD : va_D A [(h, .inr (9, [.ref q_1, .ref q_2, .ref q_3, .int 0, .ref q_4, .int 0, .ref q_5, .int 0, .ref q_7])), (q_1, .inl (cy 4, 14, .inr (.inr (.inr (.inr f_82))))), (q_2, .inl (cy 3, 14, .inr (.inl (fun _ => 0)))), (q_3, .inl (cy 5, 14, .inr (.inr (.inr (.inr f_79))))), (q_4, .inl (cy 6, 8, .inr (.inr (.inr (.inr (fun _ => none)))))), (q_5, .inr (5, [.ref (u_6 0), .ref (u_6 1), .int 0, .ref (u_6 2), .int 0])), (q_7, .inl (cy 2, 12, .inl (fun _ => 0)))] := hD.sub [0, 1, 2, 3, 4, 5, 6] (by decide) rfl
  refine lv_aload_n hx hb dX9_init_81 rfl (lv_at hl 1 rfl) ?_
  refine va_get (ci := 9) (v := .ref q_3) (C := RX9) (T := TX9) (N := 9) hx hb ht iX9 hown hK hP 0 rfl rfl 2 (by decide) (ht _ k_54) (fun _ h9 => h9) rfl dX9_init_82 ?_
  refine lv_iload_n hx hb dX9_init_85 rfl (lv_at hl 0 rfl) ?_
  refine va_new (ci := 2) (fs := [.null, .null, .null, .null, .int 0]) (C := RX2) (T := TX2) (N := 5) hx hb ht iX2 tyX2 tyX2_ok hown (ht _ k_53) (ht _ k_65) (ht _ k_66) hK hP hD hS hA rfl df2 (Nat.le_of_ble_eq_true rfl) (Nat.le_of_ble_eq_true rfl) dX9_init_86 (fun q_83 H hP hD hS => ?_)
  refine lv_dup hx hb dX9_init_89 rfl ?_
  have hFc := fr_lastF hD hS hA
  have hPc := fr_lastP hP
  refine va_callv (va_runIN (As := []) (rest := [.ref q_83, .int 12, .ref q_3]) ⟨hx, hb, hml, hown, ht⟩ (c_Hearing l G cy _ q_83 ) ⟨va_cnB (host := "TuneLocks") 0 ht (gc k_67) rfl rfl rfl (hN.1 _ ns_66) (ht _ k_66) (by decide +kernel) ⟨Nat.le_of_ble_eq_true rfl, Nat.le_of_ble_eq_true rfl⟩, rfl, ht _ k_68⟩ ⟨En.blind, fun U hU hW => ⟨rfl, En.of hU hW hPc hK (fr_lastD (ws := [])) hN⟩⟩ rfl rfl hl.1 rfl (lv_room (Nat.le_of_ble_eq_true rfl)) dX9_init_90 ⟨Nat.le_of_ble_eq_true rfl, Nat.le_of_ble_eq_true rfl⟩) hS (fun q _ h => hFc q h) hFc (fun u_84 t H locs ht9 hvm hw hB hz1 hk1 hS => ?_)
  obtain ⟨hP1, hD1⟩ := hB
  rw [ht9] at hP1
  obtain ⟨hP, hD⟩ := fr_last hP hD hFc hk1 hP1 hD1
  clear hFc hPc hP1 hD1 hz1 hk1
  have hP : va_P G vwCl [(h, .inr (9, [.ref q_1, .ref q_2, .ref q_3, .int 0, .ref q_4, .int 0, .ref q_5, .int 0, .ref q_7])), (q_1, .inl (cy 4, 14, .inr (.inr (.inr (.inr f_82))))), (q_2, .inl (cy 3, 14, .inr (.inl (fun _ => 0)))), (q_3, .inl (cy 5, 14, .inr (.inr (.inr (.inr f_79))))), (q_4, .inl (cy 6, 8, .inr (.inr (.inr (.inr (fun _ => none)))))), (q_5, .inr (5, [.ref (u_6 0), .ref (u_6 1), .int 0, .ref (u_6 2), .int 0])), (q_7, .inl (cy 2, 12, .inl (fun _ => 0))), (q_83, .inr (2, [.ref (u_84 0), .ref (u_84 1), .ref (u_84 2), .ref (u_84 3), .int 0]))] H := hP
  have hD : va_D A [(h, .inr (9, [.ref q_1, .ref q_2, .ref q_3, .int 0, .ref q_4, .int 0, .ref q_5, .int 0, .ref q_7])), (q_1, .inl (cy 4, 14, .inr (.inr (.inr (.inr f_82))))), (q_2, .inl (cy 3, 14, .inr (.inl (fun _ => 0)))), (q_3, .inl (cy 5, 14, .inr (.inr (.inr (.inr f_79))))), (q_4, .inl (cy 6, 8, .inr (.inr (.inr (.inr (fun _ => none)))))), (q_5, .inr (5, [.ref (u_6 0), .ref (u_6 1), .int 0, .ref (u_6 2), .int 0])), (q_7, .inl (cy 2, 12, .inl (fun _ => 0))), (q_83, .inr (2, [.ref (u_84 0), .ref (u_84 1), .ref (u_84 2), .ref (u_84 3), .int 0]))] := hD
  refine ow_astq hx hb hK hP hD hS 3 5 7 2 rfl rfl rfl rfl (in_lit (by decide +kernel)) dX9_init_93 (fun f_85 H locs hP hD hS => ?_)
  have hP : va_P G vwCl [(h, .inr (9, [.ref q_1, .ref q_2, .ref q_3, .int 0, .ref q_4, .int 0, .ref q_5, .int 0, .ref q_7])), (q_1, .inl (cy 4, 14, .inr (.inr (.inr (.inr f_82))))), (q_2, .inl (cy 3, 14, .inr (.inl (fun _ => 0)))), (q_3, .inl (cy 5, 14, .inr (.inr (.inr (.inr f_85))))), (q_4, .inl (cy 6, 8, .inr (.inr (.inr (.inr (fun _ => none)))))), (q_5, .inr (5, [.ref (u_6 0), .ref (u_6 1), .int 0, .ref (u_6 2), .int 0])), (q_7, .inl (cy 2, 12, .inl (fun _ => 0))), (q_83, .inr (2, [.ref (u_84 0), .ref (u_84 1), .ref (u_84 2), .ref (u_84 3), .int 0]))] H := hP
  have hD : va_D A [(h, .inr (9, [.ref q_1, .ref q_2, .ref q_3, .int 0, .ref q_4, .int 0, .ref q_5, .int 0, .ref q_7])), (q_1, .inl (cy 4, 14, .inr (.inr (.inr (.inr f_82))))), (q_2, .inl (cy 3, 14, .inr (.inl (fun _ => 0)))), (q_3, .inl (cy 5, 14, .inr (.inr (.inr (.inr f_85))))), (q_4, .inl (cy 6, 8, .inr (.inr (.inr (.inr (fun _ => none)))))), (q_5, .inr (5, [.ref (u_6 0), .ref (u_6 1), .int 0, .ref (u_6 2), .int 0])), (q_7, .inl (cy 2, 12, .inl (fun _ => 0))), (q_83, .inr (2, [.ref (u_84 0), .ref (u_84 1), .ref (u_84 2), .ref (u_84 3), .int 0]))] := hD
  have hP : va_P G vwCl [(h, .inr (9, [.ref q_1, .ref q_2, .ref q_3, .int 0, .ref q_4, .int 0, .ref q_5, .int 0, .ref q_7])), (q_1, .inl (cy 4, 14, .inr (.inr (.inr (.inr f_82))))), (q_2, .inl (cy 3, 14, .inr (.inl (fun _ => 0)))), (q_3, .inl (cy 5, 14, .inr (.inr (.inr (.inr f_85))))), (q_4, .inl (cy 6, 8, .inr (.inr (.inr (.inr (fun _ => none)))))), (q_5, .inr (5, [.ref (u_6 0), .ref (u_6 1), .int 0, .ref (u_6 2), .int 0])), (q_7, .inl (cy 2, 12, .inl (fun _ => 0)))] H := hP.sub [0, 1, 2, 3, 4, 5, 6] rfl
  have hD : va_D A [(h, .inr (9, [.ref q_1, .ref q_2, .ref q_3, .int 0, .ref q_4, .int 0, .ref q_5, .int 0, .ref q_7])), (q_1, .inl (cy 4, 14, .inr (.inr (.inr (.inr f_82))))), (q_2, .inl (cy 3, 14, .inr (.inl (fun _ => 0)))), (q_3, .inl (cy 5, 14, .inr (.inr (.inr (.inr f_85))))), (q_4, .inl (cy 6, 8, .inr (.inr (.inr (.inr (fun _ => none)))))), (q_5, .inr (5, [.ref (u_6 0), .ref (u_6 1), .int 0, .ref (u_6 2), .int 0])), (q_7, .inl (cy 2, 12, .inl (fun _ => 0)))] := hD.sub [0, 1, 2, 3, 4, 5, 6] (by decide) rfl
  refine lv_iinc (v := 13) (lv' := [(1, .int 13), (0, .ref h)]) hx hb dX9_init_94 hl (k := 0) rfl (by decide) (by decide) rfl (fun ls hl => ?_)
  refine lv_goto (tgt := 60) hx hb dX9_init_97 (by decide) ?_
  refine lv_iload_n hx hb dX9_init_60 rfl (lv_at hl 0 rfl) ?_
  refine lv_bipush (v := 14) hx hb dX9_init_61 (by decide) ?_
  refine lv_icmp_ge (tgt := 100) hx hb dX9_init_63 (by decide) (fun c9 => absurd c9 (by decide)) (fun _ => ?_)
  refine lv_aload_n hx hb dX9_init_66 rfl (lv_at hl 1 rfl) ?_
  refine va_get (ci := 9) (v := .ref q_1) (C := RX9) (T := TX9) (N := 9) hx hb ht iX9 hown hK hP 0 rfl rfl 0 (by decide) (ht _ k_50) (fun _ h9 => h9) rfl dX9_init_67 ?_
  refine lv_iload_n hx hb dX9_init_70 rfl (lv_at hl 0 rfl) ?_
  refine va_new (ci := 8) (fs := [.null, .null, .int 0]) (C := RX8) (T := TX8) (N := 3) hx hb ht iX8 tyX8 tyX8_ok hown (ht _ k_49) (ht _ k_40) (ht _ k_41) hK hP hD hS hA rfl df8 (Nat.le_of_ble_eq_true rfl) (Nat.le_of_ble_eq_true rfl) dX9_init_71 (fun q_86 H hP hD hS => ?_)
  refine lv_dup hx hb dX9_init_74 rfl ?_
  refine lv_bipush (v := 12) hx hb dX9_init_75 (by decide) ?_
  have hFc := fr_lastF hD hS hA
  have hPc := fr_lastP hP
  refine va_callv (va_runI (As := [.int 12]) (rest := [.ref q_86, .int 13, .ref q_1]) ⟨hx, hb, hml, hown, ht⟩ (c_Song12 l G cy _ q_86 ) (cwI 1 ht (gc k_42) rfl rfl rfl (ht _ k_41) (ht _ k_64) (ht _ k_44) rfl (by decide +kernel) ⟨Nat.le_of_ble_eq_true rfl, Nat.le_of_ble_eq_true rfl⟩) ⟨En.blind, fun U hU hW => ⟨rfl, En.of hU hW hPc hK (fr_lastD (ws := [])) hN⟩⟩ rfl rfl hl.1 rfl (lv_room (Nat.le_of_ble_eq_true rfl)) dX9_init_77 ⟨Nat.le_of_ble_eq_true rfl, Nat.le_of_ble_eq_true rfl⟩) hS (fun q _ h => hFc q h) hFc (fun u_87 t H locs ht9 hvm hw hB hz1 hk1 hS => ?_)
  obtain ⟨hP1, hD1⟩ := hB
  rw [ht9] at hP1
  obtain ⟨hP, hD⟩ := fr_last hP hD hFc hk1 hP1 hD1
  clear hFc hPc hP1 hD1 hz1 hk1
  have hP : va_P G vwCl [(h, .inr (9, [.ref q_1, .ref q_2, .ref q_3, .int 0, .ref q_4, .int 0, .ref q_5, .int 0, .ref q_7])), (q_1, .inl (cy 4, 14, .inr (.inr (.inr (.inr f_82))))), (q_2, .inl (cy 3, 14, .inr (.inl (fun _ => 0)))), (q_3, .inl (cy 5, 14, .inr (.inr (.inr (.inr f_85))))), (q_4, .inl (cy 6, 8, .inr (.inr (.inr (.inr (fun _ => none)))))), (q_5, .inr (5, [.ref (u_6 0), .ref (u_6 1), .int 0, .ref (u_6 2), .int 0])), (q_7, .inl (cy 2, 12, .inl (fun _ => 0))), (q_86, .inr (8, [.ref (u_87 0), .ref (u_87 1), .int 0])), ((u_87 0), .inl (cy 0, 12, .inl (fun _ => 0))), ((u_87 1), .inl (cy 0, 12, .inl (fun _ => 0)))] H := hP
  have hD : va_D A [(h, .inr (9, [.ref q_1, .ref q_2, .ref q_3, .int 0, .ref q_4, .int 0, .ref q_5, .int 0, .ref q_7])), (q_1, .inl (cy 4, 14, .inr (.inr (.inr (.inr f_82))))), (q_2, .inl (cy 3, 14, .inr (.inl (fun _ => 0)))), (q_3, .inl (cy 5, 14, .inr (.inr (.inr (.inr f_85))))), (q_4, .inl (cy 6, 8, .inr (.inr (.inr (.inr (fun _ => none)))))), (q_5, .inr (5, [.ref (u_6 0), .ref (u_6 1), .int 0, .ref (u_6 2), .int 0])), (q_7, .inl (cy 2, 12, .inl (fun _ => 0))), (q_86, .inr (8, [.ref (u_87 0), .ref (u_87 1), .int 0])), ((u_87 0), .inl (cy 0, 12, .inl (fun _ => 0))), ((u_87 1), .inl (cy 0, 12, .inl (fun _ => 0)))] := hD
  refine ow_astq hx hb hK hP hD hS 1 4 7 8 rfl rfl rfl rfl (in_lit (by decide +kernel)) dX9_init_80 (fun f_88 H locs hP hD hS => ?_)
  have hP : va_P G vwCl [(h, .inr (9, [.ref q_1, .ref q_2, .ref q_3, .int 0, .ref q_4, .int 0, .ref q_5, .int 0, .ref q_7])), (q_1, .inl (cy 4, 14, .inr (.inr (.inr (.inr f_88))))), (q_2, .inl (cy 3, 14, .inr (.inl (fun _ => 0)))), (q_3, .inl (cy 5, 14, .inr (.inr (.inr (.inr f_85))))), (q_4, .inl (cy 6, 8, .inr (.inr (.inr (.inr (fun _ => none)))))), (q_5, .inr (5, [.ref (u_6 0), .ref (u_6 1), .int 0, .ref (u_6 2), .int 0])), (q_7, .inl (cy 2, 12, .inl (fun _ => 0))), (q_86, .inr (8, [.ref (u_87 0), .ref (u_87 1), .int 0])), ((u_87 0), .inl (cy 0, 12, .inl (fun _ => 0))), ((u_87 1), .inl (cy 0, 12, .inl (fun _ => 0)))] H := hP
  have hD : va_D A [(h, .inr (9, [.ref q_1, .ref q_2, .ref q_3, .int 0, .ref q_4, .int 0, .ref q_5, .int 0, .ref q_7])), (q_1, .inl (cy 4, 14, .inr (.inr (.inr (.inr f_88))))), (q_2, .inl (cy 3, 14, .inr (.inl (fun _ => 0)))), (q_3, .inl (cy 5, 14, .inr (.inr (.inr (.inr f_85))))), (q_4, .inl (cy 6, 8, .inr (.inr (.inr (.inr (fun _ => none)))))), (q_5, .inr (5, [.ref (u_6 0), .ref (u_6 1), .int 0, .ref (u_6 2), .int 0])), (q_7, .inl (cy 2, 12, .inl (fun _ => 0))), (q_86, .inr (8, [.ref (u_87 0), .ref (u_87 1), .int 0])), ((u_87 0), .inl (cy 0, 12, .inl (fun _ => 0))), ((u_87 1), .inl (cy 0, 12, .inl (fun _ => 0)))] := hD
  have hP : va_P G vwCl [(h, .inr (9, [.ref q_1, .ref q_2, .ref q_3, .int 0, .ref q_4, .int 0, .ref q_5, .int 0, .ref q_7])), (q_1, .inl (cy 4, 14, .inr (.inr (.inr (.inr f_88))))), (q_2, .inl (cy 3, 14, .inr (.inl (fun _ => 0)))), (q_3, .inl (cy 5, 14, .inr (.inr (.inr (.inr f_85))))), (q_4, .inl (cy 6, 8, .inr (.inr (.inr (.inr (fun _ => none)))))), (q_5, .inr (5, [.ref (u_6 0), .ref (u_6 1), .int 0, .ref (u_6 2), .int 0])), (q_7, .inl (cy 2, 12, .inl (fun _ => 0)))] H := hP.sub [0, 1, 2, 3, 4, 5, 6] rfl
  have hD : va_D A [(h, .inr (9, [.ref q_1, .ref q_2, .ref q_3, .int 0, .ref q_4, .int 0, .ref q_5, .int 0, .ref q_7])), (q_1, .inl (cy 4, 14, .inr (.inr (.inr (.inr f_88))))), (q_2, .inl (cy 3, 14, .inr (.inl (fun _ => 0)))), (q_3, .inl (cy 5, 14, .inr (.inr (.inr (.inr f_85))))), (q_4, .inl (cy 6, 8, .inr (.inr (.inr (.inr (fun _ => none)))))), (q_5, .inr (5, [.ref (u_6 0), .ref (u_6 1), .int 0, .ref (u_6 2), .int 0])), (q_7, .inl (cy 2, 12, .inl (fun _ => 0)))] := hD.sub [0, 1, 2, 3, 4, 5, 6] (by decide) rfl
  refine lv_aload_n hx hb dX9_init_81 rfl (lv_at hl 1 rfl) ?_
  refine va_get (ci := 9) (v := .ref q_3) (C := RX9) (T := TX9) (N := 9) hx hb ht iX9 hown hK hP 0 rfl rfl 2 (by decide) (ht _ k_54) (fun _ h9 => h9) rfl dX9_init_82 ?_
  refine lv_iload_n hx hb dX9_init_85 rfl (lv_at hl 0 rfl) ?_
  refine va_new (ci := 2) (fs := [.null, .null, .null, .null, .int 0]) (C := RX2) (T := TX2) (N := 5) hx hb ht iX2 tyX2 tyX2_ok hown (ht _ k_53) (ht _ k_65) (ht _ k_66) hK hP hD hS hA rfl df2 (Nat.le_of_ble_eq_true rfl) (Nat.le_of_ble_eq_true rfl) dX9_init_86 (fun q_89 H hP hD hS => ?_)
  refine lv_dup hx hb dX9_init_89 rfl ?_
  have hFc := fr_lastF hD hS hA
  have hPc := fr_lastP hP
  refine va_callv (va_runIN (As := []) (rest := [.ref q_89, .int 13, .ref q_3]) ⟨hx, hb, hml, hown, ht⟩ (c_Hearing l G cy _ q_89 ) ⟨va_cnB (host := "TuneLocks") 0 ht (gc k_67) rfl rfl rfl (hN.1 _ ns_66) (ht _ k_66) (by decide +kernel) ⟨Nat.le_of_ble_eq_true rfl, Nat.le_of_ble_eq_true rfl⟩, rfl, ht _ k_68⟩ ⟨En.blind, fun U hU hW => ⟨rfl, En.of hU hW hPc hK (fr_lastD (ws := [])) hN⟩⟩ rfl rfl hl.1 rfl (lv_room (Nat.le_of_ble_eq_true rfl)) dX9_init_90 ⟨Nat.le_of_ble_eq_true rfl, Nat.le_of_ble_eq_true rfl⟩) hS (fun q _ h => hFc q h) hFc (fun u_90 t H locs ht9 hvm hw hB hz1 hk1 hS => ?_)
  obtain ⟨hP1, hD1⟩ := hB
  rw [ht9] at hP1
  obtain ⟨hP, hD⟩ := fr_last hP hD hFc hk1 hP1 hD1
  clear hFc hPc hP1 hD1 hz1 hk1
  have hP : va_P G vwCl [(h, .inr (9, [.ref q_1, .ref q_2, .ref q_3, .int 0, .ref q_4, .int 0, .ref q_5, .int 0, .ref q_7])), (q_1, .inl (cy 4, 14, .inr (.inr (.inr (.inr f_88))))), (q_2, .inl (cy 3, 14, .inr (.inl (fun _ => 0)))), (q_3, .inl (cy 5, 14, .inr (.inr (.inr (.inr f_85))))), (q_4, .inl (cy 6, 8, .inr (.inr (.inr (.inr (fun _ => none)))))), (q_5, .inr (5, [.ref (u_6 0), .ref (u_6 1), .int 0, .ref (u_6 2), .int 0])), (q_7, .inl (cy 2, 12, .inl (fun _ => 0))), (q_89, .inr (2, [.ref (u_90 0), .ref (u_90 1), .ref (u_90 2), .ref (u_90 3), .int 0]))] H := hP
  have hD : va_D A [(h, .inr (9, [.ref q_1, .ref q_2, .ref q_3, .int 0, .ref q_4, .int 0, .ref q_5, .int 0, .ref q_7])), (q_1, .inl (cy 4, 14, .inr (.inr (.inr (.inr f_88))))), (q_2, .inl (cy 3, 14, .inr (.inl (fun _ => 0)))), (q_3, .inl (cy 5, 14, .inr (.inr (.inr (.inr f_85))))), (q_4, .inl (cy 6, 8, .inr (.inr (.inr (.inr (fun _ => none)))))), (q_5, .inr (5, [.ref (u_6 0), .ref (u_6 1), .int 0, .ref (u_6 2), .int 0])), (q_7, .inl (cy 2, 12, .inl (fun _ => 0))), (q_89, .inr (2, [.ref (u_90 0), .ref (u_90 1), .ref (u_90 2), .ref (u_90 3), .int 0]))] := hD
  refine ow_astq hx hb hK hP hD hS 3 5 7 2 rfl rfl rfl rfl (in_lit (by decide +kernel)) dX9_init_93 (fun f_91 H locs hP hD hS => ?_)
  have hP : va_P G vwCl [(h, .inr (9, [.ref q_1, .ref q_2, .ref q_3, .int 0, .ref q_4, .int 0, .ref q_5, .int 0, .ref q_7])), (q_1, .inl (cy 4, 14, .inr (.inr (.inr (.inr f_88))))), (q_2, .inl (cy 3, 14, .inr (.inl (fun _ => 0)))), (q_3, .inl (cy 5, 14, .inr (.inr (.inr (.inr f_91))))), (q_4, .inl (cy 6, 8, .inr (.inr (.inr (.inr (fun _ => none)))))), (q_5, .inr (5, [.ref (u_6 0), .ref (u_6 1), .int 0, .ref (u_6 2), .int 0])), (q_7, .inl (cy 2, 12, .inl (fun _ => 0))), (q_89, .inr (2, [.ref (u_90 0), .ref (u_90 1), .ref (u_90 2), .ref (u_90 3), .int 0]))] H := hP
  have hD : va_D A [(h, .inr (9, [.ref q_1, .ref q_2, .ref q_3, .int 0, .ref q_4, .int 0, .ref q_5, .int 0, .ref q_7])), (q_1, .inl (cy 4, 14, .inr (.inr (.inr (.inr f_88))))), (q_2, .inl (cy 3, 14, .inr (.inl (fun _ => 0)))), (q_3, .inl (cy 5, 14, .inr (.inr (.inr (.inr f_91))))), (q_4, .inl (cy 6, 8, .inr (.inr (.inr (.inr (fun _ => none)))))), (q_5, .inr (5, [.ref (u_6 0), .ref (u_6 1), .int 0, .ref (u_6 2), .int 0])), (q_7, .inl (cy 2, 12, .inl (fun _ => 0))), (q_89, .inr (2, [.ref (u_90 0), .ref (u_90 1), .ref (u_90 2), .ref (u_90 3), .int 0]))] := hD
  have hP : va_P G vwCl [(h, .inr (9, [.ref q_1, .ref q_2, .ref q_3, .int 0, .ref q_4, .int 0, .ref q_5, .int 0, .ref q_7])), (q_1, .inl (cy 4, 14, .inr (.inr (.inr (.inr f_88))))), (q_2, .inl (cy 3, 14, .inr (.inl (fun _ => 0)))), (q_3, .inl (cy 5, 14, .inr (.inr (.inr (.inr f_91))))), (q_4, .inl (cy 6, 8, .inr (.inr (.inr (.inr (fun _ => none)))))), (q_5, .inr (5, [.ref (u_6 0), .ref (u_6 1), .int 0, .ref (u_6 2), .int 0])), (q_7, .inl (cy 2, 12, .inl (fun _ => 0)))] H := hP.sub [0, 1, 2, 3, 4, 5, 6] rfl
  have hD : va_D A [(h, .inr (9, [.ref q_1, .ref q_2, .ref q_3, .int 0, .ref q_4, .int 0, .ref q_5, .int 0, .ref q_7])), (q_1, .inl (cy 4, 14, .inr (.inr (.inr (.inr f_88))))), (q_2, .inl (cy 3, 14, .inr (.inl (fun _ => 0)))), (q_3, .inl (cy 5, 14, .inr (.inr (.inr (.inr f_91))))), (q_4, .inl (cy 6, 8, .inr (.inr (.inr (.inr (fun _ => none)))))), (q_5, .inr (5, [.ref (u_6 0), .ref (u_6 1), .int 0, .ref (u_6 2), .int 0])), (q_7, .inl (cy 2, 12, .inl (fun _ => 0)))] := hD.sub [0, 1, 2, 3, 4, 5, 6] (by decide) rfl
  refine lv_iinc (v := 14) (lv' := [(1, .int 14), (0, .ref h)]) hx hb dX9_init_94 hl (k := 0) rfl (by decide) (by decide) rfl (fun ls hl => ?_)
  refine lv_goto (tgt := 60) hx hb dX9_init_97 (by decide) ?_
  refine lv_iload_n hx hb dX9_init_60 rfl (lv_at hl 0 rfl) ?_
  refine lv_bipush (v := 14) hx hb dX9_init_61 (by decide) ?_
  refine lv_icmp_ge (tgt := 100) hx hb dX9_init_63 (by decide) (fun _ => ?_) (fun c9 => absurd (by decide) c9)
  refine lv_iconst (v := 0) hx hb dX9_init_100 (by decide) ?_
  refine lv_istore_n (lv' := [(1, .int 0), (0, .ref h)]) hx hb dX9_init_101 rfl hl (by decide) rfl (fun ls hl => ?_)
  refine lv_iload_n hx hb dX9_init_102 rfl (lv_at hl 0 rfl) ?_
  refine lv_bipush (v := 8) hx hb dX9_init_103 (by decide) ?_
  refine lv_icmp_ge (tgt := 127) hx hb dX9_init_105 (by decide) (fun c9 => absurd c9 (by decide)) (fun _ => ?_)
  refine lv_aload_n hx hb dX9_init_108 rfl (lv_at hl 1 rfl) ?_
  refine va_get (ci := 9) (v := .ref q_4) (C := RX9) (T := TX9) (N := 9) hx hb ht iX9 hown hK hP 0 rfl rfl 4 (by decide) (ht _ k_56) (fun _ h9 => h9) rfl dX9_init_109 ?_
  refine lv_iload_n hx hb dX9_init_112 rfl (lv_at hl 0 rfl) ?_
  refine va_new (ci := 4) (fs := [.long 0, .int 0, .int 0, .int 0, .int 0, .int 0]) (C := RX4) (T := TX4) (N := 6) hx hb ht iX4 tyX4 tyX4_ok hown (ht _ k_55) (ht _ k_69) (ht _ k_70) hK hP hD hS hA rfl df4 (Nat.le_of_ble_eq_true rfl) (Nat.le_of_ble_eq_true rfl) dX9_init_113 (fun q_92 H hP hD hS => ?_)
  refine lv_dup hx hb dX9_init_116 rfl ?_
  have hFc := fr_lastF hD hS hA
  have hPc := fr_lastP hP
  refine va_callv (va_runIN (As := []) (rest := [.ref q_92, .int 0, .ref q_4]) ⟨hx, hb, hml, hown, ht⟩ (c_Lock l G cy _ q_92 ) ⟨va_cnB (host := "TuneLocks") 0 ht (gc k_71) rfl rfl rfl (hN.1 _ ns_67) (ht _ k_70) (by decide +kernel) ⟨Nat.le_of_ble_eq_true rfl, Nat.le_of_ble_eq_true rfl⟩, rfl, ht _ k_72⟩ ⟨En.blind, fun U hU hW => ⟨rfl, En.of hU hW hPc hK (fr_lastD (ws := [])) hN⟩⟩ rfl rfl hl.1 rfl (lv_room (Nat.le_of_ble_eq_true rfl)) dX9_init_117 ⟨Nat.le_of_ble_eq_true rfl, Nat.le_of_ble_eq_true rfl⟩) hS (fun q _ h => hFc q h) hFc (fun u_93 t H locs ht9 hvm hw hB hz1 hk1 hS => ?_)
  obtain ⟨hP1, hD1⟩ := hB
  rw [ht9] at hP1
  obtain ⟨hP, hD⟩ := fr_last hP hD hFc hk1 hP1 hD1
  clear hFc hPc hP1 hD1 hz1 hk1
  have hP : va_P G vwCl [(h, .inr (9, [.ref q_1, .ref q_2, .ref q_3, .int 0, .ref q_4, .int 0, .ref q_5, .int 0, .ref q_7])), (q_1, .inl (cy 4, 14, .inr (.inr (.inr (.inr f_88))))), (q_2, .inl (cy 3, 14, .inr (.inl (fun _ => 0)))), (q_3, .inl (cy 5, 14, .inr (.inr (.inr (.inr f_91))))), (q_4, .inl (cy 6, 8, .inr (.inr (.inr (.inr (fun _ => none)))))), (q_5, .inr (5, [.ref (u_6 0), .ref (u_6 1), .int 0, .ref (u_6 2), .int 0])), (q_7, .inl (cy 2, 12, .inl (fun _ => 0))), (q_92, .inr (4, [.long 0, .int 0, .int 0, .int 0, .int 0, .int 0]))] H := hP
  have hD : va_D A [(h, .inr (9, [.ref q_1, .ref q_2, .ref q_3, .int 0, .ref q_4, .int 0, .ref q_5, .int 0, .ref q_7])), (q_1, .inl (cy 4, 14, .inr (.inr (.inr (.inr f_88))))), (q_2, .inl (cy 3, 14, .inr (.inl (fun _ => 0)))), (q_3, .inl (cy 5, 14, .inr (.inr (.inr (.inr f_91))))), (q_4, .inl (cy 6, 8, .inr (.inr (.inr (.inr (fun _ => none)))))), (q_5, .inr (5, [.ref (u_6 0), .ref (u_6 1), .int 0, .ref (u_6 2), .int 0])), (q_7, .inl (cy 2, 12, .inl (fun _ => 0))), (q_92, .inr (4, [.long 0, .int 0, .int 0, .int 0, .int 0, .int 0]))] := hD
  refine ow_astq hx hb hK hP hD hS 4 6 7 4 rfl rfl rfl rfl (in_lit (by decide +kernel)) dX9_init_120 (fun f_94 H locs hP hD hS => ?_)
  have hP : va_P G vwCl [(h, .inr (9, [.ref q_1, .ref q_2, .ref q_3, .int 0, .ref q_4, .int 0, .ref q_5, .int 0, .ref q_7])), (q_1, .inl (cy 4, 14, .inr (.inr (.inr (.inr f_88))))), (q_2, .inl (cy 3, 14, .inr (.inl (fun _ => 0)))), (q_3, .inl (cy 5, 14, .inr (.inr (.inr (.inr f_91))))), (q_4, .inl (cy 6, 8, .inr (.inr (.inr (.inr f_94))))), (q_5, .inr (5, [.ref (u_6 0), .ref (u_6 1), .int 0, .ref (u_6 2), .int 0])), (q_7, .inl (cy 2, 12, .inl (fun _ => 0))), (q_92, .inr (4, [.long 0, .int 0, .int 0, .int 0, .int 0, .int 0]))] H := hP
  have hD : va_D A [(h, .inr (9, [.ref q_1, .ref q_2, .ref q_3, .int 0, .ref q_4, .int 0, .ref q_5, .int 0, .ref q_7])), (q_1, .inl (cy 4, 14, .inr (.inr (.inr (.inr f_88))))), (q_2, .inl (cy 3, 14, .inr (.inl (fun _ => 0)))), (q_3, .inl (cy 5, 14, .inr (.inr (.inr (.inr f_91))))), (q_4, .inl (cy 6, 8, .inr (.inr (.inr (.inr f_94))))), (q_5, .inr (5, [.ref (u_6 0), .ref (u_6 1), .int 0, .ref (u_6 2), .int 0])), (q_7, .inl (cy 2, 12, .inl (fun _ => 0))), (q_92, .inr (4, [.long 0, .int 0, .int 0, .int 0, .int 0, .int 0]))] := hD
  have hP : va_P G vwCl [(h, .inr (9, [.ref q_1, .ref q_2, .ref q_3, .int 0, .ref q_4, .int 0, .ref q_5, .int 0, .ref q_7])), (q_1, .inl (cy 4, 14, .inr (.inr (.inr (.inr f_88))))), (q_2, .inl (cy 3, 14, .inr (.inl (fun _ => 0)))), (q_3, .inl (cy 5, 14, .inr (.inr (.inr (.inr f_91))))), (q_4, .inl (cy 6, 8, .inr (.inr (.inr (.inr f_94))))), (q_5, .inr (5, [.ref (u_6 0), .ref (u_6 1), .int 0, .ref (u_6 2), .int 0])), (q_7, .inl (cy 2, 12, .inl (fun _ => 0)))] H := hP.sub [0, 1, 2, 3, 4, 5, 6] rfl
  have hD : va_D A [(h, .inr (9, [.ref q_1, .ref q_2, .ref q_3, .int 0, .ref q_4, .int 0, .ref q_5, .int 0, .ref q_7])), (q_1, .inl (cy 4, 14, .inr (.inr (.inr (.inr f_88))))), (q_2, .inl (cy 3, 14, .inr (.inl (fun _ => 0)))), (q_3, .inl (cy 5, 14, .inr (.inr (.inr (.inr f_91))))), (q_4, .inl (cy 6, 8, .inr (.inr (.inr (.inr f_94))))), (q_5, .inr (5, [.ref (u_6 0), .ref (u_6 1), .int 0, .ref (u_6 2), .int 0])), (q_7, .inl (cy 2, 12, .inl (fun _ => 0)))] := hD.sub [0, 1, 2, 3, 4, 5, 6] (by decide) rfl
  refine lv_iinc (v := 1) (lv' := [(1, .int 1), (0, .ref h)]) hx hb dX9_init_121 hl (k := 0) rfl (by decide) (by decide) rfl (fun ls hl => ?_)
  refine lv_goto (tgt := 102) hx hb dX9_init_124 (by decide) ?_
  refine lv_iload_n hx hb dX9_init_102 rfl (lv_at hl 0 rfl) ?_
  refine lv_bipush (v := 8) hx hb dX9_init_103 (by decide) ?_
  refine lv_icmp_ge (tgt := 127) hx hb dX9_init_105 (by decide) (fun c9 => absurd c9 (by decide)) (fun _ => ?_)
  refine lv_aload_n hx hb dX9_init_108 rfl (lv_at hl 1 rfl) ?_
  refine va_get (ci := 9) (v := .ref q_4) (C := RX9) (T := TX9) (N := 9) hx hb ht iX9 hown hK hP 0 rfl rfl 4 (by decide) (ht _ k_56) (fun _ h9 => h9) rfl dX9_init_109 ?_
  refine lv_iload_n hx hb dX9_init_112 rfl (lv_at hl 0 rfl) ?_
  refine va_new (ci := 4) (fs := [.long 0, .int 0, .int 0, .int 0, .int 0, .int 0]) (C := RX4) (T := TX4) (N := 6) hx hb ht iX4 tyX4 tyX4_ok hown (ht _ k_55) (ht _ k_69) (ht _ k_70) hK hP hD hS hA rfl df4 (Nat.le_of_ble_eq_true rfl) (Nat.le_of_ble_eq_true rfl) dX9_init_113 (fun q_95 H hP hD hS => ?_)
  refine lv_dup hx hb dX9_init_116 rfl ?_
  have hFc := fr_lastF hD hS hA
  have hPc := fr_lastP hP
  refine va_callv (va_runIN (As := []) (rest := [.ref q_95, .int 1, .ref q_4]) ⟨hx, hb, hml, hown, ht⟩ (c_Lock l G cy _ q_95 ) ⟨va_cnB (host := "TuneLocks") 0 ht (gc k_71) rfl rfl rfl (hN.1 _ ns_67) (ht _ k_70) (by decide +kernel) ⟨Nat.le_of_ble_eq_true rfl, Nat.le_of_ble_eq_true rfl⟩, rfl, ht _ k_72⟩ ⟨En.blind, fun U hU hW => ⟨rfl, En.of hU hW hPc hK (fr_lastD (ws := [])) hN⟩⟩ rfl rfl hl.1 rfl (lv_room (Nat.le_of_ble_eq_true rfl)) dX9_init_117 ⟨Nat.le_of_ble_eq_true rfl, Nat.le_of_ble_eq_true rfl⟩) hS (fun q _ h => hFc q h) hFc (fun u_96 t H locs ht9 hvm hw hB hz1 hk1 hS => ?_)
  obtain ⟨hP1, hD1⟩ := hB
  rw [ht9] at hP1
  obtain ⟨hP, hD⟩ := fr_last hP hD hFc hk1 hP1 hD1
  clear hFc hPc hP1 hD1 hz1 hk1
  have hP : va_P G vwCl [(h, .inr (9, [.ref q_1, .ref q_2, .ref q_3, .int 0, .ref q_4, .int 0, .ref q_5, .int 0, .ref q_7])), (q_1, .inl (cy 4, 14, .inr (.inr (.inr (.inr f_88))))), (q_2, .inl (cy 3, 14, .inr (.inl (fun _ => 0)))), (q_3, .inl (cy 5, 14, .inr (.inr (.inr (.inr f_91))))), (q_4, .inl (cy 6, 8, .inr (.inr (.inr (.inr f_94))))), (q_5, .inr (5, [.ref (u_6 0), .ref (u_6 1), .int 0, .ref (u_6 2), .int 0])), (q_7, .inl (cy 2, 12, .inl (fun _ => 0))), (q_95, .inr (4, [.long 0, .int 0, .int 0, .int 0, .int 0, .int 0]))] H := hP
  have hD : va_D A [(h, .inr (9, [.ref q_1, .ref q_2, .ref q_3, .int 0, .ref q_4, .int 0, .ref q_5, .int 0, .ref q_7])), (q_1, .inl (cy 4, 14, .inr (.inr (.inr (.inr f_88))))), (q_2, .inl (cy 3, 14, .inr (.inl (fun _ => 0)))), (q_3, .inl (cy 5, 14, .inr (.inr (.inr (.inr f_91))))), (q_4, .inl (cy 6, 8, .inr (.inr (.inr (.inr f_94))))), (q_5, .inr (5, [.ref (u_6 0), .ref (u_6 1), .int 0, .ref (u_6 2), .int 0])), (q_7, .inl (cy 2, 12, .inl (fun _ => 0))), (q_95, .inr (4, [.long 0, .int 0, .int 0, .int 0, .int 0, .int 0]))] := hD
  refine ow_astq hx hb hK hP hD hS 4 6 7 4 rfl rfl rfl rfl (in_lit (by decide +kernel)) dX9_init_120 (fun f_97 H locs hP hD hS => ?_)
  have hP : va_P G vwCl [(h, .inr (9, [.ref q_1, .ref q_2, .ref q_3, .int 0, .ref q_4, .int 0, .ref q_5, .int 0, .ref q_7])), (q_1, .inl (cy 4, 14, .inr (.inr (.inr (.inr f_88))))), (q_2, .inl (cy 3, 14, .inr (.inl (fun _ => 0)))), (q_3, .inl (cy 5, 14, .inr (.inr (.inr (.inr f_91))))), (q_4, .inl (cy 6, 8, .inr (.inr (.inr (.inr f_97))))), (q_5, .inr (5, [.ref (u_6 0), .ref (u_6 1), .int 0, .ref (u_6 2), .int 0])), (q_7, .inl (cy 2, 12, .inl (fun _ => 0))), (q_95, .inr (4, [.long 0, .int 0, .int 0, .int 0, .int 0, .int 0]))] H := hP
  have hD : va_D A [(h, .inr (9, [.ref q_1, .ref q_2, .ref q_3, .int 0, .ref q_4, .int 0, .ref q_5, .int 0, .ref q_7])), (q_1, .inl (cy 4, 14, .inr (.inr (.inr (.inr f_88))))), (q_2, .inl (cy 3, 14, .inr (.inl (fun _ => 0)))), (q_3, .inl (cy 5, 14, .inr (.inr (.inr (.inr f_91))))), (q_4, .inl (cy 6, 8, .inr (.inr (.inr (.inr f_97))))), (q_5, .inr (5, [.ref (u_6 0), .ref (u_6 1), .int 0, .ref (u_6 2), .int 0])), (q_7, .inl (cy 2, 12, .inl (fun _ => 0))), (q_95, .inr (4, [.long 0, .int 0, .int 0, .int 0, .int 0, .int 0]))] := hD
  have hP : va_P G vwCl [(h, .inr (9, [.ref q_1, .ref q_2, .ref q_3, .int 0, .ref q_4, .int 0, .ref q_5, .int 0, .ref q_7])), (q_1, .inl (cy 4, 14, .inr (.inr (.inr (.inr f_88))))), (q_2, .inl (cy 3, 14, .inr (.inl (fun _ => 0)))), (q_3, .inl (cy 5, 14, .inr (.inr (.inr (.inr f_91))))), (q_4, .inl (cy 6, 8, .inr (.inr (.inr (.inr f_97))))), (q_5, .inr (5, [.ref (u_6 0), .ref (u_6 1), .int 0, .ref (u_6 2), .int 0])), (q_7, .inl (cy 2, 12, .inl (fun _ => 0)))] H := hP.sub [0, 1, 2, 3, 4, 5, 6] rfl
  have hD : va_D A [(h, .inr (9, [.ref q_1, .ref q_2, .ref q_3, .int 0, .ref q_4, .int 0, .ref q_5, .int 0, .ref q_7])), (q_1, .inl (cy 4, 14, .inr (.inr (.inr (.inr f_88))))), (q_2, .inl (cy 3, 14, .inr (.inl (fun _ => 0)))), (q_3, .inl (cy 5, 14, .inr (.inr (.inr (.inr f_91))))), (q_4, .inl (cy 6, 8, .inr (.inr (.inr (.inr f_97))))), (q_5, .inr (5, [.ref (u_6 0), .ref (u_6 1), .int 0, .ref (u_6 2), .int 0])), (q_7, .inl (cy 2, 12, .inl (fun _ => 0)))] := hD.sub [0, 1, 2, 3, 4, 5, 6] (by decide) rfl
  refine lv_iinc (v := 2) (lv' := [(1, .int 2), (0, .ref h)]) hx hb dX9_init_121 hl (k := 0) rfl (by decide) (by decide) rfl (fun ls hl => ?_)
  refine lv_goto (tgt := 102) hx hb dX9_init_124 (by decide) ?_
  refine lv_iload_n hx hb dX9_init_102 rfl (lv_at hl 0 rfl) ?_
  refine lv_bipush (v := 8) hx hb dX9_init_103 (by decide) ?_
  refine lv_icmp_ge (tgt := 127) hx hb dX9_init_105 (by decide) (fun c9 => absurd c9 (by decide)) (fun _ => ?_)
  refine lv_aload_n hx hb dX9_init_108 rfl (lv_at hl 1 rfl) ?_
  refine va_get (ci := 9) (v := .ref q_4) (C := RX9) (T := TX9) (N := 9) hx hb ht iX9 hown hK hP 0 rfl rfl 4 (by decide) (ht _ k_56) (fun _ h9 => h9) rfl dX9_init_109 ?_
  refine lv_iload_n hx hb dX9_init_112 rfl (lv_at hl 0 rfl) ?_
  refine va_new (ci := 4) (fs := [.long 0, .int 0, .int 0, .int 0, .int 0, .int 0]) (C := RX4) (T := TX4) (N := 6) hx hb ht iX4 tyX4 tyX4_ok hown (ht _ k_55) (ht _ k_69) (ht _ k_70) hK hP hD hS hA rfl df4 (Nat.le_of_ble_eq_true rfl) (Nat.le_of_ble_eq_true rfl) dX9_init_113 (fun q_98 H hP hD hS => ?_)
  refine lv_dup hx hb dX9_init_116 rfl ?_
  have hFc := fr_lastF hD hS hA
  have hPc := fr_lastP hP
  refine va_callv (va_runIN (As := []) (rest := [.ref q_98, .int 2, .ref q_4]) ⟨hx, hb, hml, hown, ht⟩ (c_Lock l G cy _ q_98 ) ⟨va_cnB (host := "TuneLocks") 0 ht (gc k_71) rfl rfl rfl (hN.1 _ ns_67) (ht _ k_70) (by decide +kernel) ⟨Nat.le_of_ble_eq_true rfl, Nat.le_of_ble_eq_true rfl⟩, rfl, ht _ k_72⟩ ⟨En.blind, fun U hU hW => ⟨rfl, En.of hU hW hPc hK (fr_lastD (ws := [])) hN⟩⟩ rfl rfl hl.1 rfl (lv_room (Nat.le_of_ble_eq_true rfl)) dX9_init_117 ⟨Nat.le_of_ble_eq_true rfl, Nat.le_of_ble_eq_true rfl⟩) hS (fun q _ h => hFc q h) hFc (fun u_99 t H locs ht9 hvm hw hB hz1 hk1 hS => ?_)
  obtain ⟨hP1, hD1⟩ := hB
  rw [ht9] at hP1
  obtain ⟨hP, hD⟩ := fr_last hP hD hFc hk1 hP1 hD1
  clear hFc hPc hP1 hD1 hz1 hk1
  have hP : va_P G vwCl [(h, .inr (9, [.ref q_1, .ref q_2, .ref q_3, .int 0, .ref q_4, .int 0, .ref q_5, .int 0, .ref q_7])), (q_1, .inl (cy 4, 14, .inr (.inr (.inr (.inr f_88))))), (q_2, .inl (cy 3, 14, .inr (.inl (fun _ => 0)))), (q_3, .inl (cy 5, 14, .inr (.inr (.inr (.inr f_91))))), (q_4, .inl (cy 6, 8, .inr (.inr (.inr (.inr f_97))))), (q_5, .inr (5, [.ref (u_6 0), .ref (u_6 1), .int 0, .ref (u_6 2), .int 0])), (q_7, .inl (cy 2, 12, .inl (fun _ => 0))), (q_98, .inr (4, [.long 0, .int 0, .int 0, .int 0, .int 0, .int 0]))] H := hP
  have hD : va_D A [(h, .inr (9, [.ref q_1, .ref q_2, .ref q_3, .int 0, .ref q_4, .int 0, .ref q_5, .int 0, .ref q_7])), (q_1, .inl (cy 4, 14, .inr (.inr (.inr (.inr f_88))))), (q_2, .inl (cy 3, 14, .inr (.inl (fun _ => 0)))), (q_3, .inl (cy 5, 14, .inr (.inr (.inr (.inr f_91))))), (q_4, .inl (cy 6, 8, .inr (.inr (.inr (.inr f_97))))), (q_5, .inr (5, [.ref (u_6 0), .ref (u_6 1), .int 0, .ref (u_6 2), .int 0])), (q_7, .inl (cy 2, 12, .inl (fun _ => 0))), (q_98, .inr (4, [.long 0, .int 0, .int 0, .int 0, .int 0, .int 0]))] := hD
  refine ow_astq hx hb hK hP hD hS 4 6 7 4 rfl rfl rfl rfl (in_lit (by decide +kernel)) dX9_init_120 (fun f_100 H locs hP hD hS => ?_)
  have hP : va_P G vwCl [(h, .inr (9, [.ref q_1, .ref q_2, .ref q_3, .int 0, .ref q_4, .int 0, .ref q_5, .int 0, .ref q_7])), (q_1, .inl (cy 4, 14, .inr (.inr (.inr (.inr f_88))))), (q_2, .inl (cy 3, 14, .inr (.inl (fun _ => 0)))), (q_3, .inl (cy 5, 14, .inr (.inr (.inr (.inr f_91))))), (q_4, .inl (cy 6, 8, .inr (.inr (.inr (.inr f_100))))), (q_5, .inr (5, [.ref (u_6 0), .ref (u_6 1), .int 0, .ref (u_6 2), .int 0])), (q_7, .inl (cy 2, 12, .inl (fun _ => 0))), (q_98, .inr (4, [.long 0, .int 0, .int 0, .int 0, .int 0, .int 0]))] H := hP
  have hD : va_D A [(h, .inr (9, [.ref q_1, .ref q_2, .ref q_3, .int 0, .ref q_4, .int 0, .ref q_5, .int 0, .ref q_7])), (q_1, .inl (cy 4, 14, .inr (.inr (.inr (.inr f_88))))), (q_2, .inl (cy 3, 14, .inr (.inl (fun _ => 0)))), (q_3, .inl (cy 5, 14, .inr (.inr (.inr (.inr f_91))))), (q_4, .inl (cy 6, 8, .inr (.inr (.inr (.inr f_100))))), (q_5, .inr (5, [.ref (u_6 0), .ref (u_6 1), .int 0, .ref (u_6 2), .int 0])), (q_7, .inl (cy 2, 12, .inl (fun _ => 0))), (q_98, .inr (4, [.long 0, .int 0, .int 0, .int 0, .int 0, .int 0]))] := hD
  have hP : va_P G vwCl [(h, .inr (9, [.ref q_1, .ref q_2, .ref q_3, .int 0, .ref q_4, .int 0, .ref q_5, .int 0, .ref q_7])), (q_1, .inl (cy 4, 14, .inr (.inr (.inr (.inr f_88))))), (q_2, .inl (cy 3, 14, .inr (.inl (fun _ => 0)))), (q_3, .inl (cy 5, 14, .inr (.inr (.inr (.inr f_91))))), (q_4, .inl (cy 6, 8, .inr (.inr (.inr (.inr f_100))))), (q_5, .inr (5, [.ref (u_6 0), .ref (u_6 1), .int 0, .ref (u_6 2), .int 0])), (q_7, .inl (cy 2, 12, .inl (fun _ => 0)))] H := hP.sub [0, 1, 2, 3, 4, 5, 6] rfl
  have hD : va_D A [(h, .inr (9, [.ref q_1, .ref q_2, .ref q_3, .int 0, .ref q_4, .int 0, .ref q_5, .int 0, .ref q_7])), (q_1, .inl (cy 4, 14, .inr (.inr (.inr (.inr f_88))))), (q_2, .inl (cy 3, 14, .inr (.inl (fun _ => 0)))), (q_3, .inl (cy 5, 14, .inr (.inr (.inr (.inr f_91))))), (q_4, .inl (cy 6, 8, .inr (.inr (.inr (.inr f_100))))), (q_5, .inr (5, [.ref (u_6 0), .ref (u_6 1), .int 0, .ref (u_6 2), .int 0])), (q_7, .inl (cy 2, 12, .inl (fun _ => 0)))] := hD.sub [0, 1, 2, 3, 4, 5, 6] (by decide) rfl
  refine lv_iinc (v := 3) (lv' := [(1, .int 3), (0, .ref h)]) hx hb dX9_init_121 hl (k := 0) rfl (by decide) (by decide) rfl (fun ls hl => ?_)
  refine lv_goto (tgt := 102) hx hb dX9_init_124 (by decide) ?_
  refine lv_iload_n hx hb dX9_init_102 rfl (lv_at hl 0 rfl) ?_
  refine lv_bipush (v := 8) hx hb dX9_init_103 (by decide) ?_
  refine lv_icmp_ge (tgt := 127) hx hb dX9_init_105 (by decide) (fun c9 => absurd c9 (by decide)) (fun _ => ?_)
  refine lv_aload_n hx hb dX9_init_108 rfl (lv_at hl 1 rfl) ?_
  refine va_get (ci := 9) (v := .ref q_4) (C := RX9) (T := TX9) (N := 9) hx hb ht iX9 hown hK hP 0 rfl rfl 4 (by decide) (ht _ k_56) (fun _ h9 => h9) rfl dX9_init_109 ?_
  refine lv_iload_n hx hb dX9_init_112 rfl (lv_at hl 0 rfl) ?_
  refine va_new (ci := 4) (fs := [.long 0, .int 0, .int 0, .int 0, .int 0, .int 0]) (C := RX4) (T := TX4) (N := 6) hx hb ht iX4 tyX4 tyX4_ok hown (ht _ k_55) (ht _ k_69) (ht _ k_70) hK hP hD hS hA rfl df4 (Nat.le_of_ble_eq_true rfl) (Nat.le_of_ble_eq_true rfl) dX9_init_113 (fun q_101 H hP hD hS => ?_)
  refine lv_dup hx hb dX9_init_116 rfl ?_
  have hFc := fr_lastF hD hS hA
  have hPc := fr_lastP hP
  refine va_callv (va_runIN (As := []) (rest := [.ref q_101, .int 3, .ref q_4]) ⟨hx, hb, hml, hown, ht⟩ (c_Lock l G cy _ q_101 ) ⟨va_cnB (host := "TuneLocks") 0 ht (gc k_71) rfl rfl rfl (hN.1 _ ns_67) (ht _ k_70) (by decide +kernel) ⟨Nat.le_of_ble_eq_true rfl, Nat.le_of_ble_eq_true rfl⟩, rfl, ht _ k_72⟩ ⟨En.blind, fun U hU hW => ⟨rfl, En.of hU hW hPc hK (fr_lastD (ws := [])) hN⟩⟩ rfl rfl hl.1 rfl (lv_room (Nat.le_of_ble_eq_true rfl)) dX9_init_117 ⟨Nat.le_of_ble_eq_true rfl, Nat.le_of_ble_eq_true rfl⟩) hS (fun q _ h => hFc q h) hFc (fun u_102 t H locs ht9 hvm hw hB hz1 hk1 hS => ?_)
  obtain ⟨hP1, hD1⟩ := hB
  rw [ht9] at hP1
  obtain ⟨hP, hD⟩ := fr_last hP hD hFc hk1 hP1 hD1
  clear hFc hPc hP1 hD1 hz1 hk1
  have hP : va_P G vwCl [(h, .inr (9, [.ref q_1, .ref q_2, .ref q_3, .int 0, .ref q_4, .int 0, .ref q_5, .int 0, .ref q_7])), (q_1, .inl (cy 4, 14, .inr (.inr (.inr (.inr f_88))))), (q_2, .inl (cy 3, 14, .inr (.inl (fun _ => 0)))), (q_3, .inl (cy 5, 14, .inr (.inr (.inr (.inr f_91))))), (q_4, .inl (cy 6, 8, .inr (.inr (.inr (.inr f_100))))), (q_5, .inr (5, [.ref (u_6 0), .ref (u_6 1), .int 0, .ref (u_6 2), .int 0])), (q_7, .inl (cy 2, 12, .inl (fun _ => 0))), (q_101, .inr (4, [.long 0, .int 0, .int 0, .int 0, .int 0, .int 0]))] H := hP
  have hD : va_D A [(h, .inr (9, [.ref q_1, .ref q_2, .ref q_3, .int 0, .ref q_4, .int 0, .ref q_5, .int 0, .ref q_7])), (q_1, .inl (cy 4, 14, .inr (.inr (.inr (.inr f_88))))), (q_2, .inl (cy 3, 14, .inr (.inl (fun _ => 0)))), (q_3, .inl (cy 5, 14, .inr (.inr (.inr (.inr f_91))))), (q_4, .inl (cy 6, 8, .inr (.inr (.inr (.inr f_100))))), (q_5, .inr (5, [.ref (u_6 0), .ref (u_6 1), .int 0, .ref (u_6 2), .int 0])), (q_7, .inl (cy 2, 12, .inl (fun _ => 0))), (q_101, .inr (4, [.long 0, .int 0, .int 0, .int 0, .int 0, .int 0]))] := hD
  refine ow_astq hx hb hK hP hD hS 4 6 7 4 rfl rfl rfl rfl (in_lit (by decide +kernel)) dX9_init_120 (fun f_103 H locs hP hD hS => ?_)
  have hP : va_P G vwCl [(h, .inr (9, [.ref q_1, .ref q_2, .ref q_3, .int 0, .ref q_4, .int 0, .ref q_5, .int 0, .ref q_7])), (q_1, .inl (cy 4, 14, .inr (.inr (.inr (.inr f_88))))), (q_2, .inl (cy 3, 14, .inr (.inl (fun _ => 0)))), (q_3, .inl (cy 5, 14, .inr (.inr (.inr (.inr f_91))))), (q_4, .inl (cy 6, 8, .inr (.inr (.inr (.inr f_103))))), (q_5, .inr (5, [.ref (u_6 0), .ref (u_6 1), .int 0, .ref (u_6 2), .int 0])), (q_7, .inl (cy 2, 12, .inl (fun _ => 0))), (q_101, .inr (4, [.long 0, .int 0, .int 0, .int 0, .int 0, .int 0]))] H := hP
  have hD : va_D A [(h, .inr (9, [.ref q_1, .ref q_2, .ref q_3, .int 0, .ref q_4, .int 0, .ref q_5, .int 0, .ref q_7])), (q_1, .inl (cy 4, 14, .inr (.inr (.inr (.inr f_88))))), (q_2, .inl (cy 3, 14, .inr (.inl (fun _ => 0)))), (q_3, .inl (cy 5, 14, .inr (.inr (.inr (.inr f_91))))), (q_4, .inl (cy 6, 8, .inr (.inr (.inr (.inr f_103))))), (q_5, .inr (5, [.ref (u_6 0), .ref (u_6 1), .int 0, .ref (u_6 2), .int 0])), (q_7, .inl (cy 2, 12, .inl (fun _ => 0))), (q_101, .inr (4, [.long 0, .int 0, .int 0, .int 0, .int 0, .int 0]))] := hD
  have hP : va_P G vwCl [(h, .inr (9, [.ref q_1, .ref q_2, .ref q_3, .int 0, .ref q_4, .int 0, .ref q_5, .int 0, .ref q_7])), (q_1, .inl (cy 4, 14, .inr (.inr (.inr (.inr f_88))))), (q_2, .inl (cy 3, 14, .inr (.inl (fun _ => 0)))), (q_3, .inl (cy 5, 14, .inr (.inr (.inr (.inr f_91))))), (q_4, .inl (cy 6, 8, .inr (.inr (.inr (.inr f_103))))), (q_5, .inr (5, [.ref (u_6 0), .ref (u_6 1), .int 0, .ref (u_6 2), .int 0])), (q_7, .inl (cy 2, 12, .inl (fun _ => 0)))] H := hP.sub [0, 1, 2, 3, 4, 5, 6] rfl
  have hD : va_D A [(h, .inr (9, [.ref q_1, .ref q_2, .ref q_3, .int 0, .ref q_4, .int 0, .ref q_5, .int 0, .ref q_7])), (q_1, .inl (cy 4, 14, .inr (.inr (.inr (.inr f_88))))), (q_2, .inl (cy 3, 14, .inr (.inl (fun _ => 0)))), (q_3, .inl (cy 5, 14, .inr (.inr (.inr (.inr f_91))))), (q_4, .inl (cy 6, 8, .inr (.inr (.inr (.inr f_103))))), (q_5, .inr (5, [.ref (u_6 0), .ref (u_6 1), .int 0, .ref (u_6 2), .int 0])), (q_7, .inl (cy 2, 12, .inl (fun _ => 0)))] := hD.sub [0, 1, 2, 3, 4, 5, 6] (by decide) rfl
  refine lv_iinc (v := 4) (lv' := [(1, .int 4), (0, .ref h)]) hx hb dX9_init_121 hl (k := 0) rfl (by decide) (by decide) rfl (fun ls hl => ?_)
  refine lv_goto (tgt := 102) hx hb dX9_init_124 (by decide) ?_
  refine lv_iload_n hx hb dX9_init_102 rfl (lv_at hl 0 rfl) ?_
  refine lv_bipush (v := 8) hx hb dX9_init_103 (by decide) ?_
  refine lv_icmp_ge (tgt := 127) hx hb dX9_init_105 (by decide) (fun c9 => absurd c9 (by decide)) (fun _ => ?_)
  refine lv_aload_n hx hb dX9_init_108 rfl (lv_at hl 1 rfl) ?_
  refine va_get (ci := 9) (v := .ref q_4) (C := RX9) (T := TX9) (N := 9) hx hb ht iX9 hown hK hP 0 rfl rfl 4 (by decide) (ht _ k_56) (fun _ h9 => h9) rfl dX9_init_109 ?_
  refine lv_iload_n hx hb dX9_init_112 rfl (lv_at hl 0 rfl) ?_
  refine va_new (ci := 4) (fs := [.long 0, .int 0, .int 0, .int 0, .int 0, .int 0]) (C := RX4) (T := TX4) (N := 6) hx hb ht iX4 tyX4 tyX4_ok hown (ht _ k_55) (ht _ k_69) (ht _ k_70) hK hP hD hS hA rfl df4 (Nat.le_of_ble_eq_true rfl) (Nat.le_of_ble_eq_true rfl) dX9_init_113 (fun q_104 H hP hD hS => ?_)
  refine lv_dup hx hb dX9_init_116 rfl ?_
  have hFc := fr_lastF hD hS hA
  have hPc := fr_lastP hP
  refine va_callv (va_runIN (As := []) (rest := [.ref q_104, .int 4, .ref q_4]) ⟨hx, hb, hml, hown, ht⟩ (c_Lock l G cy _ q_104 ) ⟨va_cnB (host := "TuneLocks") 0 ht (gc k_71) rfl rfl rfl (hN.1 _ ns_67) (ht _ k_70) (by decide +kernel) ⟨Nat.le_of_ble_eq_true rfl, Nat.le_of_ble_eq_true rfl⟩, rfl, ht _ k_72⟩ ⟨En.blind, fun U hU hW => ⟨rfl, En.of hU hW hPc hK (fr_lastD (ws := [])) hN⟩⟩ rfl rfl hl.1 rfl (lv_room (Nat.le_of_ble_eq_true rfl)) dX9_init_117 ⟨Nat.le_of_ble_eq_true rfl, Nat.le_of_ble_eq_true rfl⟩) hS (fun q _ h => hFc q h) hFc (fun u_105 t H locs ht9 hvm hw hB hz1 hk1 hS => ?_)
  obtain ⟨hP1, hD1⟩ := hB
  rw [ht9] at hP1
  obtain ⟨hP, hD⟩ := fr_last hP hD hFc hk1 hP1 hD1
  clear hFc hPc hP1 hD1 hz1 hk1
  have hP : va_P G vwCl [(h, .inr (9, [.ref q_1, .ref q_2, .ref q_3, .int 0, .ref q_4, .int 0, .ref q_5, .int 0, .ref q_7])), (q_1, .inl (cy 4, 14, .inr (.inr (.inr (.inr f_88))))), (q_2, .inl (cy 3, 14, .inr (.inl (fun _ => 0)))), (q_3, .inl (cy 5, 14, .inr (.inr (.inr (.inr f_91))))), (q_4, .inl (cy 6, 8, .inr (.inr (.inr (.inr f_103))))), (q_5, .inr (5, [.ref (u_6 0), .ref (u_6 1), .int 0, .ref (u_6 2), .int 0])), (q_7, .inl (cy 2, 12, .inl (fun _ => 0))), (q_104, .inr (4, [.long 0, .int 0, .int 0, .int 0, .int 0, .int 0]))] H := hP
  have hD : va_D A [(h, .inr (9, [.ref q_1, .ref q_2, .ref q_3, .int 0, .ref q_4, .int 0, .ref q_5, .int 0, .ref q_7])), (q_1, .inl (cy 4, 14, .inr (.inr (.inr (.inr f_88))))), (q_2, .inl (cy 3, 14, .inr (.inl (fun _ => 0)))), (q_3, .inl (cy 5, 14, .inr (.inr (.inr (.inr f_91))))), (q_4, .inl (cy 6, 8, .inr (.inr (.inr (.inr f_103))))), (q_5, .inr (5, [.ref (u_6 0), .ref (u_6 1), .int 0, .ref (u_6 2), .int 0])), (q_7, .inl (cy 2, 12, .inl (fun _ => 0))), (q_104, .inr (4, [.long 0, .int 0, .int 0, .int 0, .int 0, .int 0]))] := hD
  refine ow_astq hx hb hK hP hD hS 4 6 7 4 rfl rfl rfl rfl (in_lit (by decide +kernel)) dX9_init_120 (fun f_106 H locs hP hD hS => ?_)
  have hP : va_P G vwCl [(h, .inr (9, [.ref q_1, .ref q_2, .ref q_3, .int 0, .ref q_4, .int 0, .ref q_5, .int 0, .ref q_7])), (q_1, .inl (cy 4, 14, .inr (.inr (.inr (.inr f_88))))), (q_2, .inl (cy 3, 14, .inr (.inl (fun _ => 0)))), (q_3, .inl (cy 5, 14, .inr (.inr (.inr (.inr f_91))))), (q_4, .inl (cy 6, 8, .inr (.inr (.inr (.inr f_106))))), (q_5, .inr (5, [.ref (u_6 0), .ref (u_6 1), .int 0, .ref (u_6 2), .int 0])), (q_7, .inl (cy 2, 12, .inl (fun _ => 0))), (q_104, .inr (4, [.long 0, .int 0, .int 0, .int 0, .int 0, .int 0]))] H := hP
  have hD : va_D A [(h, .inr (9, [.ref q_1, .ref q_2, .ref q_3, .int 0, .ref q_4, .int 0, .ref q_5, .int 0, .ref q_7])), (q_1, .inl (cy 4, 14, .inr (.inr (.inr (.inr f_88))))), (q_2, .inl (cy 3, 14, .inr (.inl (fun _ => 0)))), (q_3, .inl (cy 5, 14, .inr (.inr (.inr (.inr f_91))))), (q_4, .inl (cy 6, 8, .inr (.inr (.inr (.inr f_106))))), (q_5, .inr (5, [.ref (u_6 0), .ref (u_6 1), .int 0, .ref (u_6 2), .int 0])), (q_7, .inl (cy 2, 12, .inl (fun _ => 0))), (q_104, .inr (4, [.long 0, .int 0, .int 0, .int 0, .int 0, .int 0]))] := hD
  have hP : va_P G vwCl [(h, .inr (9, [.ref q_1, .ref q_2, .ref q_3, .int 0, .ref q_4, .int 0, .ref q_5, .int 0, .ref q_7])), (q_1, .inl (cy 4, 14, .inr (.inr (.inr (.inr f_88))))), (q_2, .inl (cy 3, 14, .inr (.inl (fun _ => 0)))), (q_3, .inl (cy 5, 14, .inr (.inr (.inr (.inr f_91))))), (q_4, .inl (cy 6, 8, .inr (.inr (.inr (.inr f_106))))), (q_5, .inr (5, [.ref (u_6 0), .ref (u_6 1), .int 0, .ref (u_6 2), .int 0])), (q_7, .inl (cy 2, 12, .inl (fun _ => 0)))] H := hP.sub [0, 1, 2, 3, 4, 5, 6] rfl
  have hD : va_D A [(h, .inr (9, [.ref q_1, .ref q_2, .ref q_3, .int 0, .ref q_4, .int 0, .ref q_5, .int 0, .ref q_7])), (q_1, .inl (cy 4, 14, .inr (.inr (.inr (.inr f_88))))), (q_2, .inl (cy 3, 14, .inr (.inl (fun _ => 0)))), (q_3, .inl (cy 5, 14, .inr (.inr (.inr (.inr f_91))))), (q_4, .inl (cy 6, 8, .inr (.inr (.inr (.inr f_106))))), (q_5, .inr (5, [.ref (u_6 0), .ref (u_6 1), .int 0, .ref (u_6 2), .int 0])), (q_7, .inl (cy 2, 12, .inl (fun _ => 0)))] := hD.sub [0, 1, 2, 3, 4, 5, 6] (by decide) rfl
  refine lv_iinc (v := 5) (lv' := [(1, .int 5), (0, .ref h)]) hx hb dX9_init_121 hl (k := 0) rfl (by decide) (by decide) rfl (fun ls hl => ?_)
  refine lv_goto (tgt := 102) hx hb dX9_init_124 (by decide) ?_
  refine lv_iload_n hx hb dX9_init_102 rfl (lv_at hl 0 rfl) ?_
  refine lv_bipush (v := 8) hx hb dX9_init_103 (by decide) ?_
  refine lv_icmp_ge (tgt := 127) hx hb dX9_init_105 (by decide) (fun c9 => absurd c9 (by decide)) (fun _ => ?_)
  refine lv_aload_n hx hb dX9_init_108 rfl (lv_at hl 1 rfl) ?_
  refine va_get (ci := 9) (v := .ref q_4) (C := RX9) (T := TX9) (N := 9) hx hb ht iX9 hown hK hP 0 rfl rfl 4 (by decide) (ht _ k_56) (fun _ h9 => h9) rfl dX9_init_109 ?_
  refine lv_iload_n hx hb dX9_init_112 rfl (lv_at hl 0 rfl) ?_
  refine va_new (ci := 4) (fs := [.long 0, .int 0, .int 0, .int 0, .int 0, .int 0]) (C := RX4) (T := TX4) (N := 6) hx hb ht iX4 tyX4 tyX4_ok hown (ht _ k_55) (ht _ k_69) (ht _ k_70) hK hP hD hS hA rfl df4 (Nat.le_of_ble_eq_true rfl) (Nat.le_of_ble_eq_true rfl) dX9_init_113 (fun q_107 H hP hD hS => ?_)
  refine lv_dup hx hb dX9_init_116 rfl ?_
  have hFc := fr_lastF hD hS hA
  have hPc := fr_lastP hP
  refine va_callv (va_runIN (As := []) (rest := [.ref q_107, .int 5, .ref q_4]) ⟨hx, hb, hml, hown, ht⟩ (c_Lock l G cy _ q_107 ) ⟨va_cnB (host := "TuneLocks") 0 ht (gc k_71) rfl rfl rfl (hN.1 _ ns_67) (ht _ k_70) (by decide +kernel) ⟨Nat.le_of_ble_eq_true rfl, Nat.le_of_ble_eq_true rfl⟩, rfl, ht _ k_72⟩ ⟨En.blind, fun U hU hW => ⟨rfl, En.of hU hW hPc hK (fr_lastD (ws := [])) hN⟩⟩ rfl rfl hl.1 rfl (lv_room (Nat.le_of_ble_eq_true rfl)) dX9_init_117 ⟨Nat.le_of_ble_eq_true rfl, Nat.le_of_ble_eq_true rfl⟩) hS (fun q _ h => hFc q h) hFc (fun u_108 t H locs ht9 hvm hw hB hz1 hk1 hS => ?_)
  obtain ⟨hP1, hD1⟩ := hB
  rw [ht9] at hP1
  obtain ⟨hP, hD⟩ := fr_last hP hD hFc hk1 hP1 hD1
  clear hFc hPc hP1 hD1 hz1 hk1
  have hP : va_P G vwCl [(h, .inr (9, [.ref q_1, .ref q_2, .ref q_3, .int 0, .ref q_4, .int 0, .ref q_5, .int 0, .ref q_7])), (q_1, .inl (cy 4, 14, .inr (.inr (.inr (.inr f_88))))), (q_2, .inl (cy 3, 14, .inr (.inl (fun _ => 0)))), (q_3, .inl (cy 5, 14, .inr (.inr (.inr (.inr f_91))))), (q_4, .inl (cy 6, 8, .inr (.inr (.inr (.inr f_106))))), (q_5, .inr (5, [.ref (u_6 0), .ref (u_6 1), .int 0, .ref (u_6 2), .int 0])), (q_7, .inl (cy 2, 12, .inl (fun _ => 0))), (q_107, .inr (4, [.long 0, .int 0, .int 0, .int 0, .int 0, .int 0]))] H := hP
  have hD : va_D A [(h, .inr (9, [.ref q_1, .ref q_2, .ref q_3, .int 0, .ref q_4, .int 0, .ref q_5, .int 0, .ref q_7])), (q_1, .inl (cy 4, 14, .inr (.inr (.inr (.inr f_88))))), (q_2, .inl (cy 3, 14, .inr (.inl (fun _ => 0)))), (q_3, .inl (cy 5, 14, .inr (.inr (.inr (.inr f_91))))), (q_4, .inl (cy 6, 8, .inr (.inr (.inr (.inr f_106))))), (q_5, .inr (5, [.ref (u_6 0), .ref (u_6 1), .int 0, .ref (u_6 2), .int 0])), (q_7, .inl (cy 2, 12, .inl (fun _ => 0))), (q_107, .inr (4, [.long 0, .int 0, .int 0, .int 0, .int 0, .int 0]))] := hD
  refine ow_astq hx hb hK hP hD hS 4 6 7 4 rfl rfl rfl rfl (in_lit (by decide +kernel)) dX9_init_120 (fun f_109 H locs hP hD hS => ?_)
  have hP : va_P G vwCl [(h, .inr (9, [.ref q_1, .ref q_2, .ref q_3, .int 0, .ref q_4, .int 0, .ref q_5, .int 0, .ref q_7])), (q_1, .inl (cy 4, 14, .inr (.inr (.inr (.inr f_88))))), (q_2, .inl (cy 3, 14, .inr (.inl (fun _ => 0)))), (q_3, .inl (cy 5, 14, .inr (.inr (.inr (.inr f_91))))), (q_4, .inl (cy 6, 8, .inr (.inr (.inr (.inr f_109))))), (q_5, .inr (5, [.ref (u_6 0), .ref (u_6 1), .int 0, .ref (u_6 2), .int 0])), (q_7, .inl (cy 2, 12, .inl (fun _ => 0))), (q_107, .inr (4, [.long 0, .int 0, .int 0, .int 0, .int 0, .int 0]))] H := hP
  have hD : va_D A [(h, .inr (9, [.ref q_1, .ref q_2, .ref q_3, .int 0, .ref q_4, .int 0, .ref q_5, .int 0, .ref q_7])), (q_1, .inl (cy 4, 14, .inr (.inr (.inr (.inr f_88))))), (q_2, .inl (cy 3, 14, .inr (.inl (fun _ => 0)))), (q_3, .inl (cy 5, 14, .inr (.inr (.inr (.inr f_91))))), (q_4, .inl (cy 6, 8, .inr (.inr (.inr (.inr f_109))))), (q_5, .inr (5, [.ref (u_6 0), .ref (u_6 1), .int 0, .ref (u_6 2), .int 0])), (q_7, .inl (cy 2, 12, .inl (fun _ => 0))), (q_107, .inr (4, [.long 0, .int 0, .int 0, .int 0, .int 0, .int 0]))] := hD
  have hP : va_P G vwCl [(h, .inr (9, [.ref q_1, .ref q_2, .ref q_3, .int 0, .ref q_4, .int 0, .ref q_5, .int 0, .ref q_7])), (q_1, .inl (cy 4, 14, .inr (.inr (.inr (.inr f_88))))), (q_2, .inl (cy 3, 14, .inr (.inl (fun _ => 0)))), (q_3, .inl (cy 5, 14, .inr (.inr (.inr (.inr f_91))))), (q_4, .inl (cy 6, 8, .inr (.inr (.inr (.inr f_109))))), (q_5, .inr (5, [.ref (u_6 0), .ref (u_6 1), .int 0, .ref (u_6 2), .int 0])), (q_7, .inl (cy 2, 12, .inl (fun _ => 0)))] H := hP.sub [0, 1, 2, 3, 4, 5, 6] rfl
  have hD : va_D A [(h, .inr (9, [.ref q_1, .ref q_2, .ref q_3, .int 0, .ref q_4, .int 0, .ref q_5, .int 0, .ref q_7])), (q_1, .inl (cy 4, 14, .inr (.inr (.inr (.inr f_88))))), (q_2, .inl (cy 3, 14, .inr (.inl (fun _ => 0)))), (q_3, .inl (cy 5, 14, .inr (.inr (.inr (.inr f_91))))), (q_4, .inl (cy 6, 8, .inr (.inr (.inr (.inr f_109))))), (q_5, .inr (5, [.ref (u_6 0), .ref (u_6 1), .int 0, .ref (u_6 2), .int 0])), (q_7, .inl (cy 2, 12, .inl (fun _ => 0)))] := hD.sub [0, 1, 2, 3, 4, 5, 6] (by decide) rfl
  refine lv_iinc (v := 6) (lv' := [(1, .int 6), (0, .ref h)]) hx hb dX9_init_121 hl (k := 0) rfl (by decide) (by decide) rfl (fun ls hl => ?_)
  refine lv_goto (tgt := 102) hx hb dX9_init_124 (by decide) ?_
  refine lv_iload_n hx hb dX9_init_102 rfl (lv_at hl 0 rfl) ?_
  refine lv_bipush (v := 8) hx hb dX9_init_103 (by decide) ?_
  refine lv_icmp_ge (tgt := 127) hx hb dX9_init_105 (by decide) (fun c9 => absurd c9 (by decide)) (fun _ => ?_)
  refine lv_aload_n hx hb dX9_init_108 rfl (lv_at hl 1 rfl) ?_
  refine va_get (ci := 9) (v := .ref q_4) (C := RX9) (T := TX9) (N := 9) hx hb ht iX9 hown hK hP 0 rfl rfl 4 (by decide) (ht _ k_56) (fun _ h9 => h9) rfl dX9_init_109 ?_
  refine lv_iload_n hx hb dX9_init_112 rfl (lv_at hl 0 rfl) ?_
  refine va_new (ci := 4) (fs := [.long 0, .int 0, .int 0, .int 0, .int 0, .int 0]) (C := RX4) (T := TX4) (N := 6) hx hb ht iX4 tyX4 tyX4_ok hown (ht _ k_55) (ht _ k_69) (ht _ k_70) hK hP hD hS hA rfl df4 (Nat.le_of_ble_eq_true rfl) (Nat.le_of_ble_eq_true rfl) dX9_init_113 (fun q_110 H hP hD hS => ?_)
  refine lv_dup hx hb dX9_init_116 rfl ?_
  have hFc := fr_lastF hD hS hA
  have hPc := fr_lastP hP
  refine va_callv (va_runIN (As := []) (rest := [.ref q_110, .int 6, .ref q_4]) ⟨hx, hb, hml, hown, ht⟩ (c_Lock l G cy _ q_110 ) ⟨va_cnB (host := "TuneLocks") 0 ht (gc k_71) rfl rfl rfl (hN.1 _ ns_67) (ht _ k_70) (by decide +kernel) ⟨Nat.le_of_ble_eq_true rfl, Nat.le_of_ble_eq_true rfl⟩, rfl, ht _ k_72⟩ ⟨En.blind, fun U hU hW => ⟨rfl, En.of hU hW hPc hK (fr_lastD (ws := [])) hN⟩⟩ rfl rfl hl.1 rfl (lv_room (Nat.le_of_ble_eq_true rfl)) dX9_init_117 ⟨Nat.le_of_ble_eq_true rfl, Nat.le_of_ble_eq_true rfl⟩) hS (fun q _ h => hFc q h) hFc (fun u_111 t H locs ht9 hvm hw hB hz1 hk1 hS => ?_)
  obtain ⟨hP1, hD1⟩ := hB
  rw [ht9] at hP1
  obtain ⟨hP, hD⟩ := fr_last hP hD hFc hk1 hP1 hD1
  clear hFc hPc hP1 hD1 hz1 hk1
  have hP : va_P G vwCl [(h, .inr (9, [.ref q_1, .ref q_2, .ref q_3, .int 0, .ref q_4, .int 0, .ref q_5, .int 0, .ref q_7])), (q_1, .inl (cy 4, 14, .inr (.inr (.inr (.inr f_88))))), (q_2, .inl (cy 3, 14, .inr (.inl (fun _ => 0)))), (q_3, .inl (cy 5, 14, .inr (.inr (.inr (.inr f_91))))), (q_4, .inl (cy 6, 8, .inr (.inr (.inr (.inr f_109))))), (q_5, .inr (5, [.ref (u_6 0), .ref (u_6 1), .int 0, .ref (u_6 2), .int 0])), (q_7, .inl (cy 2, 12, .inl (fun _ => 0))), (q_110, .inr (4, [.long 0, .int 0, .int 0, .int 0, .int 0, .int 0]))] H := hP
  have hD : va_D A [(h, .inr (9, [.ref q_1, .ref q_2, .ref q_3, .int 0, .ref q_4, .int 0, .ref q_5, .int 0, .ref q_7])), (q_1, .inl (cy 4, 14, .inr (.inr (.inr (.inr f_88))))), (q_2, .inl (cy 3, 14, .inr (.inl (fun _ => 0)))), (q_3, .inl (cy 5, 14, .inr (.inr (.inr (.inr f_91))))), (q_4, .inl (cy 6, 8, .inr (.inr (.inr (.inr f_109))))), (q_5, .inr (5, [.ref (u_6 0), .ref (u_6 1), .int 0, .ref (u_6 2), .int 0])), (q_7, .inl (cy 2, 12, .inl (fun _ => 0))), (q_110, .inr (4, [.long 0, .int 0, .int 0, .int 0, .int 0, .int 0]))] := hD
  refine ow_astq hx hb hK hP hD hS 4 6 7 4 rfl rfl rfl rfl (in_lit (by decide +kernel)) dX9_init_120 (fun f_112 H locs hP hD hS => ?_)
  have hP : va_P G vwCl [(h, .inr (9, [.ref q_1, .ref q_2, .ref q_3, .int 0, .ref q_4, .int 0, .ref q_5, .int 0, .ref q_7])), (q_1, .inl (cy 4, 14, .inr (.inr (.inr (.inr f_88))))), (q_2, .inl (cy 3, 14, .inr (.inl (fun _ => 0)))), (q_3, .inl (cy 5, 14, .inr (.inr (.inr (.inr f_91))))), (q_4, .inl (cy 6, 8, .inr (.inr (.inr (.inr f_112))))), (q_5, .inr (5, [.ref (u_6 0), .ref (u_6 1), .int 0, .ref (u_6 2), .int 0])), (q_7, .inl (cy 2, 12, .inl (fun _ => 0))), (q_110, .inr (4, [.long 0, .int 0, .int 0, .int 0, .int 0, .int 0]))] H := hP
  have hD : va_D A [(h, .inr (9, [.ref q_1, .ref q_2, .ref q_3, .int 0, .ref q_4, .int 0, .ref q_5, .int 0, .ref q_7])), (q_1, .inl (cy 4, 14, .inr (.inr (.inr (.inr f_88))))), (q_2, .inl (cy 3, 14, .inr (.inl (fun _ => 0)))), (q_3, .inl (cy 5, 14, .inr (.inr (.inr (.inr f_91))))), (q_4, .inl (cy 6, 8, .inr (.inr (.inr (.inr f_112))))), (q_5, .inr (5, [.ref (u_6 0), .ref (u_6 1), .int 0, .ref (u_6 2), .int 0])), (q_7, .inl (cy 2, 12, .inl (fun _ => 0))), (q_110, .inr (4, [.long 0, .int 0, .int 0, .int 0, .int 0, .int 0]))] := hD
  have hP : va_P G vwCl [(h, .inr (9, [.ref q_1, .ref q_2, .ref q_3, .int 0, .ref q_4, .int 0, .ref q_5, .int 0, .ref q_7])), (q_1, .inl (cy 4, 14, .inr (.inr (.inr (.inr f_88))))), (q_2, .inl (cy 3, 14, .inr (.inl (fun _ => 0)))), (q_3, .inl (cy 5, 14, .inr (.inr (.inr (.inr f_91))))), (q_4, .inl (cy 6, 8, .inr (.inr (.inr (.inr f_112))))), (q_5, .inr (5, [.ref (u_6 0), .ref (u_6 1), .int 0, .ref (u_6 2), .int 0])), (q_7, .inl (cy 2, 12, .inl (fun _ => 0)))] H := hP.sub [0, 1, 2, 3, 4, 5, 6] rfl
  have hD : va_D A [(h, .inr (9, [.ref q_1, .ref q_2, .ref q_3, .int 0, .ref q_4, .int 0, .ref q_5, .int 0, .ref q_7])), (q_1, .inl (cy 4, 14, .inr (.inr (.inr (.inr f_88))))), (q_2, .inl (cy 3, 14, .inr (.inl (fun _ => 0)))), (q_3, .inl (cy 5, 14, .inr (.inr (.inr (.inr f_91))))), (q_4, .inl (cy 6, 8, .inr (.inr (.inr (.inr f_112))))), (q_5, .inr (5, [.ref (u_6 0), .ref (u_6 1), .int 0, .ref (u_6 2), .int 0])), (q_7, .inl (cy 2, 12, .inl (fun _ => 0)))] := hD.sub [0, 1, 2, 3, 4, 5, 6] (by decide) rfl
  refine lv_iinc (v := 7) (lv' := [(1, .int 7), (0, .ref h)]) hx hb dX9_init_121 hl (k := 0) rfl (by decide) (by decide) rfl (fun ls hl => ?_)
  refine lv_goto (tgt := 102) hx hb dX9_init_124 (by decide) ?_
  refine lv_iload_n hx hb dX9_init_102 rfl (lv_at hl 0 rfl) ?_
  refine lv_bipush (v := 8) hx hb dX9_init_103 (by decide) ?_
  refine lv_icmp_ge (tgt := 127) hx hb dX9_init_105 (by decide) (fun c9 => absurd c9 (by decide)) (fun _ => ?_)
  refine lv_aload_n hx hb dX9_init_108 rfl (lv_at hl 1 rfl) ?_
  refine va_get (ci := 9) (v := .ref q_4) (C := RX9) (T := TX9) (N := 9) hx hb ht iX9 hown hK hP 0 rfl rfl 4 (by decide) (ht _ k_56) (fun _ h9 => h9) rfl dX9_init_109 ?_
  refine lv_iload_n hx hb dX9_init_112 rfl (lv_at hl 0 rfl) ?_
  refine va_new (ci := 4) (fs := [.long 0, .int 0, .int 0, .int 0, .int 0, .int 0]) (C := RX4) (T := TX4) (N := 6) hx hb ht iX4 tyX4 tyX4_ok hown (ht _ k_55) (ht _ k_69) (ht _ k_70) hK hP hD hS hA rfl df4 (Nat.le_of_ble_eq_true rfl) (Nat.le_of_ble_eq_true rfl) dX9_init_113 (fun q_113 H hP hD hS => ?_)
  refine lv_dup hx hb dX9_init_116 rfl ?_
  have hFc := fr_lastF hD hS hA
  have hPc := fr_lastP hP
  refine va_callv (va_runIN (As := []) (rest := [.ref q_113, .int 7, .ref q_4]) ⟨hx, hb, hml, hown, ht⟩ (c_Lock l G cy _ q_113 ) ⟨va_cnB (host := "TuneLocks") 0 ht (gc k_71) rfl rfl rfl (hN.1 _ ns_67) (ht _ k_70) (by decide +kernel) ⟨Nat.le_of_ble_eq_true rfl, Nat.le_of_ble_eq_true rfl⟩, rfl, ht _ k_72⟩ ⟨En.blind, fun U hU hW => ⟨rfl, En.of hU hW hPc hK (fr_lastD (ws := [])) hN⟩⟩ rfl rfl hl.1 rfl (lv_room (Nat.le_of_ble_eq_true rfl)) dX9_init_117 ⟨Nat.le_of_ble_eq_true rfl, Nat.le_of_ble_eq_true rfl⟩) hS (fun q _ h => hFc q h) hFc (fun u_114 t H locs ht9 hvm hw hB hz1 hk1 hS => ?_)
  obtain ⟨hP1, hD1⟩ := hB
  rw [ht9] at hP1
  obtain ⟨hP, hD⟩ := fr_last hP hD hFc hk1 hP1 hD1
  clear hFc hPc hP1 hD1 hz1 hk1
  have hP : va_P G vwCl [(h, .inr (9, [.ref q_1, .ref q_2, .ref q_3, .int 0, .ref q_4, .int 0, .ref q_5, .int 0, .ref q_7])), (q_1, .inl (cy 4, 14, .inr (.inr (.inr (.inr f_88))))), (q_2, .inl (cy 3, 14, .inr (.inl (fun _ => 0)))), (q_3, .inl (cy 5, 14, .inr (.inr (.inr (.inr f_91))))), (q_4, .inl (cy 6, 8, .inr (.inr (.inr (.inr f_112))))), (q_5, .inr (5, [.ref (u_6 0), .ref (u_6 1), .int 0, .ref (u_6 2), .int 0])), (q_7, .inl (cy 2, 12, .inl (fun _ => 0))), (q_113, .inr (4, [.long 0, .int 0, .int 0, .int 0, .int 0, .int 0]))] H := hP
  have hD : va_D A [(h, .inr (9, [.ref q_1, .ref q_2, .ref q_3, .int 0, .ref q_4, .int 0, .ref q_5, .int 0, .ref q_7])), (q_1, .inl (cy 4, 14, .inr (.inr (.inr (.inr f_88))))), (q_2, .inl (cy 3, 14, .inr (.inl (fun _ => 0)))), (q_3, .inl (cy 5, 14, .inr (.inr (.inr (.inr f_91))))), (q_4, .inl (cy 6, 8, .inr (.inr (.inr (.inr f_112))))), (q_5, .inr (5, [.ref (u_6 0), .ref (u_6 1), .int 0, .ref (u_6 2), .int 0])), (q_7, .inl (cy 2, 12, .inl (fun _ => 0))), (q_113, .inr (4, [.long 0, .int 0, .int 0, .int 0, .int 0, .int 0]))] := hD
  refine ow_astq hx hb hK hP hD hS 4 6 7 4 rfl rfl rfl rfl (in_lit (by decide +kernel)) dX9_init_120 (fun f_115 H locs hP hD hS => ?_)
  have hP : va_P G vwCl [(h, .inr (9, [.ref q_1, .ref q_2, .ref q_3, .int 0, .ref q_4, .int 0, .ref q_5, .int 0, .ref q_7])), (q_1, .inl (cy 4, 14, .inr (.inr (.inr (.inr f_88))))), (q_2, .inl (cy 3, 14, .inr (.inl (fun _ => 0)))), (q_3, .inl (cy 5, 14, .inr (.inr (.inr (.inr f_91))))), (q_4, .inl (cy 6, 8, .inr (.inr (.inr (.inr f_115))))), (q_5, .inr (5, [.ref (u_6 0), .ref (u_6 1), .int 0, .ref (u_6 2), .int 0])), (q_7, .inl (cy 2, 12, .inl (fun _ => 0))), (q_113, .inr (4, [.long 0, .int 0, .int 0, .int 0, .int 0, .int 0]))] H := hP
  have hD : va_D A [(h, .inr (9, [.ref q_1, .ref q_2, .ref q_3, .int 0, .ref q_4, .int 0, .ref q_5, .int 0, .ref q_7])), (q_1, .inl (cy 4, 14, .inr (.inr (.inr (.inr f_88))))), (q_2, .inl (cy 3, 14, .inr (.inl (fun _ => 0)))), (q_3, .inl (cy 5, 14, .inr (.inr (.inr (.inr f_91))))), (q_4, .inl (cy 6, 8, .inr (.inr (.inr (.inr f_115))))), (q_5, .inr (5, [.ref (u_6 0), .ref (u_6 1), .int 0, .ref (u_6 2), .int 0])), (q_7, .inl (cy 2, 12, .inl (fun _ => 0))), (q_113, .inr (4, [.long 0, .int 0, .int 0, .int 0, .int 0, .int 0]))] := hD
  have hP : va_P G vwCl [(h, .inr (9, [.ref q_1, .ref q_2, .ref q_3, .int 0, .ref q_4, .int 0, .ref q_5, .int 0, .ref q_7])), (q_1, .inl (cy 4, 14, .inr (.inr (.inr (.inr f_88))))), (q_2, .inl (cy 3, 14, .inr (.inl (fun _ => 0)))), (q_3, .inl (cy 5, 14, .inr (.inr (.inr (.inr f_91))))), (q_4, .inl (cy 6, 8, .inr (.inr (.inr (.inr f_115))))), (q_5, .inr (5, [.ref (u_6 0), .ref (u_6 1), .int 0, .ref (u_6 2), .int 0])), (q_7, .inl (cy 2, 12, .inl (fun _ => 0)))] H := hP.sub [0, 1, 2, 3, 4, 5, 6] rfl
  have hD : va_D A [(h, .inr (9, [.ref q_1, .ref q_2, .ref q_3, .int 0, .ref q_4, .int 0, .ref q_5, .int 0, .ref q_7])), (q_1, .inl (cy 4, 14, .inr (.inr (.inr (.inr f_88))))), (q_2, .inl (cy 3, 14, .inr (.inl (fun _ => 0)))), (q_3, .inl (cy 5, 14, .inr (.inr (.inr (.inr f_91))))), (q_4, .inl (cy 6, 8, .inr (.inr (.inr (.inr f_115))))), (q_5, .inr (5, [.ref (u_6 0), .ref (u_6 1), .int 0, .ref (u_6 2), .int 0])), (q_7, .inl (cy 2, 12, .inl (fun _ => 0)))] := hD.sub [0, 1, 2, 3, 4, 5, 6] (by decide) rfl
  refine lv_iinc (v := 8) (lv' := [(1, .int 8), (0, .ref h)]) hx hb dX9_init_121 hl (k := 0) rfl (by decide) (by decide) rfl (fun ls hl => ?_)
  refine lv_goto (tgt := 102) hx hb dX9_init_124 (by decide) ?_
  refine lv_iload_n hx hb dX9_init_102 rfl (lv_at hl 0 rfl) ?_
  refine lv_bipush (v := 8) hx hb dX9_init_103 (by decide) ?_
  refine lv_icmp_ge (tgt := 127) hx hb dX9_init_105 (by decide) (fun _ => ?_) (fun c9 => absurd (by decide) c9)
  refine W.widen (k := 129) (n := 2488) (Nat.le_of_ble_eq_true rfl) (Nat.le_of_ble_eq_true rfl) ?_
  have hP9 : va_P G vwCl [(h, .inr (9, [.ref ((lst [q_1, q_2, q_3, q_4, q_5, q_7, (u_6 0), (u_6 1), (u_6 2)]) 0), .ref ((lst [q_1, q_2, q_3, q_4, q_5, q_7, (u_6 0), (u_6 1), (u_6 2)]) 1), .ref ((lst [q_1, q_2, q_3, q_4, q_5, q_7, (u_6 0), (u_6 1), (u_6 2)]) 2), .int 0, .ref ((lst [q_1, q_2, q_3, q_4, q_5, q_7, (u_6 0), (u_6 1), (u_6 2)]) 3), .int 0, .ref ((lst [q_1, q_2, q_3, q_4, q_5, q_7, (u_6 0), (u_6 1), (u_6 2)]) 4), .int 0, .ref ((lst [q_1, q_2, q_3, q_4, q_5, q_7, (u_6 0), (u_6 1), (u_6 2)]) 5)])), (((lst [q_1, q_2, q_3, q_4, q_5, q_7, (u_6 0), (u_6 1), (u_6 2)]) 4), .inr (5, [.ref ((lst [q_1, q_2, q_3, q_4, q_5, q_7, (u_6 0), (u_6 1), (u_6 2)]) 6), .ref ((lst [q_1, q_2, q_3, q_4, q_5, q_7, (u_6 0), (u_6 1), (u_6 2)]) 7), .int 0, .ref ((lst [q_1, q_2, q_3, q_4, q_5, q_7, (u_6 0), (u_6 1), (u_6 2)]) 8), .int 0])), (((lst [q_1, q_2, q_3, q_4, q_5, q_7, (u_6 0), (u_6 1), (u_6 2)]) 5), .inl (cy 2, 12, .inl (fun _ => 0)))] _ := hP.sub [0, 5, 6] rfl
  have hD9 : va_D A [(h, .inr (9, [.ref ((lst [q_1, q_2, q_3, q_4, q_5, q_7, (u_6 0), (u_6 1), (u_6 2)]) 0), .ref ((lst [q_1, q_2, q_3, q_4, q_5, q_7, (u_6 0), (u_6 1), (u_6 2)]) 1), .ref ((lst [q_1, q_2, q_3, q_4, q_5, q_7, (u_6 0), (u_6 1), (u_6 2)]) 2), .int 0, .ref ((lst [q_1, q_2, q_3, q_4, q_5, q_7, (u_6 0), (u_6 1), (u_6 2)]) 3), .int 0, .ref ((lst [q_1, q_2, q_3, q_4, q_5, q_7, (u_6 0), (u_6 1), (u_6 2)]) 4), .int 0, .ref ((lst [q_1, q_2, q_3, q_4, q_5, q_7, (u_6 0), (u_6 1), (u_6 2)]) 5)])), (((lst [q_1, q_2, q_3, q_4, q_5, q_7, (u_6 0), (u_6 1), (u_6 2)]) 4), .inr (5, [.ref ((lst [q_1, q_2, q_3, q_4, q_5, q_7, (u_6 0), (u_6 1), (u_6 2)]) 6), .ref ((lst [q_1, q_2, q_3, q_4, q_5, q_7, (u_6 0), (u_6 1), (u_6 2)]) 7), .int 0, .ref ((lst [q_1, q_2, q_3, q_4, q_5, q_7, (u_6 0), (u_6 1), (u_6 2)]) 8), .int 0])), (((lst [q_1, q_2, q_3, q_4, q_5, q_7, (u_6 0), (u_6 1), (u_6 2)]) 5), .inl (cy 2, 12, .inl (fun _ => 0)))] := hD.sub [0, 5, 6] (by decide) rfl
  exact W.vret hx hb hr (fun t ht9 hW => ⟨⟨(lst [q_1, q_2, q_3, q_4, q_5, q_7, (u_6 0), (u_6 1), (u_6 2)]), rfl, trivial, ⟨by rw [ht9]; exact hP9, hD9⟩⟩, hS.F ht9⟩) hS.2.2 dX9_init_127
set_option maxHeartbeats 4000000 in
set_option maxRecDepth 100000 in
theorem c_TL (l : Launch) (G : va_G) (cy : Nat → ClassId) (sz : Nat) (h : Nat)  : Met l yX11_init (.code yX11_init cX11_init 2 none :: TBg) ({ frames := 3, cells := 309, slots := 7498, locals := 192 }) (va_Pc [.ref h] (En G cy [(h, .inr (11, [.null, .int 0, .null, .null, .int 0, .int 0, .null, .null, .null, .null, .int 0, .null, .null, .null]))] sz)) (va_Qv (fun u : Nat → Nat => True) (fun u t => Ex G (va_A [(h, .inr (11, [.null, .int 0, .null, .null, .int 0, .int 0, .null, .null, .null, .null, .int 0, .null, .null, .null]))] sz) [(h, .inr (11, [.ref (u 0), .int 0, .ref (u 1), .ref (u 2), .int 0, .int (-1), .ref (u 3), .ref (u 4), .ref (u 5), .ref (u 6), .int 0, .ref (u 7), .ref (u 8), .ref (u 9)])), ((u 0), .inl (cy 1, 1700, .inl (fun _ => 0))), ((u 1), .inr (9, [.ref (u 10), .ref (u 11), .ref (u 12), .int 0, .ref (u 13), .int 0, .ref (u 14), .int 0, .ref (u 15)])), ((u 14), .inr (5, [.ref (u 16), .ref (u 17), .int 0, .ref (u 18), .int 0])), ((u 15), .inl (cy 2, 12, .inl (fun _ => 0))), ((u 2), .inr (9, [.ref (u 20), .ref (u 21), .ref (u 22), .int 0, .ref (u 23), .int 0, .ref (u 24), .int 0, .ref (u 25)])), ((u 24), .inr (5, [.ref (u 26), .ref (u 27), .int 0, .ref (u 28), .int 0])), ((u 25), .inl (cy 2, 12, .inl (fun _ => 0))), ((u 3), .inr (7, [.ref (u 30), .int 0, .int 0, .ref (u 31), .int 0])), ((u 30), .inr (8, [.ref (u 32), .ref (u 33), .int 0])), ((u 32), .inl (cy 0, 40, .inl (fun _ => 0))), ((u 33), .inl (cy 0, 40, .inl (fun _ => 0))), ((u 31), .inl (cy 0, 8, .inl (fun _ => 0))), ((u 4), .inl (cy 7, 3, .inr (.inr (.inr (.inr (va_up (va_up (va_up (fun _ => none) 0 (some (u 52))) 1 (some (u 53))) 2 (some (u 54)))))))), ((u 5), .inr (2, [.ref (u 34), .ref (u 35), .ref (u 36), .ref (u 37), .int 0])), ((u 6), .inr (10, [.ref (u 40), .ref (u 41), .ref (u 42), .ref (u 43), .ref (u 44), .int 0])), ((u 7), .inr (1, [.ref (u 45), .int 0, .int 0])), ((u 8), .inr (3, [.ref (u 46), .ref (u 47), .int 0, .ref (u 48), .ref (u 49), .ref (u 50), .int 0])), ((u 49), .inl (cy 0, 6, .inl (fun _ => 0))), ((u 50), .inl (cy 0, 6, .inl (fun _ => 0))), ((u 9), .inr (0, [.ref (u 51), .int 0])), ((u 52), .inr (7, [.ref (u 55), .int 0, .int 0, .ref (u 56), .int 0])), ((u 55), .inr (8, [.ref (u 57), .ref (u 58), .int 0])), ((u 57), .inl (cy 0, 40, .inl (fun _ => 0))), ((u 58), .inl (cy 0, 40, .inl (fun _ => 0))), ((u 56), .inl (cy 0, 8, .inl (fun _ => 0))), ((u 53), .inr (7, [.ref (u 59), .int 0, .int 0, .ref (u 60), .int 0])), ((u 59), .inr (8, [.ref (u 61), .ref (u 62), .int 0])), ((u 61), .inl (cy 0, 40, .inl (fun _ => 0))), ((u 62), .inl (cy 0, 40, .inl (fun _ => 0))), ((u 60), .inl (cy 0, 8, .inl (fun _ => 0))), ((u 54), .inr (7, [.ref (u 63), .int 0, .int 0, .ref (u 64), .int 0])), ((u 63), .inr (8, [.ref (u 65), .ref (u 66), .int 0])), ((u 65), .inl (cy 0, 40, .inl (fun _ => 0))), ((u 66), .inl (cy 0, 40, .inl (fun _ => 0))), ((u 64), .inl (cy 0, 8, .inl (fun _ => 0)))] t) (va_A [(h, .inr (11, [.null, .int 0, .null, .null, .int 0, .int 0, .null, .null, .null, .null, .int 0, .null, .null, .null]))] sz)) 309 7498 (va_A [(h, .inr (11, [.null, .int 0, .null, .null, .int 0, .int 0, .null, .null, .null, .null, .int 0, .null, .null, .null]))] sz) := by
  refine Met.ofW (cc := cX11_init) (maxL := 2) (ret := none) (by decide) rfl ?_
  intro p e s m args below meth c s₁ B hml hv
  obtain ⟨rfl, hsz, hP, hK, hD0, hN⟩ := hv
  have hx := B.exec
  have hb := B.bytes
  have hr := B.returns
  have hts := atoms_spec (ws := .code yX11_init cX11_init 2 none :: TBg) B.pre
  have ht : ∀ w ∈ TBg, w.before _ s = true := fun w h => hts w (List.mem_cons_of_mem _ h)
  have hown : s.vm.findClass RX11 = some m.cls := findClass_of_methodNamed B.named
  have hlocks := B.notSynchronized
  have hin : meth.name = "<init>" := (name_of_methodNamed B.named B.method).1
  subst hsz
  have hD := hD0.self (sz := s.heap.size)
  generalize hAe : va_A [(h, .inr (11, [.null, .int 0, .null, .null, .int 0, .int 0, .null, .null, .null, .null, .int 0, .null, .null, .null]))] s.heap.size = A at hD ⊢
  have hA : ∀ q : Nat, s.heap.size ≤ q → A q := fun q h => by rw [← hAe]; exact Or.inr h
  have hS : va_S A s.heap s.heap [] := va_S.rf
  have hl := lv_entry ([.ref h]) (n := 2) (Nat.le_of_ble_eq_true rfl)
  rw [lg_entry_eq]
  generalize (lg_sl ([.ref h]) ++ List.replicate (2 - (lg_sl ([.ref h])).length) Slot.unset).toArray = ls at hl ⊢
  have hl : lv_has ls 2 [(0, .ref h)] := hl
  refine lv_aload_n hx hb dX11_init_0 rfl (lv_at hl 0 rfl) ?_
  refine W.objInit hx hb hown (ht _ k_73) (ht _ k_1) (ht _ k_2) rfl (by rw [hml]; exact hl.1) rfl dX11_init_1 (Nat.le_of_ble_eq_true rfl) (Nat.le_of_ble_eq_true rfl) ?_
  refine W.eq (g2 := F0 m 4 ls []) rfl ?_
  refine lv_aload_n hx hb dX11_init_4 rfl (lv_at hl 0 rfl) ?_
  refine lv_sipush (v := 1700) hx hb dX11_init_5 (by decide) ?_
  refine ow_newa (N' := 1700) (atype := .byte) (ty := .byte) (a0 := (1700, .inl (fun _ => 0))) hx hb (ht _ k_74) rfl hK hP hD hS hA 1 rfl (fun _ => rfl) (by decide) (by decide +kernel) (by decide) (Nat.le_of_ble_eq_true rfl) (Nat.le_of_ble_eq_true rfl) dX11_init_8 (fun q_1 H hP hD hS => ?_)
  refine va_putF (ci := 11) (v := .ref q_1) (ty := .array (.byte)) (C := RX11) (T := TX11) (N := 14) hx hb ht iX11 tyX11 tyX11_ok nmX11 hown hK hP hD hS 0 rfl rfl 0 (by decide) (ht _ k_75) (fun _ h9 => h9) rfl hin rfl (by decide +kernel) rfl rfl (Nat.le_of_ble_eq_true rfl) dX11_init_10 (fun H locs hP hD hS => ?_)
  have hP : va_P G vwCl [(h, .inr (11, [.ref q_1, .int 0, .null, .null, .int 0, .int 0, .null, .null, .null, .null, .int 0, .null, .null, .null])), (q_1, .inl (cy 1, 1700, .inl (fun _ => 0)))] H := hP
  have hD : va_D A [(h, .inr (11, [.ref q_1, .int 0, .null, .null, .int 0, .int 0, .null, .null, .null, .null, .int 0, .null, .null, .null])), (q_1, .inl (cy 1, 1700, .inl (fun _ => 0)))] := hD
  refine lv_aload_n hx hb dX11_init_13 rfl (lv_at hl 0 rfl) ?_
  refine va_new (ci := 9) (fs := [.null, .null, .null, .int 0, .null, .int 0, .null, .int 0, .null]) (C := RX9) (T := TX9) (N := 9) hx hb ht iX9 tyX9 tyX9_ok hown (ht _ k_76) (ht _ k_77) (ht _ k_78) hK hP hD hS hA rfl df9 (Nat.le_of_ble_eq_true rfl) (Nat.le_of_ble_eq_true rfl) dX11_init_14 (fun q_2 H hP hD hS => ?_)
  refine lv_dup hx hb dX11_init_17 rfl ?_
  have hFc := fr_lastF hD hS hA
  have hPc := fr_lastP hP
  refine va_callv (va_runI (As := []) (rest := [.ref q_2, .ref h]) ⟨hx, hb, hml, hown, ht⟩ (c_Town l G cy _ q_2 ) (cwI 0 ht (gc k_79) rfl rfl rfl (ht _ k_78) (ht _ k_80) (ht _ k_81) rfl (by decide +kernel) ⟨Nat.le_of_ble_eq_true rfl, Nat.le_of_ble_eq_true rfl⟩) ⟨En.blind, fun U hU hW => ⟨rfl, En.of hU hW hPc hK (fr_lastD (ws := [])) hN⟩⟩ rfl rfl hl.1 rfl (lv_room (Nat.le_of_ble_eq_true rfl)) dX11_init_18 ⟨Nat.le_of_ble_eq_true rfl, Nat.le_of_ble_eq_true rfl⟩) hS (fun q _ h => hFc q h) hFc (fun u_3 t H locs ht9 hvm hw hB hz1 hk1 hS => ?_)
  obtain ⟨hP1, hD1⟩ := hB
  rw [ht9] at hP1
  obtain ⟨hP, hD⟩ := fr_last hP hD hFc hk1 hP1 hD1
  clear hFc hPc hP1 hD1 hz1 hk1
  have hP : va_P G vwCl [(h, .inr (11, [.ref q_1, .int 0, .null, .null, .int 0, .int 0, .null, .null, .null, .null, .int 0, .null, .null, .null])), (q_1, .inl (cy 1, 1700, .inl (fun _ => 0))), (q_2, .inr (9, [.ref (u_3 0), .ref (u_3 1), .ref (u_3 2), .int 0, .ref (u_3 3), .int 0, .ref (u_3 4), .int 0, .ref (u_3 5)])), ((u_3 4), .inr (5, [.ref (u_3 6), .ref (u_3 7), .int 0, .ref (u_3 8), .int 0])), ((u_3 5), .inl (cy 2, 12, .inl (fun _ => 0)))] H := hP
  have hD : va_D A [(h, .inr (11, [.ref q_1, .int 0, .null, .null, .int 0, .int 0, .null, .null, .null, .null, .int 0, .null, .null, .null])), (q_1, .inl (cy 1, 1700, .inl (fun _ => 0))), (q_2, .inr (9, [.ref (u_3 0), .ref (u_3 1), .ref (u_3 2), .int 0, .ref (u_3 3), .int 0, .ref (u_3 4), .int 0, .ref (u_3 5)])), ((u_3 4), .inr (5, [.ref (u_3 6), .ref (u_3 7), .int 0, .ref (u_3 8), .int 0])), ((u_3 5), .inl (cy 2, 12, .inl (fun _ => 0)))] := hD
  refine va_put (ci := 11) (v := .ref q_2) (ty := .object "TuneLocks$Town") (C := RX11) (T := TX11) (N := 14) hx hb ht iX11 tyX11 tyX11_ok nmX11 hown hK hP hD hS 0 rfl rfl 2 (by decide) (ht _ k_82) (fun _ h9 => h9) rfl (by decide +kernel) rfl rfl (Nat.le_of_ble_eq_true rfl) dX11_init_21 (fun H locs hP hD hS => ?_)
  have hP : va_P G vwCl [(h, .inr (11, [.ref q_1, .int 0, .ref q_2, .null, .int 0, .int 0, .null, .null, .null, .null, .int 0, .null, .null, .null])), (q_1, .inl (cy 1, 1700, .inl (fun _ => 0))), (q_2, .inr (9, [.ref (u_3 0), .ref (u_3 1), .ref (u_3 2), .int 0, .ref (u_3 3), .int 0, .ref (u_3 4), .int 0, .ref (u_3 5)])), ((u_3 4), .inr (5, [.ref (u_3 6), .ref (u_3 7), .int 0, .ref (u_3 8), .int 0])), ((u_3 5), .inl (cy 2, 12, .inl (fun _ => 0)))] H := hP
  have hD : va_D A [(h, .inr (11, [.ref q_1, .int 0, .ref q_2, .null, .int 0, .int 0, .null, .null, .null, .null, .int 0, .null, .null, .null])), (q_1, .inl (cy 1, 1700, .inl (fun _ => 0))), (q_2, .inr (9, [.ref (u_3 0), .ref (u_3 1), .ref (u_3 2), .int 0, .ref (u_3 3), .int 0, .ref (u_3 4), .int 0, .ref (u_3 5)])), ((u_3 4), .inr (5, [.ref (u_3 6), .ref (u_3 7), .int 0, .ref (u_3 8), .int 0])), ((u_3 5), .inl (cy 2, 12, .inl (fun _ => 0)))] := hD
  refine lv_aload_n hx hb dX11_init_24 rfl (lv_at hl 0 rfl) ?_
  refine va_new (ci := 9) (fs := [.null, .null, .null, .int 0, .null, .int 0, .null, .int 0, .null]) (C := RX9) (T := TX9) (N := 9) hx hb ht iX9 tyX9 tyX9_ok hown (ht _ k_76) (ht _ k_77) (ht _ k_78) hK hP hD hS hA rfl df9 (Nat.le_of_ble_eq_true rfl) (Nat.le_of_ble_eq_true rfl) dX11_init_25 (fun q_4 H hP hD hS => ?_)
  refine lv_dup hx hb dX11_init_28 rfl ?_
  have hFc := fr_lastF hD hS hA
  have hPc := fr_lastP hP
  refine va_callv (va_runI (As := []) (rest := [.ref q_4, .ref h]) ⟨hx, hb, hml, hown, ht⟩ (c_Town l G cy _ q_4 ) (cwI 0 ht (gc k_79) rfl rfl rfl (ht _ k_78) (ht _ k_80) (ht _ k_81) rfl (by decide +kernel) ⟨Nat.le_of_ble_eq_true rfl, Nat.le_of_ble_eq_true rfl⟩) ⟨En.blind, fun U hU hW => ⟨rfl, En.of hU hW hPc hK (fr_lastD (ws := [])) hN⟩⟩ rfl rfl hl.1 rfl (lv_room (Nat.le_of_ble_eq_true rfl)) dX11_init_29 ⟨Nat.le_of_ble_eq_true rfl, Nat.le_of_ble_eq_true rfl⟩) hS (fun q _ h => hFc q h) hFc (fun u_5 t H locs ht9 hvm hw hB hz1 hk1 hS => ?_)
  obtain ⟨hP1, hD1⟩ := hB
  rw [ht9] at hP1
  obtain ⟨hP, hD⟩ := fr_last hP hD hFc hk1 hP1 hD1
  clear hFc hPc hP1 hD1 hz1 hk1
  have hP : va_P G vwCl [(h, .inr (11, [.ref q_1, .int 0, .ref q_2, .null, .int 0, .int 0, .null, .null, .null, .null, .int 0, .null, .null, .null])), (q_1, .inl (cy 1, 1700, .inl (fun _ => 0))), (q_2, .inr (9, [.ref (u_3 0), .ref (u_3 1), .ref (u_3 2), .int 0, .ref (u_3 3), .int 0, .ref (u_3 4), .int 0, .ref (u_3 5)])), ((u_3 4), .inr (5, [.ref (u_3 6), .ref (u_3 7), .int 0, .ref (u_3 8), .int 0])), ((u_3 5), .inl (cy 2, 12, .inl (fun _ => 0))), (q_4, .inr (9, [.ref (u_5 0), .ref (u_5 1), .ref (u_5 2), .int 0, .ref (u_5 3), .int 0, .ref (u_5 4), .int 0, .ref (u_5 5)])), ((u_5 4), .inr (5, [.ref (u_5 6), .ref (u_5 7), .int 0, .ref (u_5 8), .int 0])), ((u_5 5), .inl (cy 2, 12, .inl (fun _ => 0)))] H := hP
  have hD : va_D A [(h, .inr (11, [.ref q_1, .int 0, .ref q_2, .null, .int 0, .int 0, .null, .null, .null, .null, .int 0, .null, .null, .null])), (q_1, .inl (cy 1, 1700, .inl (fun _ => 0))), (q_2, .inr (9, [.ref (u_3 0), .ref (u_3 1), .ref (u_3 2), .int 0, .ref (u_3 3), .int 0, .ref (u_3 4), .int 0, .ref (u_3 5)])), ((u_3 4), .inr (5, [.ref (u_3 6), .ref (u_3 7), .int 0, .ref (u_3 8), .int 0])), ((u_3 5), .inl (cy 2, 12, .inl (fun _ => 0))), (q_4, .inr (9, [.ref (u_5 0), .ref (u_5 1), .ref (u_5 2), .int 0, .ref (u_5 3), .int 0, .ref (u_5 4), .int 0, .ref (u_5 5)])), ((u_5 4), .inr (5, [.ref (u_5 6), .ref (u_5 7), .int 0, .ref (u_5 8), .int 0])), ((u_5 5), .inl (cy 2, 12, .inl (fun _ => 0)))] := hD
  refine va_put (ci := 11) (v := .ref q_4) (ty := .object "TuneLocks$Town") (C := RX11) (T := TX11) (N := 14) hx hb ht iX11 tyX11 tyX11_ok nmX11 hown hK hP hD hS 0 rfl rfl 3 (by decide) (ht _ k_83) (fun _ h9 => h9) rfl (by decide +kernel) rfl rfl (Nat.le_of_ble_eq_true rfl) dX11_init_32 (fun H locs hP hD hS => ?_)
  have hP : va_P G vwCl [(h, .inr (11, [.ref q_1, .int 0, .ref q_2, .ref q_4, .int 0, .int 0, .null, .null, .null, .null, .int 0, .null, .null, .null])), (q_1, .inl (cy 1, 1700, .inl (fun _ => 0))), (q_2, .inr (9, [.ref (u_3 0), .ref (u_3 1), .ref (u_3 2), .int 0, .ref (u_3 3), .int 0, .ref (u_3 4), .int 0, .ref (u_3 5)])), ((u_3 4), .inr (5, [.ref (u_3 6), .ref (u_3 7), .int 0, .ref (u_3 8), .int 0])), ((u_3 5), .inl (cy 2, 12, .inl (fun _ => 0))), (q_4, .inr (9, [.ref (u_5 0), .ref (u_5 1), .ref (u_5 2), .int 0, .ref (u_5 3), .int 0, .ref (u_5 4), .int 0, .ref (u_5 5)])), ((u_5 4), .inr (5, [.ref (u_5 6), .ref (u_5 7), .int 0, .ref (u_5 8), .int 0])), ((u_5 5), .inl (cy 2, 12, .inl (fun _ => 0)))] H := hP
  have hD : va_D A [(h, .inr (11, [.ref q_1, .int 0, .ref q_2, .ref q_4, .int 0, .int 0, .null, .null, .null, .null, .int 0, .null, .null, .null])), (q_1, .inl (cy 1, 1700, .inl (fun _ => 0))), (q_2, .inr (9, [.ref (u_3 0), .ref (u_3 1), .ref (u_3 2), .int 0, .ref (u_3 3), .int 0, .ref (u_3 4), .int 0, .ref (u_3 5)])), ((u_3 4), .inr (5, [.ref (u_3 6), .ref (u_3 7), .int 0, .ref (u_3 8), .int 0])), ((u_3 5), .inl (cy 2, 12, .inl (fun _ => 0))), (q_4, .inr (9, [.ref (u_5 0), .ref (u_5 1), .ref (u_5 2), .int 0, .ref (u_5 3), .int 0, .ref (u_5 4), .int 0, .ref (u_5 5)])), ((u_5 4), .inr (5, [.ref (u_5 6), .ref (u_5 7), .int 0, .ref (u_5 8), .int 0])), ((u_5 5), .inl (cy 2, 12, .inl (fun _ => 0)))] := hD
  refine lv_aload_n hx hb dX11_init_35 rfl (lv_at hl 0 rfl) ?_
  refine lv_iconst (v := (-1)) hx hb dX11_init_36 (by decide) ?_
  refine va_put (ci := 11) (v := .int (-1)) (ty := .int) (C := RX11) (T := TX11) (N := 14) hx hb ht iX11 tyX11 tyX11_ok nmX11 hown hK hP hD hS 0 rfl rfl 5 (by decide) (ht _ k_84) (fun _ h9 => h9) rfl (by decide +kernel) rfl rfl (Nat.le_of_ble_eq_true rfl) dX11_init_37 (fun H locs hP hD hS => ?_)
  have hP : va_P G vwCl [(h, .inr (11, [.ref q_1, .int 0, .ref q_2, .ref q_4, .int 0, .int (-1), .null, .null, .null, .null, .int 0, .null, .null, .null])), (q_1, .inl (cy 1, 1700, .inl (fun _ => 0))), (q_2, .inr (9, [.ref (u_3 0), .ref (u_3 1), .ref (u_3 2), .int 0, .ref (u_3 3), .int 0, .ref (u_3 4), .int 0, .ref (u_3 5)])), ((u_3 4), .inr (5, [.ref (u_3 6), .ref (u_3 7), .int 0, .ref (u_3 8), .int 0])), ((u_3 5), .inl (cy 2, 12, .inl (fun _ => 0))), (q_4, .inr (9, [.ref (u_5 0), .ref (u_5 1), .ref (u_5 2), .int 0, .ref (u_5 3), .int 0, .ref (u_5 4), .int 0, .ref (u_5 5)])), ((u_5 4), .inr (5, [.ref (u_5 6), .ref (u_5 7), .int 0, .ref (u_5 8), .int 0])), ((u_5 5), .inl (cy 2, 12, .inl (fun _ => 0)))] H := hP
  have hD : va_D A [(h, .inr (11, [.ref q_1, .int 0, .ref q_2, .ref q_4, .int 0, .int (-1), .null, .null, .null, .null, .int 0, .null, .null, .null])), (q_1, .inl (cy 1, 1700, .inl (fun _ => 0))), (q_2, .inr (9, [.ref (u_3 0), .ref (u_3 1), .ref (u_3 2), .int 0, .ref (u_3 3), .int 0, .ref (u_3 4), .int 0, .ref (u_3 5)])), ((u_3 4), .inr (5, [.ref (u_3 6), .ref (u_3 7), .int 0, .ref (u_3 8), .int 0])), ((u_3 5), .inl (cy 2, 12, .inl (fun _ => 0))), (q_4, .inr (9, [.ref (u_5 0), .ref (u_5 1), .ref (u_5 2), .int 0, .ref (u_5 3), .int 0, .ref (u_5 4), .int 0, .ref (u_5 5)])), ((u_5 4), .inr (5, [.ref (u_5 6), .ref (u_5 7), .int 0, .ref (u_5 8), .int 0])), ((u_5 5), .inl (cy 2, 12, .inl (fun _ => 0)))] := hD
  refine lv_aload_n hx hb dX11_init_40 rfl (lv_at hl 0 rfl) ?_
  refine va_new (ci := 7) (fs := [.null, .int 0, .int 0, .null, .int 0]) (C := RX7) (T := TX7) (N := 5) hx hb ht iX7 tyX7 tyX7_ok hown (ht _ k_85) (ht _ k_86) (ht _ k_87) hK hP hD hS hA rfl df7 (Nat.le_of_ble_eq_true rfl) (Nat.le_of_ble_eq_true rfl) dX11_init_41 (fun q_6 H hP hD hS => ?_)
  refine lv_dup hx hb dX11_init_44 rfl ?_
  have hFc := fr_lastF hD hS hA
  have hPc := fr_lastP hP
  refine va_callv (va_runIN (As := []) (rest := [.ref q_6, .ref h]) ⟨hx, hb, hml, hown, ht⟩ (c_Scene l G cy _ q_6 ) ⟨va_cnB (host := "TuneLocks") 0 ht (gc k_88) rfl rfl rfl (hN.1 _ ns_59) (ht _ k_87) (by decide +kernel) ⟨Nat.le_of_ble_eq_true rfl, Nat.le_of_ble_eq_true rfl⟩, rfl, ht _ k_89⟩ ⟨En.blind, fun U hU hW => ⟨rfl, En.of hU hW hPc hK (fr_lastD (ws := [])) hN⟩⟩ rfl rfl hl.1 rfl (lv_room (Nat.le_of_ble_eq_true rfl)) dX11_init_45 ⟨Nat.le_of_ble_eq_true rfl, Nat.le_of_ble_eq_true rfl⟩) hS (fun q _ h => hFc q h) hFc (fun u_7 t H locs ht9 hvm hw hB hz1 hk1 hS => ?_)
  obtain ⟨hP1, hD1⟩ := hB
  rw [ht9] at hP1
  obtain ⟨hP, hD⟩ := fr_last hP hD hFc hk1 hP1 hD1
  clear hFc hPc hP1 hD1 hz1 hk1
  have hP : va_P G vwCl [(h, .inr (11, [.ref q_1, .int 0, .ref q_2, .ref q_4, .int 0, .int (-1), .null, .null, .null, .null, .int 0, .null, .null, .null])), (q_1, .inl (cy 1, 1700, .inl (fun _ => 0))), (q_2, .inr (9, [.ref (u_3 0), .ref (u_3 1), .ref (u_3 2), .int 0, .ref (u_3 3), .int 0, .ref (u_3 4), .int 0, .ref (u_3 5)])), ((u_3 4), .inr (5, [.ref (u_3 6), .ref (u_3 7), .int 0, .ref (u_3 8), .int 0])), ((u_3 5), .inl (cy 2, 12, .inl (fun _ => 0))), (q_4, .inr (9, [.ref (u_5 0), .ref (u_5 1), .ref (u_5 2), .int 0, .ref (u_5 3), .int 0, .ref (u_5 4), .int 0, .ref (u_5 5)])), ((u_5 4), .inr (5, [.ref (u_5 6), .ref (u_5 7), .int 0, .ref (u_5 8), .int 0])), ((u_5 5), .inl (cy 2, 12, .inl (fun _ => 0))), (q_6, .inr (7, [.ref (u_7 0), .int 0, .int 0, .ref (u_7 1), .int 0])), ((u_7 0), .inr (8, [.ref (u_7 2), .ref (u_7 3), .int 0])), ((u_7 2), .inl (cy 0, 40, .inl (fun _ => 0))), ((u_7 3), .inl (cy 0, 40, .inl (fun _ => 0))), ((u_7 1), .inl (cy 0, 8, .inl (fun _ => 0)))] H := hP
  have hD : va_D A [(h, .inr (11, [.ref q_1, .int 0, .ref q_2, .ref q_4, .int 0, .int (-1), .null, .null, .null, .null, .int 0, .null, .null, .null])), (q_1, .inl (cy 1, 1700, .inl (fun _ => 0))), (q_2, .inr (9, [.ref (u_3 0), .ref (u_3 1), .ref (u_3 2), .int 0, .ref (u_3 3), .int 0, .ref (u_3 4), .int 0, .ref (u_3 5)])), ((u_3 4), .inr (5, [.ref (u_3 6), .ref (u_3 7), .int 0, .ref (u_3 8), .int 0])), ((u_3 5), .inl (cy 2, 12, .inl (fun _ => 0))), (q_4, .inr (9, [.ref (u_5 0), .ref (u_5 1), .ref (u_5 2), .int 0, .ref (u_5 3), .int 0, .ref (u_5 4), .int 0, .ref (u_5 5)])), ((u_5 4), .inr (5, [.ref (u_5 6), .ref (u_5 7), .int 0, .ref (u_5 8), .int 0])), ((u_5 5), .inl (cy 2, 12, .inl (fun _ => 0))), (q_6, .inr (7, [.ref (u_7 0), .int 0, .int 0, .ref (u_7 1), .int 0])), ((u_7 0), .inr (8, [.ref (u_7 2), .ref (u_7 3), .int 0])), ((u_7 2), .inl (cy 0, 40, .inl (fun _ => 0))), ((u_7 3), .inl (cy 0, 40, .inl (fun _ => 0))), ((u_7 1), .inl (cy 0, 8, .inl (fun _ => 0)))] := hD
  refine va_putF (ci := 11) (v := .ref q_6) (ty := .object "TuneLocks$Scene") (C := RX11) (T := TX11) (N := 14) hx hb ht iX11 tyX11 tyX11_ok nmX11 hown hK hP hD hS 0 rfl rfl 6 (by decide) (ht _ k_90) (fun _ h9 => h9) rfl hin rfl (by decide +kernel) rfl rfl (Nat.le_of_ble_eq_true rfl) dX11_init_48 (fun H locs hP hD hS => ?_)
  have hP : va_P G vwCl [(h, .inr (11, [.ref q_1, .int 0, .ref q_2, .ref q_4, .int 0, .int (-1), .ref q_6, .null, .null, .null, .int 0, .null, .null, .null])), (q_1, .inl (cy 1, 1700, .inl (fun _ => 0))), (q_2, .inr (9, [.ref (u_3 0), .ref (u_3 1), .ref (u_3 2), .int 0, .ref (u_3 3), .int 0, .ref (u_3 4), .int 0, .ref (u_3 5)])), ((u_3 4), .inr (5, [.ref (u_3 6), .ref (u_3 7), .int 0, .ref (u_3 8), .int 0])), ((u_3 5), .inl (cy 2, 12, .inl (fun _ => 0))), (q_4, .inr (9, [.ref (u_5 0), .ref (u_5 1), .ref (u_5 2), .int 0, .ref (u_5 3), .int 0, .ref (u_5 4), .int 0, .ref (u_5 5)])), ((u_5 4), .inr (5, [.ref (u_5 6), .ref (u_5 7), .int 0, .ref (u_5 8), .int 0])), ((u_5 5), .inl (cy 2, 12, .inl (fun _ => 0))), (q_6, .inr (7, [.ref (u_7 0), .int 0, .int 0, .ref (u_7 1), .int 0])), ((u_7 0), .inr (8, [.ref (u_7 2), .ref (u_7 3), .int 0])), ((u_7 2), .inl (cy 0, 40, .inl (fun _ => 0))), ((u_7 3), .inl (cy 0, 40, .inl (fun _ => 0))), ((u_7 1), .inl (cy 0, 8, .inl (fun _ => 0)))] H := hP
  have hD : va_D A [(h, .inr (11, [.ref q_1, .int 0, .ref q_2, .ref q_4, .int 0, .int (-1), .ref q_6, .null, .null, .null, .int 0, .null, .null, .null])), (q_1, .inl (cy 1, 1700, .inl (fun _ => 0))), (q_2, .inr (9, [.ref (u_3 0), .ref (u_3 1), .ref (u_3 2), .int 0, .ref (u_3 3), .int 0, .ref (u_3 4), .int 0, .ref (u_3 5)])), ((u_3 4), .inr (5, [.ref (u_3 6), .ref (u_3 7), .int 0, .ref (u_3 8), .int 0])), ((u_3 5), .inl (cy 2, 12, .inl (fun _ => 0))), (q_4, .inr (9, [.ref (u_5 0), .ref (u_5 1), .ref (u_5 2), .int 0, .ref (u_5 3), .int 0, .ref (u_5 4), .int 0, .ref (u_5 5)])), ((u_5 4), .inr (5, [.ref (u_5 6), .ref (u_5 7), .int 0, .ref (u_5 8), .int 0])), ((u_5 5), .inl (cy 2, 12, .inl (fun _ => 0))), (q_6, .inr (7, [.ref (u_7 0), .int 0, .int 0, .ref (u_7 1), .int 0])), ((u_7 0), .inr (8, [.ref (u_7 2), .ref (u_7 3), .int 0])), ((u_7 2), .inl (cy 0, 40, .inl (fun _ => 0))), ((u_7 3), .inl (cy 0, 40, .inl (fun _ => 0))), ((u_7 1), .inl (cy 0, 8, .inl (fun _ => 0)))] := hD
  refine lv_aload_n hx hb dX11_init_51 rfl (lv_at hl 0 rfl) ?_
  refine lv_iconst (v := 3) hx hb dX11_init_52 (by decide) ?_
  refine ow_newq (N' := 3) (C := "TuneLocks$Scene") hx hb hown (ht _ k_85) hN.2.2.2.2.1 hK hP hD hS hA 7 rfl (by decide) (by decide +kernel) (by decide) (Nat.le_of_ble_eq_true rfl) (Nat.le_of_ble_eq_true rfl) dX11_init_53 (fun q_8 H hP hD hS => ?_)
  refine va_putF (ci := 11) (v := .ref q_8) (ty := .array (.object "TuneLocks$Scene")) (C := RX11) (T := TX11) (N := 14) hx hb ht iX11 tyX11 tyX11_ok nmX11 hown hK hP hD hS 0 rfl rfl 7 (by decide) (ht _ k_91) (fun _ h9 => h9) rfl hin rfl (by decide +kernel) rfl rfl (Nat.le_of_ble_eq_true rfl) dX11_init_56 (fun H locs hP hD hS => ?_)
  have hP : va_P G vwCl [(h, .inr (11, [.ref q_1, .int 0, .ref q_2, .ref q_4, .int 0, .int (-1), .ref q_6, .ref q_8, .null, .null, .int 0, .null, .null, .null])), (q_1, .inl (cy 1, 1700, .inl (fun _ => 0))), (q_2, .inr (9, [.ref (u_3 0), .ref (u_3 1), .ref (u_3 2), .int 0, .ref (u_3 3), .int 0, .ref (u_3 4), .int 0, .ref (u_3 5)])), ((u_3 4), .inr (5, [.ref (u_3 6), .ref (u_3 7), .int 0, .ref (u_3 8), .int 0])), ((u_3 5), .inl (cy 2, 12, .inl (fun _ => 0))), (q_4, .inr (9, [.ref (u_5 0), .ref (u_5 1), .ref (u_5 2), .int 0, .ref (u_5 3), .int 0, .ref (u_5 4), .int 0, .ref (u_5 5)])), ((u_5 4), .inr (5, [.ref (u_5 6), .ref (u_5 7), .int 0, .ref (u_5 8), .int 0])), ((u_5 5), .inl (cy 2, 12, .inl (fun _ => 0))), (q_6, .inr (7, [.ref (u_7 0), .int 0, .int 0, .ref (u_7 1), .int 0])), ((u_7 0), .inr (8, [.ref (u_7 2), .ref (u_7 3), .int 0])), ((u_7 2), .inl (cy 0, 40, .inl (fun _ => 0))), ((u_7 3), .inl (cy 0, 40, .inl (fun _ => 0))), ((u_7 1), .inl (cy 0, 8, .inl (fun _ => 0))), (q_8, .inl (cy 7, 3, .inr (.inr (.inr (.inr (fun _ => none))))))] H := hP
  have hD : va_D A [(h, .inr (11, [.ref q_1, .int 0, .ref q_2, .ref q_4, .int 0, .int (-1), .ref q_6, .ref q_8, .null, .null, .int 0, .null, .null, .null])), (q_1, .inl (cy 1, 1700, .inl (fun _ => 0))), (q_2, .inr (9, [.ref (u_3 0), .ref (u_3 1), .ref (u_3 2), .int 0, .ref (u_3 3), .int 0, .ref (u_3 4), .int 0, .ref (u_3 5)])), ((u_3 4), .inr (5, [.ref (u_3 6), .ref (u_3 7), .int 0, .ref (u_3 8), .int 0])), ((u_3 5), .inl (cy 2, 12, .inl (fun _ => 0))), (q_4, .inr (9, [.ref (u_5 0), .ref (u_5 1), .ref (u_5 2), .int 0, .ref (u_5 3), .int 0, .ref (u_5 4), .int 0, .ref (u_5 5)])), ((u_5 4), .inr (5, [.ref (u_5 6), .ref (u_5 7), .int 0, .ref (u_5 8), .int 0])), ((u_5 5), .inl (cy 2, 12, .inl (fun _ => 0))), (q_6, .inr (7, [.ref (u_7 0), .int 0, .int 0, .ref (u_7 1), .int 0])), ((u_7 0), .inr (8, [.ref (u_7 2), .ref (u_7 3), .int 0])), ((u_7 2), .inl (cy 0, 40, .inl (fun _ => 0))), ((u_7 3), .inl (cy 0, 40, .inl (fun _ => 0))), ((u_7 1), .inl (cy 0, 8, .inl (fun _ => 0))), (q_8, .inl (cy 7, 3, .inr (.inr (.inr (.inr (fun _ => none))))))] := hD
  refine lv_aload_n hx hb dX11_init_59 rfl (lv_at hl 0 rfl) ?_
  refine va_new (ci := 2) (fs := [.null, .null, .null, .null, .int 0]) (C := RX2) (T := TX2) (N := 5) hx hb ht iX2 tyX2 tyX2_ok hown (ht _ k_92) (ht _ k_65) (ht _ k_66) hK hP hD hS hA rfl df2 (Nat.le_of_ble_eq_true rfl) (Nat.le_of_ble_eq_true rfl) dX11_init_60 (fun q_9 H hP hD hS => ?_)
  refine lv_dup hx hb dX11_init_63 rfl ?_
  have hFc := fr_lastF hD hS hA
  have hPc := fr_lastP hP
  refine va_callv (va_runIN (As := []) (rest := [.ref q_9, .ref h]) ⟨hx, hb, hml, hown, ht⟩ (c_Hearing l G cy _ q_9 ) ⟨va_cnB (host := "TuneLocks") 0 ht (gc k_67) rfl rfl rfl (hN.1 _ ns_60) (ht _ k_66) (by decide +kernel) ⟨Nat.le_of_ble_eq_true rfl, Nat.le_of_ble_eq_true rfl⟩, rfl, ht _ k_68⟩ ⟨En.blind, fun U hU hW => ⟨rfl, En.of hU hW hPc hK (fr_lastD (ws := [])) hN⟩⟩ rfl rfl hl.1 rfl (lv_room (Nat.le_of_ble_eq_true rfl)) dX11_init_64 ⟨Nat.le_of_ble_eq_true rfl, Nat.le_of_ble_eq_true rfl⟩) hS (fun q _ h => hFc q h) hFc (fun u_10 t H locs ht9 hvm hw hB hz1 hk1 hS => ?_)
  obtain ⟨hP1, hD1⟩ := hB
  rw [ht9] at hP1
  obtain ⟨hP, hD⟩ := fr_last hP hD hFc hk1 hP1 hD1
  clear hFc hPc hP1 hD1 hz1 hk1
  have hP : va_P G vwCl [(h, .inr (11, [.ref q_1, .int 0, .ref q_2, .ref q_4, .int 0, .int (-1), .ref q_6, .ref q_8, .null, .null, .int 0, .null, .null, .null])), (q_1, .inl (cy 1, 1700, .inl (fun _ => 0))), (q_2, .inr (9, [.ref (u_3 0), .ref (u_3 1), .ref (u_3 2), .int 0, .ref (u_3 3), .int 0, .ref (u_3 4), .int 0, .ref (u_3 5)])), ((u_3 4), .inr (5, [.ref (u_3 6), .ref (u_3 7), .int 0, .ref (u_3 8), .int 0])), ((u_3 5), .inl (cy 2, 12, .inl (fun _ => 0))), (q_4, .inr (9, [.ref (u_5 0), .ref (u_5 1), .ref (u_5 2), .int 0, .ref (u_5 3), .int 0, .ref (u_5 4), .int 0, .ref (u_5 5)])), ((u_5 4), .inr (5, [.ref (u_5 6), .ref (u_5 7), .int 0, .ref (u_5 8), .int 0])), ((u_5 5), .inl (cy 2, 12, .inl (fun _ => 0))), (q_6, .inr (7, [.ref (u_7 0), .int 0, .int 0, .ref (u_7 1), .int 0])), ((u_7 0), .inr (8, [.ref (u_7 2), .ref (u_7 3), .int 0])), ((u_7 2), .inl (cy 0, 40, .inl (fun _ => 0))), ((u_7 3), .inl (cy 0, 40, .inl (fun _ => 0))), ((u_7 1), .inl (cy 0, 8, .inl (fun _ => 0))), (q_8, .inl (cy 7, 3, .inr (.inr (.inr (.inr (fun _ => none)))))), (q_9, .inr (2, [.ref (u_10 0), .ref (u_10 1), .ref (u_10 2), .ref (u_10 3), .int 0]))] H := hP
  have hD : va_D A [(h, .inr (11, [.ref q_1, .int 0, .ref q_2, .ref q_4, .int 0, .int (-1), .ref q_6, .ref q_8, .null, .null, .int 0, .null, .null, .null])), (q_1, .inl (cy 1, 1700, .inl (fun _ => 0))), (q_2, .inr (9, [.ref (u_3 0), .ref (u_3 1), .ref (u_3 2), .int 0, .ref (u_3 3), .int 0, .ref (u_3 4), .int 0, .ref (u_3 5)])), ((u_3 4), .inr (5, [.ref (u_3 6), .ref (u_3 7), .int 0, .ref (u_3 8), .int 0])), ((u_3 5), .inl (cy 2, 12, .inl (fun _ => 0))), (q_4, .inr (9, [.ref (u_5 0), .ref (u_5 1), .ref (u_5 2), .int 0, .ref (u_5 3), .int 0, .ref (u_5 4), .int 0, .ref (u_5 5)])), ((u_5 4), .inr (5, [.ref (u_5 6), .ref (u_5 7), .int 0, .ref (u_5 8), .int 0])), ((u_5 5), .inl (cy 2, 12, .inl (fun _ => 0))), (q_6, .inr (7, [.ref (u_7 0), .int 0, .int 0, .ref (u_7 1), .int 0])), ((u_7 0), .inr (8, [.ref (u_7 2), .ref (u_7 3), .int 0])), ((u_7 2), .inl (cy 0, 40, .inl (fun _ => 0))), ((u_7 3), .inl (cy 0, 40, .inl (fun _ => 0))), ((u_7 1), .inl (cy 0, 8, .inl (fun _ => 0))), (q_8, .inl (cy 7, 3, .inr (.inr (.inr (.inr (fun _ => none)))))), (q_9, .inr (2, [.ref (u_10 0), .ref (u_10 1), .ref (u_10 2), .ref (u_10 3), .int 0]))] := hD
  refine va_putF (ci := 11) (v := .ref q_9) (ty := .object "TuneLocks$Hearing") (C := RX11) (T := TX11) (N := 14) hx hb ht iX11 tyX11 tyX11_ok nmX11 hown hK hP hD hS 0 rfl rfl 8 (by decide) (ht _ k_93) (fun _ h9 => h9) rfl hin rfl (by decide +kernel) rfl rfl (Nat.le_of_ble_eq_true rfl) dX11_init_67 (fun H locs hP hD hS => ?_)
  have hP : va_P G vwCl [(h, .inr (11, [.ref q_1, .int 0, .ref q_2, .ref q_4, .int 0, .int (-1), .ref q_6, .ref q_8, .ref q_9, .null, .int 0, .null, .null, .null])), (q_1, .inl (cy 1, 1700, .inl (fun _ => 0))), (q_2, .inr (9, [.ref (u_3 0), .ref (u_3 1), .ref (u_3 2), .int 0, .ref (u_3 3), .int 0, .ref (u_3 4), .int 0, .ref (u_3 5)])), ((u_3 4), .inr (5, [.ref (u_3 6), .ref (u_3 7), .int 0, .ref (u_3 8), .int 0])), ((u_3 5), .inl (cy 2, 12, .inl (fun _ => 0))), (q_4, .inr (9, [.ref (u_5 0), .ref (u_5 1), .ref (u_5 2), .int 0, .ref (u_5 3), .int 0, .ref (u_5 4), .int 0, .ref (u_5 5)])), ((u_5 4), .inr (5, [.ref (u_5 6), .ref (u_5 7), .int 0, .ref (u_5 8), .int 0])), ((u_5 5), .inl (cy 2, 12, .inl (fun _ => 0))), (q_6, .inr (7, [.ref (u_7 0), .int 0, .int 0, .ref (u_7 1), .int 0])), ((u_7 0), .inr (8, [.ref (u_7 2), .ref (u_7 3), .int 0])), ((u_7 2), .inl (cy 0, 40, .inl (fun _ => 0))), ((u_7 3), .inl (cy 0, 40, .inl (fun _ => 0))), ((u_7 1), .inl (cy 0, 8, .inl (fun _ => 0))), (q_8, .inl (cy 7, 3, .inr (.inr (.inr (.inr (fun _ => none)))))), (q_9, .inr (2, [.ref (u_10 0), .ref (u_10 1), .ref (u_10 2), .ref (u_10 3), .int 0]))] H := hP
  have hD : va_D A [(h, .inr (11, [.ref q_1, .int 0, .ref q_2, .ref q_4, .int 0, .int (-1), .ref q_6, .ref q_8, .ref q_9, .null, .int 0, .null, .null, .null])), (q_1, .inl (cy 1, 1700, .inl (fun _ => 0))), (q_2, .inr (9, [.ref (u_3 0), .ref (u_3 1), .ref (u_3 2), .int 0, .ref (u_3 3), .int 0, .ref (u_3 4), .int 0, .ref (u_3 5)])), ((u_3 4), .inr (5, [.ref (u_3 6), .ref (u_3 7), .int 0, .ref (u_3 8), .int 0])), ((u_3 5), .inl (cy 2, 12, .inl (fun _ => 0))), (q_4, .inr (9, [.ref (u_5 0), .ref (u_5 1), .ref (u_5 2), .int 0, .ref (u_5 3), .int 0, .ref (u_5 4), .int 0, .ref (u_5 5)])), ((u_5 4), .inr (5, [.ref (u_5 6), .ref (u_5 7), .int 0, .ref (u_5 8), .int 0])), ((u_5 5), .inl (cy 2, 12, .inl (fun _ => 0))), (q_6, .inr (7, [.ref (u_7 0), .int 0, .int 0, .ref (u_7 1), .int 0])), ((u_7 0), .inr (8, [.ref (u_7 2), .ref (u_7 3), .int 0])), ((u_7 2), .inl (cy 0, 40, .inl (fun _ => 0))), ((u_7 3), .inl (cy 0, 40, .inl (fun _ => 0))), ((u_7 1), .inl (cy 0, 8, .inl (fun _ => 0))), (q_8, .inl (cy 7, 3, .inr (.inr (.inr (.inr (fun _ => none)))))), (q_9, .inr (2, [.ref (u_10 0), .ref (u_10 1), .ref (u_10 2), .ref (u_10 3), .int 0]))] := hD
  refine lv_aload_n hx hb dX11_init_70 rfl (lv_at hl 0 rfl) ?_
  refine va_new (ci := 10) (fs := [.null, .null, .null, .null, .null, .int 0]) (C := RX10) (T := TX10) (N := 6) hx hb ht iX10 tyX10 tyX10_ok hown (ht _ k_94) (ht _ k_95) (ht _ k_96) hK hP hD hS hA rfl df10 (Nat.le_of_ble_eq_true rfl) (Nat.le_of_ble_eq_true rfl) dX11_init_71 (fun q_11 H hP hD hS => ?_)
  refine lv_dup hx hb dX11_init_74 rfl ?_
  have hFc := fr_lastF hD hS hA
  have hPc := fr_lastP hP
  refine va_callv (va_runIN (As := []) (rest := [.ref q_11, .ref h]) ⟨hx, hb, hml, hown, ht⟩ (c_Watches l G cy _ q_11 ) ⟨va_cnB (host := "TuneLocks") 0 ht (gc k_97) rfl rfl rfl (hN.1 _ ns_61) (ht _ k_96) (by decide +kernel) ⟨Nat.le_of_ble_eq_true rfl, Nat.le_of_ble_eq_true rfl⟩, rfl, ht _ k_98⟩ ⟨En.blind, fun U hU hW => ⟨rfl, En.of hU hW hPc hK (fr_lastD (ws := [])) hN⟩⟩ rfl rfl hl.1 rfl (lv_room (Nat.le_of_ble_eq_true rfl)) dX11_init_75 ⟨Nat.le_of_ble_eq_true rfl, Nat.le_of_ble_eq_true rfl⟩) hS (fun q _ h => hFc q h) hFc (fun u_12 t H locs ht9 hvm hw hB hz1 hk1 hS => ?_)
  obtain ⟨hP1, hD1⟩ := hB
  rw [ht9] at hP1
  obtain ⟨hP, hD⟩ := fr_last hP hD hFc hk1 hP1 hD1
  clear hFc hPc hP1 hD1 hz1 hk1
  have hP : va_P G vwCl [(h, .inr (11, [.ref q_1, .int 0, .ref q_2, .ref q_4, .int 0, .int (-1), .ref q_6, .ref q_8, .ref q_9, .null, .int 0, .null, .null, .null])), (q_1, .inl (cy 1, 1700, .inl (fun _ => 0))), (q_2, .inr (9, [.ref (u_3 0), .ref (u_3 1), .ref (u_3 2), .int 0, .ref (u_3 3), .int 0, .ref (u_3 4), .int 0, .ref (u_3 5)])), ((u_3 4), .inr (5, [.ref (u_3 6), .ref (u_3 7), .int 0, .ref (u_3 8), .int 0])), ((u_3 5), .inl (cy 2, 12, .inl (fun _ => 0))), (q_4, .inr (9, [.ref (u_5 0), .ref (u_5 1), .ref (u_5 2), .int 0, .ref (u_5 3), .int 0, .ref (u_5 4), .int 0, .ref (u_5 5)])), ((u_5 4), .inr (5, [.ref (u_5 6), .ref (u_5 7), .int 0, .ref (u_5 8), .int 0])), ((u_5 5), .inl (cy 2, 12, .inl (fun _ => 0))), (q_6, .inr (7, [.ref (u_7 0), .int 0, .int 0, .ref (u_7 1), .int 0])), ((u_7 0), .inr (8, [.ref (u_7 2), .ref (u_7 3), .int 0])), ((u_7 2), .inl (cy 0, 40, .inl (fun _ => 0))), ((u_7 3), .inl (cy 0, 40, .inl (fun _ => 0))), ((u_7 1), .inl (cy 0, 8, .inl (fun _ => 0))), (q_8, .inl (cy 7, 3, .inr (.inr (.inr (.inr (fun _ => none)))))), (q_9, .inr (2, [.ref (u_10 0), .ref (u_10 1), .ref (u_10 2), .ref (u_10 3), .int 0])), (q_11, .inr (10, [.ref (u_12 0), .ref (u_12 1), .ref (u_12 2), .ref (u_12 3), .ref (u_12 4), .int 0]))] H := hP
  have hD : va_D A [(h, .inr (11, [.ref q_1, .int 0, .ref q_2, .ref q_4, .int 0, .int (-1), .ref q_6, .ref q_8, .ref q_9, .null, .int 0, .null, .null, .null])), (q_1, .inl (cy 1, 1700, .inl (fun _ => 0))), (q_2, .inr (9, [.ref (u_3 0), .ref (u_3 1), .ref (u_3 2), .int 0, .ref (u_3 3), .int 0, .ref (u_3 4), .int 0, .ref (u_3 5)])), ((u_3 4), .inr (5, [.ref (u_3 6), .ref (u_3 7), .int 0, .ref (u_3 8), .int 0])), ((u_3 5), .inl (cy 2, 12, .inl (fun _ => 0))), (q_4, .inr (9, [.ref (u_5 0), .ref (u_5 1), .ref (u_5 2), .int 0, .ref (u_5 3), .int 0, .ref (u_5 4), .int 0, .ref (u_5 5)])), ((u_5 4), .inr (5, [.ref (u_5 6), .ref (u_5 7), .int 0, .ref (u_5 8), .int 0])), ((u_5 5), .inl (cy 2, 12, .inl (fun _ => 0))), (q_6, .inr (7, [.ref (u_7 0), .int 0, .int 0, .ref (u_7 1), .int 0])), ((u_7 0), .inr (8, [.ref (u_7 2), .ref (u_7 3), .int 0])), ((u_7 2), .inl (cy 0, 40, .inl (fun _ => 0))), ((u_7 3), .inl (cy 0, 40, .inl (fun _ => 0))), ((u_7 1), .inl (cy 0, 8, .inl (fun _ => 0))), (q_8, .inl (cy 7, 3, .inr (.inr (.inr (.inr (fun _ => none)))))), (q_9, .inr (2, [.ref (u_10 0), .ref (u_10 1), .ref (u_10 2), .ref (u_10 3), .int 0])), (q_11, .inr (10, [.ref (u_12 0), .ref (u_12 1), .ref (u_12 2), .ref (u_12 3), .ref (u_12 4), .int 0]))] := hD
  refine va_putF (ci := 11) (v := .ref q_11) (ty := .object "TuneLocks$Watches") (C := RX11) (T := TX11) (N := 14) hx hb ht iX11 tyX11 tyX11_ok nmX11 hown hK hP hD hS 0 rfl rfl 9 (by decide) (ht _ k_99) (fun _ h9 => h9) rfl hin rfl (by decide +kernel) rfl rfl (Nat.le_of_ble_eq_true rfl) dX11_init_78 (fun H locs hP hD hS => ?_)
  have hP : va_P G vwCl [(h, .inr (11, [.ref q_1, .int 0, .ref q_2, .ref q_4, .int 0, .int (-1), .ref q_6, .ref q_8, .ref q_9, .ref q_11, .int 0, .null, .null, .null])), (q_1, .inl (cy 1, 1700, .inl (fun _ => 0))), (q_2, .inr (9, [.ref (u_3 0), .ref (u_3 1), .ref (u_3 2), .int 0, .ref (u_3 3), .int 0, .ref (u_3 4), .int 0, .ref (u_3 5)])), ((u_3 4), .inr (5, [.ref (u_3 6), .ref (u_3 7), .int 0, .ref (u_3 8), .int 0])), ((u_3 5), .inl (cy 2, 12, .inl (fun _ => 0))), (q_4, .inr (9, [.ref (u_5 0), .ref (u_5 1), .ref (u_5 2), .int 0, .ref (u_5 3), .int 0, .ref (u_5 4), .int 0, .ref (u_5 5)])), ((u_5 4), .inr (5, [.ref (u_5 6), .ref (u_5 7), .int 0, .ref (u_5 8), .int 0])), ((u_5 5), .inl (cy 2, 12, .inl (fun _ => 0))), (q_6, .inr (7, [.ref (u_7 0), .int 0, .int 0, .ref (u_7 1), .int 0])), ((u_7 0), .inr (8, [.ref (u_7 2), .ref (u_7 3), .int 0])), ((u_7 2), .inl (cy 0, 40, .inl (fun _ => 0))), ((u_7 3), .inl (cy 0, 40, .inl (fun _ => 0))), ((u_7 1), .inl (cy 0, 8, .inl (fun _ => 0))), (q_8, .inl (cy 7, 3, .inr (.inr (.inr (.inr (fun _ => none)))))), (q_9, .inr (2, [.ref (u_10 0), .ref (u_10 1), .ref (u_10 2), .ref (u_10 3), .int 0])), (q_11, .inr (10, [.ref (u_12 0), .ref (u_12 1), .ref (u_12 2), .ref (u_12 3), .ref (u_12 4), .int 0]))] H := hP
  have hD : va_D A [(h, .inr (11, [.ref q_1, .int 0, .ref q_2, .ref q_4, .int 0, .int (-1), .ref q_6, .ref q_8, .ref q_9, .ref q_11, .int 0, .null, .null, .null])), (q_1, .inl (cy 1, 1700, .inl (fun _ => 0))), (q_2, .inr (9, [.ref (u_3 0), .ref (u_3 1), .ref (u_3 2), .int 0, .ref (u_3 3), .int 0, .ref (u_3 4), .int 0, .ref (u_3 5)])), ((u_3 4), .inr (5, [.ref (u_3 6), .ref (u_3 7), .int 0, .ref (u_3 8), .int 0])), ((u_3 5), .inl (cy 2, 12, .inl (fun _ => 0))), (q_4, .inr (9, [.ref (u_5 0), .ref (u_5 1), .ref (u_5 2), .int 0, .ref (u_5 3), .int 0, .ref (u_5 4), .int 0, .ref (u_5 5)])), ((u_5 4), .inr (5, [.ref (u_5 6), .ref (u_5 7), .int 0, .ref (u_5 8), .int 0])), ((u_5 5), .inl (cy 2, 12, .inl (fun _ => 0))), (q_6, .inr (7, [.ref (u_7 0), .int 0, .int 0, .ref (u_7 1), .int 0])), ((u_7 0), .inr (8, [.ref (u_7 2), .ref (u_7 3), .int 0])), ((u_7 2), .inl (cy 0, 40, .inl (fun _ => 0))), ((u_7 3), .inl (cy 0, 40, .inl (fun _ => 0))), ((u_7 1), .inl (cy 0, 8, .inl (fun _ => 0))), (q_8, .inl (cy 7, 3, .inr (.inr (.inr (.inr (fun _ => none)))))), (q_9, .inr (2, [.ref (u_10 0), .ref (u_10 1), .ref (u_10 2), .ref (u_10 3), .int 0])), (q_11, .inr (10, [.ref (u_12 0), .ref (u_12 1), .ref (u_12 2), .ref (u_12 3), .ref (u_12 4), .int 0]))] := hD
  refine lv_aload_n hx hb dX11_init_81 rfl (lv_at hl 0 rfl) ?_
  refine va_new (ci := 1) (fs := [.null, .int 0, .int 0]) (C := RX1) (T := TX1) (N := 3) hx hb ht iX1 tyX1 tyX1_ok hown (ht _ k_100) (ht _ k_101) (ht _ k_102) hK hP hD hS hA rfl df1 (Nat.le_of_ble_eq_true rfl) (Nat.le_of_ble_eq_true rfl) dX11_init_82 (fun q_13 H hP hD hS => ?_)
  refine lv_dup hx hb dX11_init_85 rfl ?_
  have hFc := fr_lastF hD hS hA
  have hPc := fr_lastP hP
  refine va_callv (va_runIN (As := []) (rest := [.ref q_13, .ref h]) ⟨hx, hb, hml, hown, ht⟩ (c_Deal l G cy _ q_13 ) ⟨va_cnB (host := "TuneLocks") 0 ht (gc k_103) rfl rfl rfl (hN.1 _ ns_62) (ht _ k_102) (by decide +kernel) ⟨Nat.le_of_ble_eq_true rfl, Nat.le_of_ble_eq_true rfl⟩, rfl, ht _ k_104⟩ ⟨En.blind, fun U hU hW => ⟨rfl, En.of hU hW hPc hK (fr_lastD (ws := [])) hN⟩⟩ rfl rfl hl.1 rfl (lv_room (Nat.le_of_ble_eq_true rfl)) dX11_init_86 ⟨Nat.le_of_ble_eq_true rfl, Nat.le_of_ble_eq_true rfl⟩) hS (fun q _ h => hFc q h) hFc (fun u_14 t H locs ht9 hvm hw hB hz1 hk1 hS => ?_)
  obtain ⟨hP1, hD1⟩ := hB
  rw [ht9] at hP1
  obtain ⟨hP, hD⟩ := fr_last hP hD hFc hk1 hP1 hD1
  clear hFc hPc hP1 hD1 hz1 hk1
  have hP : va_P G vwCl [(h, .inr (11, [.ref q_1, .int 0, .ref q_2, .ref q_4, .int 0, .int (-1), .ref q_6, .ref q_8, .ref q_9, .ref q_11, .int 0, .null, .null, .null])), (q_1, .inl (cy 1, 1700, .inl (fun _ => 0))), (q_2, .inr (9, [.ref (u_3 0), .ref (u_3 1), .ref (u_3 2), .int 0, .ref (u_3 3), .int 0, .ref (u_3 4), .int 0, .ref (u_3 5)])), ((u_3 4), .inr (5, [.ref (u_3 6), .ref (u_3 7), .int 0, .ref (u_3 8), .int 0])), ((u_3 5), .inl (cy 2, 12, .inl (fun _ => 0))), (q_4, .inr (9, [.ref (u_5 0), .ref (u_5 1), .ref (u_5 2), .int 0, .ref (u_5 3), .int 0, .ref (u_5 4), .int 0, .ref (u_5 5)])), ((u_5 4), .inr (5, [.ref (u_5 6), .ref (u_5 7), .int 0, .ref (u_5 8), .int 0])), ((u_5 5), .inl (cy 2, 12, .inl (fun _ => 0))), (q_6, .inr (7, [.ref (u_7 0), .int 0, .int 0, .ref (u_7 1), .int 0])), ((u_7 0), .inr (8, [.ref (u_7 2), .ref (u_7 3), .int 0])), ((u_7 2), .inl (cy 0, 40, .inl (fun _ => 0))), ((u_7 3), .inl (cy 0, 40, .inl (fun _ => 0))), ((u_7 1), .inl (cy 0, 8, .inl (fun _ => 0))), (q_8, .inl (cy 7, 3, .inr (.inr (.inr (.inr (fun _ => none)))))), (q_9, .inr (2, [.ref (u_10 0), .ref (u_10 1), .ref (u_10 2), .ref (u_10 3), .int 0])), (q_11, .inr (10, [.ref (u_12 0), .ref (u_12 1), .ref (u_12 2), .ref (u_12 3), .ref (u_12 4), .int 0])), (q_13, .inr (1, [.ref (u_14 0), .int 0, .int 0]))] H := hP
  have hD : va_D A [(h, .inr (11, [.ref q_1, .int 0, .ref q_2, .ref q_4, .int 0, .int (-1), .ref q_6, .ref q_8, .ref q_9, .ref q_11, .int 0, .null, .null, .null])), (q_1, .inl (cy 1, 1700, .inl (fun _ => 0))), (q_2, .inr (9, [.ref (u_3 0), .ref (u_3 1), .ref (u_3 2), .int 0, .ref (u_3 3), .int 0, .ref (u_3 4), .int 0, .ref (u_3 5)])), ((u_3 4), .inr (5, [.ref (u_3 6), .ref (u_3 7), .int 0, .ref (u_3 8), .int 0])), ((u_3 5), .inl (cy 2, 12, .inl (fun _ => 0))), (q_4, .inr (9, [.ref (u_5 0), .ref (u_5 1), .ref (u_5 2), .int 0, .ref (u_5 3), .int 0, .ref (u_5 4), .int 0, .ref (u_5 5)])), ((u_5 4), .inr (5, [.ref (u_5 6), .ref (u_5 7), .int 0, .ref (u_5 8), .int 0])), ((u_5 5), .inl (cy 2, 12, .inl (fun _ => 0))), (q_6, .inr (7, [.ref (u_7 0), .int 0, .int 0, .ref (u_7 1), .int 0])), ((u_7 0), .inr (8, [.ref (u_7 2), .ref (u_7 3), .int 0])), ((u_7 2), .inl (cy 0, 40, .inl (fun _ => 0))), ((u_7 3), .inl (cy 0, 40, .inl (fun _ => 0))), ((u_7 1), .inl (cy 0, 8, .inl (fun _ => 0))), (q_8, .inl (cy 7, 3, .inr (.inr (.inr (.inr (fun _ => none)))))), (q_9, .inr (2, [.ref (u_10 0), .ref (u_10 1), .ref (u_10 2), .ref (u_10 3), .int 0])), (q_11, .inr (10, [.ref (u_12 0), .ref (u_12 1), .ref (u_12 2), .ref (u_12 3), .ref (u_12 4), .int 0])), (q_13, .inr (1, [.ref (u_14 0), .int 0, .int 0]))] := hD
  refine va_putF (ci := 11) (v := .ref q_13) (ty := .object "TuneLocks$Deal") (C := RX11) (T := TX11) (N := 14) hx hb ht iX11 tyX11 tyX11_ok nmX11 hown hK hP hD hS 0 rfl rfl 11 (by decide) (ht _ k_105) (fun _ h9 => h9) rfl hin rfl (by decide +kernel) rfl rfl (Nat.le_of_ble_eq_true rfl) dX11_init_89 (fun H locs hP hD hS => ?_)
  have hP : va_P G vwCl [(h, .inr (11, [.ref q_1, .int 0, .ref q_2, .ref q_4, .int 0, .int (-1), .ref q_6, .ref q_8, .ref q_9, .ref q_11, .int 0, .ref q_13, .null, .null])), (q_1, .inl (cy 1, 1700, .inl (fun _ => 0))), (q_2, .inr (9, [.ref (u_3 0), .ref (u_3 1), .ref (u_3 2), .int 0, .ref (u_3 3), .int 0, .ref (u_3 4), .int 0, .ref (u_3 5)])), ((u_3 4), .inr (5, [.ref (u_3 6), .ref (u_3 7), .int 0, .ref (u_3 8), .int 0])), ((u_3 5), .inl (cy 2, 12, .inl (fun _ => 0))), (q_4, .inr (9, [.ref (u_5 0), .ref (u_5 1), .ref (u_5 2), .int 0, .ref (u_5 3), .int 0, .ref (u_5 4), .int 0, .ref (u_5 5)])), ((u_5 4), .inr (5, [.ref (u_5 6), .ref (u_5 7), .int 0, .ref (u_5 8), .int 0])), ((u_5 5), .inl (cy 2, 12, .inl (fun _ => 0))), (q_6, .inr (7, [.ref (u_7 0), .int 0, .int 0, .ref (u_7 1), .int 0])), ((u_7 0), .inr (8, [.ref (u_7 2), .ref (u_7 3), .int 0])), ((u_7 2), .inl (cy 0, 40, .inl (fun _ => 0))), ((u_7 3), .inl (cy 0, 40, .inl (fun _ => 0))), ((u_7 1), .inl (cy 0, 8, .inl (fun _ => 0))), (q_8, .inl (cy 7, 3, .inr (.inr (.inr (.inr (fun _ => none)))))), (q_9, .inr (2, [.ref (u_10 0), .ref (u_10 1), .ref (u_10 2), .ref (u_10 3), .int 0])), (q_11, .inr (10, [.ref (u_12 0), .ref (u_12 1), .ref (u_12 2), .ref (u_12 3), .ref (u_12 4), .int 0])), (q_13, .inr (1, [.ref (u_14 0), .int 0, .int 0]))] H := hP
  have hD : va_D A [(h, .inr (11, [.ref q_1, .int 0, .ref q_2, .ref q_4, .int 0, .int (-1), .ref q_6, .ref q_8, .ref q_9, .ref q_11, .int 0, .ref q_13, .null, .null])), (q_1, .inl (cy 1, 1700, .inl (fun _ => 0))), (q_2, .inr (9, [.ref (u_3 0), .ref (u_3 1), .ref (u_3 2), .int 0, .ref (u_3 3), .int 0, .ref (u_3 4), .int 0, .ref (u_3 5)])), ((u_3 4), .inr (5, [.ref (u_3 6), .ref (u_3 7), .int 0, .ref (u_3 8), .int 0])), ((u_3 5), .inl (cy 2, 12, .inl (fun _ => 0))), (q_4, .inr (9, [.ref (u_5 0), .ref (u_5 1), .ref (u_5 2), .int 0, .ref (u_5 3), .int 0, .ref (u_5 4), .int 0, .ref (u_5 5)])), ((u_5 4), .inr (5, [.ref (u_5 6), .ref (u_5 7), .int 0, .ref (u_5 8), .int 0])), ((u_5 5), .inl (cy 2, 12, .inl (fun _ => 0))), (q_6, .inr (7, [.ref (u_7 0), .int 0, .int 0, .ref (u_7 1), .int 0])), ((u_7 0), .inr (8, [.ref (u_7 2), .ref (u_7 3), .int 0])), ((u_7 2), .inl (cy 0, 40, .inl (fun _ => 0))), ((u_7 3), .inl (cy 0, 40, .inl (fun _ => 0))), ((u_7 1), .inl (cy 0, 8, .inl (fun _ => 0))), (q_8, .inl (cy 7, 3, .inr (.inr (.inr (.inr (fun _ => none)))))), (q_9, .inr (2, [.ref (u_10 0), .ref (u_10 1), .ref (u_10 2), .ref (u_10 3), .int 0])), (q_11, .inr (10, [.ref (u_12 0), .ref (u_12 1), .ref (u_12 2), .ref (u_12 3), .ref (u_12 4), .int 0])), (q_13, .inr (1, [.ref (u_14 0), .int 0, .int 0]))] := hD
  refine lv_aload_n hx hb dX11_init_92 rfl (lv_at hl 0 rfl) ?_
  refine va_new (ci := 3) (fs := [.null, .null, .int 0, .null, .null, .null, .int 0]) (C := RX3) (T := TX3) (N := 7) hx hb ht iX3 tyX3 tyX3_ok hown (ht _ k_106) (ht _ k_107) (ht _ k_108) hK hP hD hS hA rfl df3 (Nat.le_of_ble_eq_true rfl) (Nat.le_of_ble_eq_true rfl) dX11_init_93 (fun q_15 H hP hD hS => ?_)
  refine lv_dup hx hb dX11_init_96 rfl ?_
  have hFc := fr_lastF hD hS hA
  have hPc := fr_lastP hP
  refine va_callv (va_runIN (As := []) (rest := [.ref q_15, .ref h]) ⟨hx, hb, hml, hown, ht⟩ (c_Laying l G cy _ q_15 ) ⟨va_cnB (host := "TuneLocks") 0 ht (gc k_109) rfl rfl rfl (hN.1 _ ns_63) (ht _ k_108) (by decide +kernel) ⟨Nat.le_of_ble_eq_true rfl, Nat.le_of_ble_eq_true rfl⟩, rfl, ht _ k_110⟩ ⟨En.blind, fun U hU hW => ⟨rfl, En.of hU hW hPc hK (fr_lastD (ws := [])) hN⟩⟩ rfl rfl hl.1 rfl (lv_room (Nat.le_of_ble_eq_true rfl)) dX11_init_97 ⟨Nat.le_of_ble_eq_true rfl, Nat.le_of_ble_eq_true rfl⟩) hS (fun q _ h => hFc q h) hFc (fun u_16 t H locs ht9 hvm hw hB hz1 hk1 hS => ?_)
  obtain ⟨hP1, hD1⟩ := hB
  rw [ht9] at hP1
  obtain ⟨hP, hD⟩ := fr_last hP hD hFc hk1 hP1 hD1
  clear hFc hPc hP1 hD1 hz1 hk1
  have hP : va_P G vwCl [(h, .inr (11, [.ref q_1, .int 0, .ref q_2, .ref q_4, .int 0, .int (-1), .ref q_6, .ref q_8, .ref q_9, .ref q_11, .int 0, .ref q_13, .null, .null])), (q_1, .inl (cy 1, 1700, .inl (fun _ => 0))), (q_2, .inr (9, [.ref (u_3 0), .ref (u_3 1), .ref (u_3 2), .int 0, .ref (u_3 3), .int 0, .ref (u_3 4), .int 0, .ref (u_3 5)])), ((u_3 4), .inr (5, [.ref (u_3 6), .ref (u_3 7), .int 0, .ref (u_3 8), .int 0])), ((u_3 5), .inl (cy 2, 12, .inl (fun _ => 0))), (q_4, .inr (9, [.ref (u_5 0), .ref (u_5 1), .ref (u_5 2), .int 0, .ref (u_5 3), .int 0, .ref (u_5 4), .int 0, .ref (u_5 5)])), ((u_5 4), .inr (5, [.ref (u_5 6), .ref (u_5 7), .int 0, .ref (u_5 8), .int 0])), ((u_5 5), .inl (cy 2, 12, .inl (fun _ => 0))), (q_6, .inr (7, [.ref (u_7 0), .int 0, .int 0, .ref (u_7 1), .int 0])), ((u_7 0), .inr (8, [.ref (u_7 2), .ref (u_7 3), .int 0])), ((u_7 2), .inl (cy 0, 40, .inl (fun _ => 0))), ((u_7 3), .inl (cy 0, 40, .inl (fun _ => 0))), ((u_7 1), .inl (cy 0, 8, .inl (fun _ => 0))), (q_8, .inl (cy 7, 3, .inr (.inr (.inr (.inr (fun _ => none)))))), (q_9, .inr (2, [.ref (u_10 0), .ref (u_10 1), .ref (u_10 2), .ref (u_10 3), .int 0])), (q_11, .inr (10, [.ref (u_12 0), .ref (u_12 1), .ref (u_12 2), .ref (u_12 3), .ref (u_12 4), .int 0])), (q_13, .inr (1, [.ref (u_14 0), .int 0, .int 0])), (q_15, .inr (3, [.ref (u_16 0), .ref (u_16 1), .int 0, .ref (u_16 2), .ref (u_16 3), .ref (u_16 4), .int 0])), ((u_16 3), .inl (cy 0, 6, .inl (fun _ => 0))), ((u_16 4), .inl (cy 0, 6, .inl (fun _ => 0)))] H := hP
  have hD : va_D A [(h, .inr (11, [.ref q_1, .int 0, .ref q_2, .ref q_4, .int 0, .int (-1), .ref q_6, .ref q_8, .ref q_9, .ref q_11, .int 0, .ref q_13, .null, .null])), (q_1, .inl (cy 1, 1700, .inl (fun _ => 0))), (q_2, .inr (9, [.ref (u_3 0), .ref (u_3 1), .ref (u_3 2), .int 0, .ref (u_3 3), .int 0, .ref (u_3 4), .int 0, .ref (u_3 5)])), ((u_3 4), .inr (5, [.ref (u_3 6), .ref (u_3 7), .int 0, .ref (u_3 8), .int 0])), ((u_3 5), .inl (cy 2, 12, .inl (fun _ => 0))), (q_4, .inr (9, [.ref (u_5 0), .ref (u_5 1), .ref (u_5 2), .int 0, .ref (u_5 3), .int 0, .ref (u_5 4), .int 0, .ref (u_5 5)])), ((u_5 4), .inr (5, [.ref (u_5 6), .ref (u_5 7), .int 0, .ref (u_5 8), .int 0])), ((u_5 5), .inl (cy 2, 12, .inl (fun _ => 0))), (q_6, .inr (7, [.ref (u_7 0), .int 0, .int 0, .ref (u_7 1), .int 0])), ((u_7 0), .inr (8, [.ref (u_7 2), .ref (u_7 3), .int 0])), ((u_7 2), .inl (cy 0, 40, .inl (fun _ => 0))), ((u_7 3), .inl (cy 0, 40, .inl (fun _ => 0))), ((u_7 1), .inl (cy 0, 8, .inl (fun _ => 0))), (q_8, .inl (cy 7, 3, .inr (.inr (.inr (.inr (fun _ => none)))))), (q_9, .inr (2, [.ref (u_10 0), .ref (u_10 1), .ref (u_10 2), .ref (u_10 3), .int 0])), (q_11, .inr (10, [.ref (u_12 0), .ref (u_12 1), .ref (u_12 2), .ref (u_12 3), .ref (u_12 4), .int 0])), (q_13, .inr (1, [.ref (u_14 0), .int 0, .int 0])), (q_15, .inr (3, [.ref (u_16 0), .ref (u_16 1), .int 0, .ref (u_16 2), .ref (u_16 3), .ref (u_16 4), .int 0])), ((u_16 3), .inl (cy 0, 6, .inl (fun _ => 0))), ((u_16 4), .inl (cy 0, 6, .inl (fun _ => 0)))] := hD
  refine va_putF (ci := 11) (v := .ref q_15) (ty := .object "TuneLocks$Laying") (C := RX11) (T := TX11) (N := 14) hx hb ht iX11 tyX11 tyX11_ok nmX11 hown hK hP hD hS 0 rfl rfl 12 (by decide) (ht _ k_111) (fun _ h9 => h9) rfl hin rfl (by decide +kernel) rfl rfl (Nat.le_of_ble_eq_true rfl) dX11_init_100 (fun H locs hP hD hS => ?_)
  have hP : va_P G vwCl [(h, .inr (11, [.ref q_1, .int 0, .ref q_2, .ref q_4, .int 0, .int (-1), .ref q_6, .ref q_8, .ref q_9, .ref q_11, .int 0, .ref q_13, .ref q_15, .null])), (q_1, .inl (cy 1, 1700, .inl (fun _ => 0))), (q_2, .inr (9, [.ref (u_3 0), .ref (u_3 1), .ref (u_3 2), .int 0, .ref (u_3 3), .int 0, .ref (u_3 4), .int 0, .ref (u_3 5)])), ((u_3 4), .inr (5, [.ref (u_3 6), .ref (u_3 7), .int 0, .ref (u_3 8), .int 0])), ((u_3 5), .inl (cy 2, 12, .inl (fun _ => 0))), (q_4, .inr (9, [.ref (u_5 0), .ref (u_5 1), .ref (u_5 2), .int 0, .ref (u_5 3), .int 0, .ref (u_5 4), .int 0, .ref (u_5 5)])), ((u_5 4), .inr (5, [.ref (u_5 6), .ref (u_5 7), .int 0, .ref (u_5 8), .int 0])), ((u_5 5), .inl (cy 2, 12, .inl (fun _ => 0))), (q_6, .inr (7, [.ref (u_7 0), .int 0, .int 0, .ref (u_7 1), .int 0])), ((u_7 0), .inr (8, [.ref (u_7 2), .ref (u_7 3), .int 0])), ((u_7 2), .inl (cy 0, 40, .inl (fun _ => 0))), ((u_7 3), .inl (cy 0, 40, .inl (fun _ => 0))), ((u_7 1), .inl (cy 0, 8, .inl (fun _ => 0))), (q_8, .inl (cy 7, 3, .inr (.inr (.inr (.inr (fun _ => none)))))), (q_9, .inr (2, [.ref (u_10 0), .ref (u_10 1), .ref (u_10 2), .ref (u_10 3), .int 0])), (q_11, .inr (10, [.ref (u_12 0), .ref (u_12 1), .ref (u_12 2), .ref (u_12 3), .ref (u_12 4), .int 0])), (q_13, .inr (1, [.ref (u_14 0), .int 0, .int 0])), (q_15, .inr (3, [.ref (u_16 0), .ref (u_16 1), .int 0, .ref (u_16 2), .ref (u_16 3), .ref (u_16 4), .int 0])), ((u_16 3), .inl (cy 0, 6, .inl (fun _ => 0))), ((u_16 4), .inl (cy 0, 6, .inl (fun _ => 0)))] H := hP
  have hD : va_D A [(h, .inr (11, [.ref q_1, .int 0, .ref q_2, .ref q_4, .int 0, .int (-1), .ref q_6, .ref q_8, .ref q_9, .ref q_11, .int 0, .ref q_13, .ref q_15, .null])), (q_1, .inl (cy 1, 1700, .inl (fun _ => 0))), (q_2, .inr (9, [.ref (u_3 0), .ref (u_3 1), .ref (u_3 2), .int 0, .ref (u_3 3), .int 0, .ref (u_3 4), .int 0, .ref (u_3 5)])), ((u_3 4), .inr (5, [.ref (u_3 6), .ref (u_3 7), .int 0, .ref (u_3 8), .int 0])), ((u_3 5), .inl (cy 2, 12, .inl (fun _ => 0))), (q_4, .inr (9, [.ref (u_5 0), .ref (u_5 1), .ref (u_5 2), .int 0, .ref (u_5 3), .int 0, .ref (u_5 4), .int 0, .ref (u_5 5)])), ((u_5 4), .inr (5, [.ref (u_5 6), .ref (u_5 7), .int 0, .ref (u_5 8), .int 0])), ((u_5 5), .inl (cy 2, 12, .inl (fun _ => 0))), (q_6, .inr (7, [.ref (u_7 0), .int 0, .int 0, .ref (u_7 1), .int 0])), ((u_7 0), .inr (8, [.ref (u_7 2), .ref (u_7 3), .int 0])), ((u_7 2), .inl (cy 0, 40, .inl (fun _ => 0))), ((u_7 3), .inl (cy 0, 40, .inl (fun _ => 0))), ((u_7 1), .inl (cy 0, 8, .inl (fun _ => 0))), (q_8, .inl (cy 7, 3, .inr (.inr (.inr (.inr (fun _ => none)))))), (q_9, .inr (2, [.ref (u_10 0), .ref (u_10 1), .ref (u_10 2), .ref (u_10 3), .int 0])), (q_11, .inr (10, [.ref (u_12 0), .ref (u_12 1), .ref (u_12 2), .ref (u_12 3), .ref (u_12 4), .int 0])), (q_13, .inr (1, [.ref (u_14 0), .int 0, .int 0])), (q_15, .inr (3, [.ref (u_16 0), .ref (u_16 1), .int 0, .ref (u_16 2), .ref (u_16 3), .ref (u_16 4), .int 0])), ((u_16 3), .inl (cy 0, 6, .inl (fun _ => 0))), ((u_16 4), .inl (cy 0, 6, .inl (fun _ => 0)))] := hD
  refine lv_aload_n hx hb dX11_init_103 rfl (lv_at hl 0 rfl) ?_
  refine va_new (ci := 0) (fs := [.null, .int 0]) (C := RX0) (T := TX0) (N := 2) hx hb ht iX0 tyX0 tyX0_ok hown (ht _ k_112) (ht _ k_113) (ht _ k_114) hK hP hD hS hA rfl df0 (Nat.le_of_ble_eq_true rfl) (Nat.le_of_ble_eq_true rfl) dX11_init_104 (fun q_17 H hP hD hS => ?_)
  refine lv_dup hx hb dX11_init_107 rfl ?_
  have hFc := fr_lastF hD hS hA
  have hPc := fr_lastP hP
  refine va_callv (va_runIN (As := []) (rest := [.ref q_17, .ref h]) ⟨hx, hb, hml, hown, ht⟩ (c_Canon l G cy _ q_17 ) ⟨va_cnB (host := "TuneLocks") 0 ht (gc k_115) rfl rfl rfl (hN.1 _ ns_64) (ht _ k_114) (by decide +kernel) ⟨Nat.le_of_ble_eq_true rfl, Nat.le_of_ble_eq_true rfl⟩, rfl, ht _ k_116⟩ ⟨En.blind, fun U hU hW => ⟨rfl, En.of hU hW hPc hK (fr_lastD (ws := [])) hN⟩⟩ rfl rfl hl.1 rfl (lv_room (Nat.le_of_ble_eq_true rfl)) dX11_init_108 ⟨Nat.le_of_ble_eq_true rfl, Nat.le_of_ble_eq_true rfl⟩) hS (fun q _ h => hFc q h) hFc (fun u_18 t H locs ht9 hvm hw hB hz1 hk1 hS => ?_)
  obtain ⟨hP1, hD1⟩ := hB
  rw [ht9] at hP1
  obtain ⟨hP, hD⟩ := fr_last hP hD hFc hk1 hP1 hD1
  clear hFc hPc hP1 hD1 hz1 hk1
  have hP : va_P G vwCl [(h, .inr (11, [.ref q_1, .int 0, .ref q_2, .ref q_4, .int 0, .int (-1), .ref q_6, .ref q_8, .ref q_9, .ref q_11, .int 0, .ref q_13, .ref q_15, .null])), (q_1, .inl (cy 1, 1700, .inl (fun _ => 0))), (q_2, .inr (9, [.ref (u_3 0), .ref (u_3 1), .ref (u_3 2), .int 0, .ref (u_3 3), .int 0, .ref (u_3 4), .int 0, .ref (u_3 5)])), ((u_3 4), .inr (5, [.ref (u_3 6), .ref (u_3 7), .int 0, .ref (u_3 8), .int 0])), ((u_3 5), .inl (cy 2, 12, .inl (fun _ => 0))), (q_4, .inr (9, [.ref (u_5 0), .ref (u_5 1), .ref (u_5 2), .int 0, .ref (u_5 3), .int 0, .ref (u_5 4), .int 0, .ref (u_5 5)])), ((u_5 4), .inr (5, [.ref (u_5 6), .ref (u_5 7), .int 0, .ref (u_5 8), .int 0])), ((u_5 5), .inl (cy 2, 12, .inl (fun _ => 0))), (q_6, .inr (7, [.ref (u_7 0), .int 0, .int 0, .ref (u_7 1), .int 0])), ((u_7 0), .inr (8, [.ref (u_7 2), .ref (u_7 3), .int 0])), ((u_7 2), .inl (cy 0, 40, .inl (fun _ => 0))), ((u_7 3), .inl (cy 0, 40, .inl (fun _ => 0))), ((u_7 1), .inl (cy 0, 8, .inl (fun _ => 0))), (q_8, .inl (cy 7, 3, .inr (.inr (.inr (.inr (fun _ => none)))))), (q_9, .inr (2, [.ref (u_10 0), .ref (u_10 1), .ref (u_10 2), .ref (u_10 3), .int 0])), (q_11, .inr (10, [.ref (u_12 0), .ref (u_12 1), .ref (u_12 2), .ref (u_12 3), .ref (u_12 4), .int 0])), (q_13, .inr (1, [.ref (u_14 0), .int 0, .int 0])), (q_15, .inr (3, [.ref (u_16 0), .ref (u_16 1), .int 0, .ref (u_16 2), .ref (u_16 3), .ref (u_16 4), .int 0])), ((u_16 3), .inl (cy 0, 6, .inl (fun _ => 0))), ((u_16 4), .inl (cy 0, 6, .inl (fun _ => 0))), (q_17, .inr (0, [.ref (u_18 0), .int 0]))] H := hP
  have hD : va_D A [(h, .inr (11, [.ref q_1, .int 0, .ref q_2, .ref q_4, .int 0, .int (-1), .ref q_6, .ref q_8, .ref q_9, .ref q_11, .int 0, .ref q_13, .ref q_15, .null])), (q_1, .inl (cy 1, 1700, .inl (fun _ => 0))), (q_2, .inr (9, [.ref (u_3 0), .ref (u_3 1), .ref (u_3 2), .int 0, .ref (u_3 3), .int 0, .ref (u_3 4), .int 0, .ref (u_3 5)])), ((u_3 4), .inr (5, [.ref (u_3 6), .ref (u_3 7), .int 0, .ref (u_3 8), .int 0])), ((u_3 5), .inl (cy 2, 12, .inl (fun _ => 0))), (q_4, .inr (9, [.ref (u_5 0), .ref (u_5 1), .ref (u_5 2), .int 0, .ref (u_5 3), .int 0, .ref (u_5 4), .int 0, .ref (u_5 5)])), ((u_5 4), .inr (5, [.ref (u_5 6), .ref (u_5 7), .int 0, .ref (u_5 8), .int 0])), ((u_5 5), .inl (cy 2, 12, .inl (fun _ => 0))), (q_6, .inr (7, [.ref (u_7 0), .int 0, .int 0, .ref (u_7 1), .int 0])), ((u_7 0), .inr (8, [.ref (u_7 2), .ref (u_7 3), .int 0])), ((u_7 2), .inl (cy 0, 40, .inl (fun _ => 0))), ((u_7 3), .inl (cy 0, 40, .inl (fun _ => 0))), ((u_7 1), .inl (cy 0, 8, .inl (fun _ => 0))), (q_8, .inl (cy 7, 3, .inr (.inr (.inr (.inr (fun _ => none)))))), (q_9, .inr (2, [.ref (u_10 0), .ref (u_10 1), .ref (u_10 2), .ref (u_10 3), .int 0])), (q_11, .inr (10, [.ref (u_12 0), .ref (u_12 1), .ref (u_12 2), .ref (u_12 3), .ref (u_12 4), .int 0])), (q_13, .inr (1, [.ref (u_14 0), .int 0, .int 0])), (q_15, .inr (3, [.ref (u_16 0), .ref (u_16 1), .int 0, .ref (u_16 2), .ref (u_16 3), .ref (u_16 4), .int 0])), ((u_16 3), .inl (cy 0, 6, .inl (fun _ => 0))), ((u_16 4), .inl (cy 0, 6, .inl (fun _ => 0))), (q_17, .inr (0, [.ref (u_18 0), .int 0]))] := hD
  refine va_putF (ci := 11) (v := .ref q_17) (ty := .object "TuneLocks$Canon") (C := RX11) (T := TX11) (N := 14) hx hb ht iX11 tyX11 tyX11_ok nmX11 hown hK hP hD hS 0 rfl rfl 13 (by decide) (ht _ k_117) (fun _ h9 => h9) rfl hin rfl (by decide +kernel) rfl rfl (Nat.le_of_ble_eq_true rfl) dX11_init_111 (fun H locs hP hD hS => ?_)
  have hP : va_P G vwCl [(h, .inr (11, [.ref q_1, .int 0, .ref q_2, .ref q_4, .int 0, .int (-1), .ref q_6, .ref q_8, .ref q_9, .ref q_11, .int 0, .ref q_13, .ref q_15, .ref q_17])), (q_1, .inl (cy 1, 1700, .inl (fun _ => 0))), (q_2, .inr (9, [.ref (u_3 0), .ref (u_3 1), .ref (u_3 2), .int 0, .ref (u_3 3), .int 0, .ref (u_3 4), .int 0, .ref (u_3 5)])), ((u_3 4), .inr (5, [.ref (u_3 6), .ref (u_3 7), .int 0, .ref (u_3 8), .int 0])), ((u_3 5), .inl (cy 2, 12, .inl (fun _ => 0))), (q_4, .inr (9, [.ref (u_5 0), .ref (u_5 1), .ref (u_5 2), .int 0, .ref (u_5 3), .int 0, .ref (u_5 4), .int 0, .ref (u_5 5)])), ((u_5 4), .inr (5, [.ref (u_5 6), .ref (u_5 7), .int 0, .ref (u_5 8), .int 0])), ((u_5 5), .inl (cy 2, 12, .inl (fun _ => 0))), (q_6, .inr (7, [.ref (u_7 0), .int 0, .int 0, .ref (u_7 1), .int 0])), ((u_7 0), .inr (8, [.ref (u_7 2), .ref (u_7 3), .int 0])), ((u_7 2), .inl (cy 0, 40, .inl (fun _ => 0))), ((u_7 3), .inl (cy 0, 40, .inl (fun _ => 0))), ((u_7 1), .inl (cy 0, 8, .inl (fun _ => 0))), (q_8, .inl (cy 7, 3, .inr (.inr (.inr (.inr (fun _ => none)))))), (q_9, .inr (2, [.ref (u_10 0), .ref (u_10 1), .ref (u_10 2), .ref (u_10 3), .int 0])), (q_11, .inr (10, [.ref (u_12 0), .ref (u_12 1), .ref (u_12 2), .ref (u_12 3), .ref (u_12 4), .int 0])), (q_13, .inr (1, [.ref (u_14 0), .int 0, .int 0])), (q_15, .inr (3, [.ref (u_16 0), .ref (u_16 1), .int 0, .ref (u_16 2), .ref (u_16 3), .ref (u_16 4), .int 0])), ((u_16 3), .inl (cy 0, 6, .inl (fun _ => 0))), ((u_16 4), .inl (cy 0, 6, .inl (fun _ => 0))), (q_17, .inr (0, [.ref (u_18 0), .int 0]))] H := hP
  have hD : va_D A [(h, .inr (11, [.ref q_1, .int 0, .ref q_2, .ref q_4, .int 0, .int (-1), .ref q_6, .ref q_8, .ref q_9, .ref q_11, .int 0, .ref q_13, .ref q_15, .ref q_17])), (q_1, .inl (cy 1, 1700, .inl (fun _ => 0))), (q_2, .inr (9, [.ref (u_3 0), .ref (u_3 1), .ref (u_3 2), .int 0, .ref (u_3 3), .int 0, .ref (u_3 4), .int 0, .ref (u_3 5)])), ((u_3 4), .inr (5, [.ref (u_3 6), .ref (u_3 7), .int 0, .ref (u_3 8), .int 0])), ((u_3 5), .inl (cy 2, 12, .inl (fun _ => 0))), (q_4, .inr (9, [.ref (u_5 0), .ref (u_5 1), .ref (u_5 2), .int 0, .ref (u_5 3), .int 0, .ref (u_5 4), .int 0, .ref (u_5 5)])), ((u_5 4), .inr (5, [.ref (u_5 6), .ref (u_5 7), .int 0, .ref (u_5 8), .int 0])), ((u_5 5), .inl (cy 2, 12, .inl (fun _ => 0))), (q_6, .inr (7, [.ref (u_7 0), .int 0, .int 0, .ref (u_7 1), .int 0])), ((u_7 0), .inr (8, [.ref (u_7 2), .ref (u_7 3), .int 0])), ((u_7 2), .inl (cy 0, 40, .inl (fun _ => 0))), ((u_7 3), .inl (cy 0, 40, .inl (fun _ => 0))), ((u_7 1), .inl (cy 0, 8, .inl (fun _ => 0))), (q_8, .inl (cy 7, 3, .inr (.inr (.inr (.inr (fun _ => none)))))), (q_9, .inr (2, [.ref (u_10 0), .ref (u_10 1), .ref (u_10 2), .ref (u_10 3), .int 0])), (q_11, .inr (10, [.ref (u_12 0), .ref (u_12 1), .ref (u_12 2), .ref (u_12 3), .ref (u_12 4), .int 0])), (q_13, .inr (1, [.ref (u_14 0), .int 0, .int 0])), (q_15, .inr (3, [.ref (u_16 0), .ref (u_16 1), .int 0, .ref (u_16 2), .ref (u_16 3), .ref (u_16 4), .int 0])), ((u_16 3), .inl (cy 0, 6, .inl (fun _ => 0))), ((u_16 4), .inl (cy 0, 6, .inl (fun _ => 0))), (q_17, .inr (0, [.ref (u_18 0), .int 0]))] := hD
  refine lv_iconst (v := 0) hx hb dX11_init_114 (by decide) ?_
  refine lv_istore_n (lv' := [(1, .int 0), (0, .ref h)]) hx hb dX11_init_115 rfl hl (by decide) rfl (fun ls hl => ?_)
  refine lv_iload_n hx hb dX11_init_116 rfl (lv_at hl 0 rfl) ?_
  refine lv_aload_n hx hb dX11_init_117 rfl (lv_at hl 1 rfl) ?_
  refine va_get (ci := 11) (v := .ref q_8) (C := RX11) (T := TX11) (N := 14) hx hb ht iX11 hown hK hP 0 rfl rfl 7 (by decide) (ht _ k_91) (fun _ h9 => h9) rfl dX11_init_118 ?_
  refine va_alen (v := 3) hx hb hK hP 13 7 rfl rfl rfl dX11_init_121 ?_
  refine lv_icmp_ge (tgt := 144) hx hb dX11_init_122 (by decide) (fun c9 => absurd c9 (by decide)) (fun _ => ?_)
  refine lv_aload_n hx hb dX11_init_125 rfl (lv_at hl 1 rfl) ?_
  refine va_get (ci := 11) (v := .ref q_8) (C := RX11) (T := TX11) (N := 14) hx hb ht iX11 hown hK hP 0 rfl rfl 7 (by decide) (ht _ k_91) (fun _ h9 => h9) rfl dX11_init_126 ?_
  refine lv_iload_n hx hb dX11_init_129 rfl (lv_at hl 0 rfl) ?_
  refine va_new (ci := 7) (fs := [.null, .int 0, .int 0, .null, .int 0]) (C := RX7) (T := TX7) (N := 5) hx hb ht iX7 tyX7 tyX7_ok hown (ht _ k_85) (ht _ k_86) (ht _ k_87) hK hP hD hS hA rfl df7 (Nat.le_of_ble_eq_true rfl) (Nat.le_of_ble_eq_true rfl) dX11_init_130 (fun q_19 H hP hD hS => ?_)
  refine lv_dup hx hb dX11_init_133 rfl ?_
  have hFc := fr_lastF hD hS hA
  have hPc := fr_lastP hP
  refine va_callv (va_runIN (As := []) (rest := [.ref q_19, .int 0, .ref q_8]) ⟨hx, hb, hml, hown, ht⟩ (c_Scene l G cy _ q_19 ) ⟨va_cnB (host := "TuneLocks") 0 ht (gc k_88) rfl rfl rfl (hN.1 _ ns_59) (ht _ k_87) (by decide +kernel) ⟨Nat.le_of_ble_eq_true rfl, Nat.le_of_ble_eq_true rfl⟩, rfl, ht _ k_89⟩ ⟨En.blind, fun U hU hW => ⟨rfl, En.of hU hW hPc hK (fr_lastD (ws := [])) hN⟩⟩ rfl rfl hl.1 rfl (lv_room (Nat.le_of_ble_eq_true rfl)) dX11_init_134 ⟨Nat.le_of_ble_eq_true rfl, Nat.le_of_ble_eq_true rfl⟩) hS (fun q _ h => hFc q h) hFc (fun u_20 t H locs ht9 hvm hw hB hz1 hk1 hS => ?_)
  obtain ⟨hP1, hD1⟩ := hB
  rw [ht9] at hP1
  obtain ⟨hP, hD⟩ := fr_last hP hD hFc hk1 hP1 hD1
  clear hFc hPc hP1 hD1 hz1 hk1
  have hP : va_P G vwCl [(h, .inr (11, [.ref q_1, .int 0, .ref q_2, .ref q_4, .int 0, .int (-1), .ref q_6, .ref q_8, .ref q_9, .ref q_11, .int 0, .ref q_13, .ref q_15, .ref q_17])), (q_1, .inl (cy 1, 1700, .inl (fun _ => 0))), (q_2, .inr (9, [.ref (u_3 0), .ref (u_3 1), .ref (u_3 2), .int 0, .ref (u_3 3), .int 0, .ref (u_3 4), .int 0, .ref (u_3 5)])), ((u_3 4), .inr (5, [.ref (u_3 6), .ref (u_3 7), .int 0, .ref (u_3 8), .int 0])), ((u_3 5), .inl (cy 2, 12, .inl (fun _ => 0))), (q_4, .inr (9, [.ref (u_5 0), .ref (u_5 1), .ref (u_5 2), .int 0, .ref (u_5 3), .int 0, .ref (u_5 4), .int 0, .ref (u_5 5)])), ((u_5 4), .inr (5, [.ref (u_5 6), .ref (u_5 7), .int 0, .ref (u_5 8), .int 0])), ((u_5 5), .inl (cy 2, 12, .inl (fun _ => 0))), (q_6, .inr (7, [.ref (u_7 0), .int 0, .int 0, .ref (u_7 1), .int 0])), ((u_7 0), .inr (8, [.ref (u_7 2), .ref (u_7 3), .int 0])), ((u_7 2), .inl (cy 0, 40, .inl (fun _ => 0))), ((u_7 3), .inl (cy 0, 40, .inl (fun _ => 0))), ((u_7 1), .inl (cy 0, 8, .inl (fun _ => 0))), (q_8, .inl (cy 7, 3, .inr (.inr (.inr (.inr (fun _ => none)))))), (q_9, .inr (2, [.ref (u_10 0), .ref (u_10 1), .ref (u_10 2), .ref (u_10 3), .int 0])), (q_11, .inr (10, [.ref (u_12 0), .ref (u_12 1), .ref (u_12 2), .ref (u_12 3), .ref (u_12 4), .int 0])), (q_13, .inr (1, [.ref (u_14 0), .int 0, .int 0])), (q_15, .inr (3, [.ref (u_16 0), .ref (u_16 1), .int 0, .ref (u_16 2), .ref (u_16 3), .ref (u_16 4), .int 0])), ((u_16 3), .inl (cy 0, 6, .inl (fun _ => 0))), ((u_16 4), .inl (cy 0, 6, .inl (fun _ => 0))), (q_17, .inr (0, [.ref (u_18 0), .int 0])), (q_19, .inr (7, [.ref (u_20 0), .int 0, .int 0, .ref (u_20 1), .int 0])), ((u_20 0), .inr (8, [.ref (u_20 2), .ref (u_20 3), .int 0])), ((u_20 2), .inl (cy 0, 40, .inl (fun _ => 0))), ((u_20 3), .inl (cy 0, 40, .inl (fun _ => 0))), ((u_20 1), .inl (cy 0, 8, .inl (fun _ => 0)))] H := hP
  have hD : va_D A [(h, .inr (11, [.ref q_1, .int 0, .ref q_2, .ref q_4, .int 0, .int (-1), .ref q_6, .ref q_8, .ref q_9, .ref q_11, .int 0, .ref q_13, .ref q_15, .ref q_17])), (q_1, .inl (cy 1, 1700, .inl (fun _ => 0))), (q_2, .inr (9, [.ref (u_3 0), .ref (u_3 1), .ref (u_3 2), .int 0, .ref (u_3 3), .int 0, .ref (u_3 4), .int 0, .ref (u_3 5)])), ((u_3 4), .inr (5, [.ref (u_3 6), .ref (u_3 7), .int 0, .ref (u_3 8), .int 0])), ((u_3 5), .inl (cy 2, 12, .inl (fun _ => 0))), (q_4, .inr (9, [.ref (u_5 0), .ref (u_5 1), .ref (u_5 2), .int 0, .ref (u_5 3), .int 0, .ref (u_5 4), .int 0, .ref (u_5 5)])), ((u_5 4), .inr (5, [.ref (u_5 6), .ref (u_5 7), .int 0, .ref (u_5 8), .int 0])), ((u_5 5), .inl (cy 2, 12, .inl (fun _ => 0))), (q_6, .inr (7, [.ref (u_7 0), .int 0, .int 0, .ref (u_7 1), .int 0])), ((u_7 0), .inr (8, [.ref (u_7 2), .ref (u_7 3), .int 0])), ((u_7 2), .inl (cy 0, 40, .inl (fun _ => 0))), ((u_7 3), .inl (cy 0, 40, .inl (fun _ => 0))), ((u_7 1), .inl (cy 0, 8, .inl (fun _ => 0))), (q_8, .inl (cy 7, 3, .inr (.inr (.inr (.inr (fun _ => none)))))), (q_9, .inr (2, [.ref (u_10 0), .ref (u_10 1), .ref (u_10 2), .ref (u_10 3), .int 0])), (q_11, .inr (10, [.ref (u_12 0), .ref (u_12 1), .ref (u_12 2), .ref (u_12 3), .ref (u_12 4), .int 0])), (q_13, .inr (1, [.ref (u_14 0), .int 0, .int 0])), (q_15, .inr (3, [.ref (u_16 0), .ref (u_16 1), .int 0, .ref (u_16 2), .ref (u_16 3), .ref (u_16 4), .int 0])), ((u_16 3), .inl (cy 0, 6, .inl (fun _ => 0))), ((u_16 4), .inl (cy 0, 6, .inl (fun _ => 0))), (q_17, .inr (0, [.ref (u_18 0), .int 0])), (q_19, .inr (7, [.ref (u_20 0), .int 0, .int 0, .ref (u_20 1), .int 0])), ((u_20 0), .inr (8, [.ref (u_20 2), .ref (u_20 3), .int 0])), ((u_20 2), .inl (cy 0, 40, .inl (fun _ => 0))), ((u_20 3), .inl (cy 0, 40, .inl (fun _ => 0))), ((u_20 1), .inl (cy 0, 8, .inl (fun _ => 0)))] := hD
  refine va_astq hx hb hK hP hD hS 13 7 21 7 rfl rfl rfl rfl (in_lit (by decide +kernel)) dX11_init_137 (fun H locs hP hD hS => ?_)
  have hP : va_P G vwCl [(h, .inr (11, [.ref q_1, .int 0, .ref q_2, .ref q_4, .int 0, .int (-1), .ref q_6, .ref q_8, .ref q_9, .ref q_11, .int 0, .ref q_13, .ref q_15, .ref q_17])), (q_1, .inl (cy 1, 1700, .inl (fun _ => 0))), (q_2, .inr (9, [.ref (u_3 0), .ref (u_3 1), .ref (u_3 2), .int 0, .ref (u_3 3), .int 0, .ref (u_3 4), .int 0, .ref (u_3 5)])), ((u_3 4), .inr (5, [.ref (u_3 6), .ref (u_3 7), .int 0, .ref (u_3 8), .int 0])), ((u_3 5), .inl (cy 2, 12, .inl (fun _ => 0))), (q_4, .inr (9, [.ref (u_5 0), .ref (u_5 1), .ref (u_5 2), .int 0, .ref (u_5 3), .int 0, .ref (u_5 4), .int 0, .ref (u_5 5)])), ((u_5 4), .inr (5, [.ref (u_5 6), .ref (u_5 7), .int 0, .ref (u_5 8), .int 0])), ((u_5 5), .inl (cy 2, 12, .inl (fun _ => 0))), (q_6, .inr (7, [.ref (u_7 0), .int 0, .int 0, .ref (u_7 1), .int 0])), ((u_7 0), .inr (8, [.ref (u_7 2), .ref (u_7 3), .int 0])), ((u_7 2), .inl (cy 0, 40, .inl (fun _ => 0))), ((u_7 3), .inl (cy 0, 40, .inl (fun _ => 0))), ((u_7 1), .inl (cy 0, 8, .inl (fun _ => 0))), (q_8, .inl (cy 7, 3, .inr (.inr (.inr (.inr (va_up (fun _ => none) 0 (some q_19))))))), (q_9, .inr (2, [.ref (u_10 0), .ref (u_10 1), .ref (u_10 2), .ref (u_10 3), .int 0])), (q_11, .inr (10, [.ref (u_12 0), .ref (u_12 1), .ref (u_12 2), .ref (u_12 3), .ref (u_12 4), .int 0])), (q_13, .inr (1, [.ref (u_14 0), .int 0, .int 0])), (q_15, .inr (3, [.ref (u_16 0), .ref (u_16 1), .int 0, .ref (u_16 2), .ref (u_16 3), .ref (u_16 4), .int 0])), ((u_16 3), .inl (cy 0, 6, .inl (fun _ => 0))), ((u_16 4), .inl (cy 0, 6, .inl (fun _ => 0))), (q_17, .inr (0, [.ref (u_18 0), .int 0])), (q_19, .inr (7, [.ref (u_20 0), .int 0, .int 0, .ref (u_20 1), .int 0])), ((u_20 0), .inr (8, [.ref (u_20 2), .ref (u_20 3), .int 0])), ((u_20 2), .inl (cy 0, 40, .inl (fun _ => 0))), ((u_20 3), .inl (cy 0, 40, .inl (fun _ => 0))), ((u_20 1), .inl (cy 0, 8, .inl (fun _ => 0)))] H := hP
  have hD : va_D A [(h, .inr (11, [.ref q_1, .int 0, .ref q_2, .ref q_4, .int 0, .int (-1), .ref q_6, .ref q_8, .ref q_9, .ref q_11, .int 0, .ref q_13, .ref q_15, .ref q_17])), (q_1, .inl (cy 1, 1700, .inl (fun _ => 0))), (q_2, .inr (9, [.ref (u_3 0), .ref (u_3 1), .ref (u_3 2), .int 0, .ref (u_3 3), .int 0, .ref (u_3 4), .int 0, .ref (u_3 5)])), ((u_3 4), .inr (5, [.ref (u_3 6), .ref (u_3 7), .int 0, .ref (u_3 8), .int 0])), ((u_3 5), .inl (cy 2, 12, .inl (fun _ => 0))), (q_4, .inr (9, [.ref (u_5 0), .ref (u_5 1), .ref (u_5 2), .int 0, .ref (u_5 3), .int 0, .ref (u_5 4), .int 0, .ref (u_5 5)])), ((u_5 4), .inr (5, [.ref (u_5 6), .ref (u_5 7), .int 0, .ref (u_5 8), .int 0])), ((u_5 5), .inl (cy 2, 12, .inl (fun _ => 0))), (q_6, .inr (7, [.ref (u_7 0), .int 0, .int 0, .ref (u_7 1), .int 0])), ((u_7 0), .inr (8, [.ref (u_7 2), .ref (u_7 3), .int 0])), ((u_7 2), .inl (cy 0, 40, .inl (fun _ => 0))), ((u_7 3), .inl (cy 0, 40, .inl (fun _ => 0))), ((u_7 1), .inl (cy 0, 8, .inl (fun _ => 0))), (q_8, .inl (cy 7, 3, .inr (.inr (.inr (.inr (va_up (fun _ => none) 0 (some q_19))))))), (q_9, .inr (2, [.ref (u_10 0), .ref (u_10 1), .ref (u_10 2), .ref (u_10 3), .int 0])), (q_11, .inr (10, [.ref (u_12 0), .ref (u_12 1), .ref (u_12 2), .ref (u_12 3), .ref (u_12 4), .int 0])), (q_13, .inr (1, [.ref (u_14 0), .int 0, .int 0])), (q_15, .inr (3, [.ref (u_16 0), .ref (u_16 1), .int 0, .ref (u_16 2), .ref (u_16 3), .ref (u_16 4), .int 0])), ((u_16 3), .inl (cy 0, 6, .inl (fun _ => 0))), ((u_16 4), .inl (cy 0, 6, .inl (fun _ => 0))), (q_17, .inr (0, [.ref (u_18 0), .int 0])), (q_19, .inr (7, [.ref (u_20 0), .int 0, .int 0, .ref (u_20 1), .int 0])), ((u_20 0), .inr (8, [.ref (u_20 2), .ref (u_20 3), .int 0])), ((u_20 2), .inl (cy 0, 40, .inl (fun _ => 0))), ((u_20 3), .inl (cy 0, 40, .inl (fun _ => 0))), ((u_20 1), .inl (cy 0, 8, .inl (fun _ => 0)))] := hD
  refine lv_iinc (v := 1) (lv' := [(1, .int 1), (0, .ref h)]) hx hb dX11_init_138 hl (k := 0) rfl (by decide) (by decide) rfl (fun ls hl => ?_)
  refine lv_goto (tgt := 116) hx hb dX11_init_141 (by decide) ?_
  refine lv_iload_n hx hb dX11_init_116 rfl (lv_at hl 0 rfl) ?_
  refine lv_aload_n hx hb dX11_init_117 rfl (lv_at hl 1 rfl) ?_
  refine va_get (ci := 11) (v := .ref q_8) (C := RX11) (T := TX11) (N := 14) hx hb ht iX11 hown hK hP 0 rfl rfl 7 (by decide) (ht _ k_91) (fun _ h9 => h9) rfl dX11_init_118 ?_
  refine va_alen (v := 3) hx hb hK hP 13 7 rfl rfl rfl dX11_init_121 ?_
  refine lv_icmp_ge (tgt := 144) hx hb dX11_init_122 (by decide) (fun c9 => absurd c9 (by decide)) (fun _ => ?_)
  refine lv_aload_n hx hb dX11_init_125 rfl (lv_at hl 1 rfl) ?_
  refine va_get (ci := 11) (v := .ref q_8) (C := RX11) (T := TX11) (N := 14) hx hb ht iX11 hown hK hP 0 rfl rfl 7 (by decide) (ht _ k_91) (fun _ h9 => h9) rfl dX11_init_126 ?_
  refine lv_iload_n hx hb dX11_init_129 rfl (lv_at hl 0 rfl) ?_
  refine va_new (ci := 7) (fs := [.null, .int 0, .int 0, .null, .int 0]) (C := RX7) (T := TX7) (N := 5) hx hb ht iX7 tyX7 tyX7_ok hown (ht _ k_85) (ht _ k_86) (ht _ k_87) hK hP hD hS hA rfl df7 (Nat.le_of_ble_eq_true rfl) (Nat.le_of_ble_eq_true rfl) dX11_init_130 (fun q_21 H hP hD hS => ?_)
  refine lv_dup hx hb dX11_init_133 rfl ?_
  have hFc := fr_lastF hD hS hA
  have hPc := fr_lastP hP
  refine va_callv (va_runIN (As := []) (rest := [.ref q_21, .int 1, .ref q_8]) ⟨hx, hb, hml, hown, ht⟩ (c_Scene l G cy _ q_21 ) ⟨va_cnB (host := "TuneLocks") 0 ht (gc k_88) rfl rfl rfl (hN.1 _ ns_59) (ht _ k_87) (by decide +kernel) ⟨Nat.le_of_ble_eq_true rfl, Nat.le_of_ble_eq_true rfl⟩, rfl, ht _ k_89⟩ ⟨En.blind, fun U hU hW => ⟨rfl, En.of hU hW hPc hK (fr_lastD (ws := [])) hN⟩⟩ rfl rfl hl.1 rfl (lv_room (Nat.le_of_ble_eq_true rfl)) dX11_init_134 ⟨Nat.le_of_ble_eq_true rfl, Nat.le_of_ble_eq_true rfl⟩) hS (fun q _ h => hFc q h) hFc (fun u_22 t H locs ht9 hvm hw hB hz1 hk1 hS => ?_)
  obtain ⟨hP1, hD1⟩ := hB
  rw [ht9] at hP1
  obtain ⟨hP, hD⟩ := fr_last hP hD hFc hk1 hP1 hD1
  clear hFc hPc hP1 hD1 hz1 hk1
  have hP : va_P G vwCl [(h, .inr (11, [.ref q_1, .int 0, .ref q_2, .ref q_4, .int 0, .int (-1), .ref q_6, .ref q_8, .ref q_9, .ref q_11, .int 0, .ref q_13, .ref q_15, .ref q_17])), (q_1, .inl (cy 1, 1700, .inl (fun _ => 0))), (q_2, .inr (9, [.ref (u_3 0), .ref (u_3 1), .ref (u_3 2), .int 0, .ref (u_3 3), .int 0, .ref (u_3 4), .int 0, .ref (u_3 5)])), ((u_3 4), .inr (5, [.ref (u_3 6), .ref (u_3 7), .int 0, .ref (u_3 8), .int 0])), ((u_3 5), .inl (cy 2, 12, .inl (fun _ => 0))), (q_4, .inr (9, [.ref (u_5 0), .ref (u_5 1), .ref (u_5 2), .int 0, .ref (u_5 3), .int 0, .ref (u_5 4), .int 0, .ref (u_5 5)])), ((u_5 4), .inr (5, [.ref (u_5 6), .ref (u_5 7), .int 0, .ref (u_5 8), .int 0])), ((u_5 5), .inl (cy 2, 12, .inl (fun _ => 0))), (q_6, .inr (7, [.ref (u_7 0), .int 0, .int 0, .ref (u_7 1), .int 0])), ((u_7 0), .inr (8, [.ref (u_7 2), .ref (u_7 3), .int 0])), ((u_7 2), .inl (cy 0, 40, .inl (fun _ => 0))), ((u_7 3), .inl (cy 0, 40, .inl (fun _ => 0))), ((u_7 1), .inl (cy 0, 8, .inl (fun _ => 0))), (q_8, .inl (cy 7, 3, .inr (.inr (.inr (.inr (va_up (fun _ => none) 0 (some q_19))))))), (q_9, .inr (2, [.ref (u_10 0), .ref (u_10 1), .ref (u_10 2), .ref (u_10 3), .int 0])), (q_11, .inr (10, [.ref (u_12 0), .ref (u_12 1), .ref (u_12 2), .ref (u_12 3), .ref (u_12 4), .int 0])), (q_13, .inr (1, [.ref (u_14 0), .int 0, .int 0])), (q_15, .inr (3, [.ref (u_16 0), .ref (u_16 1), .int 0, .ref (u_16 2), .ref (u_16 3), .ref (u_16 4), .int 0])), ((u_16 3), .inl (cy 0, 6, .inl (fun _ => 0))), ((u_16 4), .inl (cy 0, 6, .inl (fun _ => 0))), (q_17, .inr (0, [.ref (u_18 0), .int 0])), (q_19, .inr (7, [.ref (u_20 0), .int 0, .int 0, .ref (u_20 1), .int 0])), ((u_20 0), .inr (8, [.ref (u_20 2), .ref (u_20 3), .int 0])), ((u_20 2), .inl (cy 0, 40, .inl (fun _ => 0))), ((u_20 3), .inl (cy 0, 40, .inl (fun _ => 0))), ((u_20 1), .inl (cy 0, 8, .inl (fun _ => 0))), (q_21, .inr (7, [.ref (u_22 0), .int 0, .int 0, .ref (u_22 1), .int 0])), ((u_22 0), .inr (8, [.ref (u_22 2), .ref (u_22 3), .int 0])), ((u_22 2), .inl (cy 0, 40, .inl (fun _ => 0))), ((u_22 3), .inl (cy 0, 40, .inl (fun _ => 0))), ((u_22 1), .inl (cy 0, 8, .inl (fun _ => 0)))] H := hP
  have hD : va_D A [(h, .inr (11, [.ref q_1, .int 0, .ref q_2, .ref q_4, .int 0, .int (-1), .ref q_6, .ref q_8, .ref q_9, .ref q_11, .int 0, .ref q_13, .ref q_15, .ref q_17])), (q_1, .inl (cy 1, 1700, .inl (fun _ => 0))), (q_2, .inr (9, [.ref (u_3 0), .ref (u_3 1), .ref (u_3 2), .int 0, .ref (u_3 3), .int 0, .ref (u_3 4), .int 0, .ref (u_3 5)])), ((u_3 4), .inr (5, [.ref (u_3 6), .ref (u_3 7), .int 0, .ref (u_3 8), .int 0])), ((u_3 5), .inl (cy 2, 12, .inl (fun _ => 0))), (q_4, .inr (9, [.ref (u_5 0), .ref (u_5 1), .ref (u_5 2), .int 0, .ref (u_5 3), .int 0, .ref (u_5 4), .int 0, .ref (u_5 5)])), ((u_5 4), .inr (5, [.ref (u_5 6), .ref (u_5 7), .int 0, .ref (u_5 8), .int 0])), ((u_5 5), .inl (cy 2, 12, .inl (fun _ => 0))), (q_6, .inr (7, [.ref (u_7 0), .int 0, .int 0, .ref (u_7 1), .int 0])), ((u_7 0), .inr (8, [.ref (u_7 2), .ref (u_7 3), .int 0])), ((u_7 2), .inl (cy 0, 40, .inl (fun _ => 0))), ((u_7 3), .inl (cy 0, 40, .inl (fun _ => 0))), ((u_7 1), .inl (cy 0, 8, .inl (fun _ => 0))), (q_8, .inl (cy 7, 3, .inr (.inr (.inr (.inr (va_up (fun _ => none) 0 (some q_19))))))), (q_9, .inr (2, [.ref (u_10 0), .ref (u_10 1), .ref (u_10 2), .ref (u_10 3), .int 0])), (q_11, .inr (10, [.ref (u_12 0), .ref (u_12 1), .ref (u_12 2), .ref (u_12 3), .ref (u_12 4), .int 0])), (q_13, .inr (1, [.ref (u_14 0), .int 0, .int 0])), (q_15, .inr (3, [.ref (u_16 0), .ref (u_16 1), .int 0, .ref (u_16 2), .ref (u_16 3), .ref (u_16 4), .int 0])), ((u_16 3), .inl (cy 0, 6, .inl (fun _ => 0))), ((u_16 4), .inl (cy 0, 6, .inl (fun _ => 0))), (q_17, .inr (0, [.ref (u_18 0), .int 0])), (q_19, .inr (7, [.ref (u_20 0), .int 0, .int 0, .ref (u_20 1), .int 0])), ((u_20 0), .inr (8, [.ref (u_20 2), .ref (u_20 3), .int 0])), ((u_20 2), .inl (cy 0, 40, .inl (fun _ => 0))), ((u_20 3), .inl (cy 0, 40, .inl (fun _ => 0))), ((u_20 1), .inl (cy 0, 8, .inl (fun _ => 0))), (q_21, .inr (7, [.ref (u_22 0), .int 0, .int 0, .ref (u_22 1), .int 0])), ((u_22 0), .inr (8, [.ref (u_22 2), .ref (u_22 3), .int 0])), ((u_22 2), .inl (cy 0, 40, .inl (fun _ => 0))), ((u_22 3), .inl (cy 0, 40, .inl (fun _ => 0))), ((u_22 1), .inl (cy 0, 8, .inl (fun _ => 0)))] := hD
  refine va_astq hx hb hK hP hD hS 13 7 26 7 rfl rfl rfl rfl (in_lit (by decide +kernel)) dX11_init_137 (fun H locs hP hD hS => ?_)
  have hP : va_P G vwCl [(h, .inr (11, [.ref q_1, .int 0, .ref q_2, .ref q_4, .int 0, .int (-1), .ref q_6, .ref q_8, .ref q_9, .ref q_11, .int 0, .ref q_13, .ref q_15, .ref q_17])), (q_1, .inl (cy 1, 1700, .inl (fun _ => 0))), (q_2, .inr (9, [.ref (u_3 0), .ref (u_3 1), .ref (u_3 2), .int 0, .ref (u_3 3), .int 0, .ref (u_3 4), .int 0, .ref (u_3 5)])), ((u_3 4), .inr (5, [.ref (u_3 6), .ref (u_3 7), .int 0, .ref (u_3 8), .int 0])), ((u_3 5), .inl (cy 2, 12, .inl (fun _ => 0))), (q_4, .inr (9, [.ref (u_5 0), .ref (u_5 1), .ref (u_5 2), .int 0, .ref (u_5 3), .int 0, .ref (u_5 4), .int 0, .ref (u_5 5)])), ((u_5 4), .inr (5, [.ref (u_5 6), .ref (u_5 7), .int 0, .ref (u_5 8), .int 0])), ((u_5 5), .inl (cy 2, 12, .inl (fun _ => 0))), (q_6, .inr (7, [.ref (u_7 0), .int 0, .int 0, .ref (u_7 1), .int 0])), ((u_7 0), .inr (8, [.ref (u_7 2), .ref (u_7 3), .int 0])), ((u_7 2), .inl (cy 0, 40, .inl (fun _ => 0))), ((u_7 3), .inl (cy 0, 40, .inl (fun _ => 0))), ((u_7 1), .inl (cy 0, 8, .inl (fun _ => 0))), (q_8, .inl (cy 7, 3, .inr (.inr (.inr (.inr (va_up (va_up (fun _ => none) 0 (some q_19)) 1 (some q_21))))))), (q_9, .inr (2, [.ref (u_10 0), .ref (u_10 1), .ref (u_10 2), .ref (u_10 3), .int 0])), (q_11, .inr (10, [.ref (u_12 0), .ref (u_12 1), .ref (u_12 2), .ref (u_12 3), .ref (u_12 4), .int 0])), (q_13, .inr (1, [.ref (u_14 0), .int 0, .int 0])), (q_15, .inr (3, [.ref (u_16 0), .ref (u_16 1), .int 0, .ref (u_16 2), .ref (u_16 3), .ref (u_16 4), .int 0])), ((u_16 3), .inl (cy 0, 6, .inl (fun _ => 0))), ((u_16 4), .inl (cy 0, 6, .inl (fun _ => 0))), (q_17, .inr (0, [.ref (u_18 0), .int 0])), (q_19, .inr (7, [.ref (u_20 0), .int 0, .int 0, .ref (u_20 1), .int 0])), ((u_20 0), .inr (8, [.ref (u_20 2), .ref (u_20 3), .int 0])), ((u_20 2), .inl (cy 0, 40, .inl (fun _ => 0))), ((u_20 3), .inl (cy 0, 40, .inl (fun _ => 0))), ((u_20 1), .inl (cy 0, 8, .inl (fun _ => 0))), (q_21, .inr (7, [.ref (u_22 0), .int 0, .int 0, .ref (u_22 1), .int 0])), ((u_22 0), .inr (8, [.ref (u_22 2), .ref (u_22 3), .int 0])), ((u_22 2), .inl (cy 0, 40, .inl (fun _ => 0))), ((u_22 3), .inl (cy 0, 40, .inl (fun _ => 0))), ((u_22 1), .inl (cy 0, 8, .inl (fun _ => 0)))] H := hP
  have hD : va_D A [(h, .inr (11, [.ref q_1, .int 0, .ref q_2, .ref q_4, .int 0, .int (-1), .ref q_6, .ref q_8, .ref q_9, .ref q_11, .int 0, .ref q_13, .ref q_15, .ref q_17])), (q_1, .inl (cy 1, 1700, .inl (fun _ => 0))), (q_2, .inr (9, [.ref (u_3 0), .ref (u_3 1), .ref (u_3 2), .int 0, .ref (u_3 3), .int 0, .ref (u_3 4), .int 0, .ref (u_3 5)])), ((u_3 4), .inr (5, [.ref (u_3 6), .ref (u_3 7), .int 0, .ref (u_3 8), .int 0])), ((u_3 5), .inl (cy 2, 12, .inl (fun _ => 0))), (q_4, .inr (9, [.ref (u_5 0), .ref (u_5 1), .ref (u_5 2), .int 0, .ref (u_5 3), .int 0, .ref (u_5 4), .int 0, .ref (u_5 5)])), ((u_5 4), .inr (5, [.ref (u_5 6), .ref (u_5 7), .int 0, .ref (u_5 8), .int 0])), ((u_5 5), .inl (cy 2, 12, .inl (fun _ => 0))), (q_6, .inr (7, [.ref (u_7 0), .int 0, .int 0, .ref (u_7 1), .int 0])), ((u_7 0), .inr (8, [.ref (u_7 2), .ref (u_7 3), .int 0])), ((u_7 2), .inl (cy 0, 40, .inl (fun _ => 0))), ((u_7 3), .inl (cy 0, 40, .inl (fun _ => 0))), ((u_7 1), .inl (cy 0, 8, .inl (fun _ => 0))), (q_8, .inl (cy 7, 3, .inr (.inr (.inr (.inr (va_up (va_up (fun _ => none) 0 (some q_19)) 1 (some q_21))))))), (q_9, .inr (2, [.ref (u_10 0), .ref (u_10 1), .ref (u_10 2), .ref (u_10 3), .int 0])), (q_11, .inr (10, [.ref (u_12 0), .ref (u_12 1), .ref (u_12 2), .ref (u_12 3), .ref (u_12 4), .int 0])), (q_13, .inr (1, [.ref (u_14 0), .int 0, .int 0])), (q_15, .inr (3, [.ref (u_16 0), .ref (u_16 1), .int 0, .ref (u_16 2), .ref (u_16 3), .ref (u_16 4), .int 0])), ((u_16 3), .inl (cy 0, 6, .inl (fun _ => 0))), ((u_16 4), .inl (cy 0, 6, .inl (fun _ => 0))), (q_17, .inr (0, [.ref (u_18 0), .int 0])), (q_19, .inr (7, [.ref (u_20 0), .int 0, .int 0, .ref (u_20 1), .int 0])), ((u_20 0), .inr (8, [.ref (u_20 2), .ref (u_20 3), .int 0])), ((u_20 2), .inl (cy 0, 40, .inl (fun _ => 0))), ((u_20 3), .inl (cy 0, 40, .inl (fun _ => 0))), ((u_20 1), .inl (cy 0, 8, .inl (fun _ => 0))), (q_21, .inr (7, [.ref (u_22 0), .int 0, .int 0, .ref (u_22 1), .int 0])), ((u_22 0), .inr (8, [.ref (u_22 2), .ref (u_22 3), .int 0])), ((u_22 2), .inl (cy 0, 40, .inl (fun _ => 0))), ((u_22 3), .inl (cy 0, 40, .inl (fun _ => 0))), ((u_22 1), .inl (cy 0, 8, .inl (fun _ => 0)))] := hD
  refine lv_iinc (v := 2) (lv' := [(1, .int 2), (0, .ref h)]) hx hb dX11_init_138 hl (k := 0) rfl (by decide) (by decide) rfl (fun ls hl => ?_)
  refine lv_goto (tgt := 116) hx hb dX11_init_141 (by decide) ?_
  refine lv_iload_n hx hb dX11_init_116 rfl (lv_at hl 0 rfl) ?_
  refine lv_aload_n hx hb dX11_init_117 rfl (lv_at hl 1 rfl) ?_
  refine va_get (ci := 11) (v := .ref q_8) (C := RX11) (T := TX11) (N := 14) hx hb ht iX11 hown hK hP 0 rfl rfl 7 (by decide) (ht _ k_91) (fun _ h9 => h9) rfl dX11_init_118 ?_
  refine va_alen (v := 3) hx hb hK hP 13 7 rfl rfl rfl dX11_init_121 ?_
  refine lv_icmp_ge (tgt := 144) hx hb dX11_init_122 (by decide) (fun c9 => absurd c9 (by decide)) (fun _ => ?_)
  refine lv_aload_n hx hb dX11_init_125 rfl (lv_at hl 1 rfl) ?_
  refine va_get (ci := 11) (v := .ref q_8) (C := RX11) (T := TX11) (N := 14) hx hb ht iX11 hown hK hP 0 rfl rfl 7 (by decide) (ht _ k_91) (fun _ h9 => h9) rfl dX11_init_126 ?_
  refine lv_iload_n hx hb dX11_init_129 rfl (lv_at hl 0 rfl) ?_
  refine va_new (ci := 7) (fs := [.null, .int 0, .int 0, .null, .int 0]) (C := RX7) (T := TX7) (N := 5) hx hb ht iX7 tyX7 tyX7_ok hown (ht _ k_85) (ht _ k_86) (ht _ k_87) hK hP hD hS hA rfl df7 (Nat.le_of_ble_eq_true rfl) (Nat.le_of_ble_eq_true rfl) dX11_init_130 (fun q_23 H hP hD hS => ?_)
  refine lv_dup hx hb dX11_init_133 rfl ?_
  have hFc := fr_lastF hD hS hA
  have hPc := fr_lastP hP
  refine va_callv (va_runIN (As := []) (rest := [.ref q_23, .int 2, .ref q_8]) ⟨hx, hb, hml, hown, ht⟩ (c_Scene l G cy _ q_23 ) ⟨va_cnB (host := "TuneLocks") 0 ht (gc k_88) rfl rfl rfl (hN.1 _ ns_59) (ht _ k_87) (by decide +kernel) ⟨Nat.le_of_ble_eq_true rfl, Nat.le_of_ble_eq_true rfl⟩, rfl, ht _ k_89⟩ ⟨En.blind, fun U hU hW => ⟨rfl, En.of hU hW hPc hK (fr_lastD (ws := [])) hN⟩⟩ rfl rfl hl.1 rfl (lv_room (Nat.le_of_ble_eq_true rfl)) dX11_init_134 ⟨Nat.le_of_ble_eq_true rfl, Nat.le_of_ble_eq_true rfl⟩) hS (fun q _ h => hFc q h) hFc (fun u_24 t H locs ht9 hvm hw hB hz1 hk1 hS => ?_)
  obtain ⟨hP1, hD1⟩ := hB
  rw [ht9] at hP1
  obtain ⟨hP, hD⟩ := fr_last hP hD hFc hk1 hP1 hD1
  clear hFc hPc hP1 hD1 hz1 hk1
  have hP : va_P G vwCl [(h, .inr (11, [.ref q_1, .int 0, .ref q_2, .ref q_4, .int 0, .int (-1), .ref q_6, .ref q_8, .ref q_9, .ref q_11, .int 0, .ref q_13, .ref q_15, .ref q_17])), (q_1, .inl (cy 1, 1700, .inl (fun _ => 0))), (q_2, .inr (9, [.ref (u_3 0), .ref (u_3 1), .ref (u_3 2), .int 0, .ref (u_3 3), .int 0, .ref (u_3 4), .int 0, .ref (u_3 5)])), ((u_3 4), .inr (5, [.ref (u_3 6), .ref (u_3 7), .int 0, .ref (u_3 8), .int 0])), ((u_3 5), .inl (cy 2, 12, .inl (fun _ => 0))), (q_4, .inr (9, [.ref (u_5 0), .ref (u_5 1), .ref (u_5 2), .int 0, .ref (u_5 3), .int 0, .ref (u_5 4), .int 0, .ref (u_5 5)])), ((u_5 4), .inr (5, [.ref (u_5 6), .ref (u_5 7), .int 0, .ref (u_5 8), .int 0])), ((u_5 5), .inl (cy 2, 12, .inl (fun _ => 0))), (q_6, .inr (7, [.ref (u_7 0), .int 0, .int 0, .ref (u_7 1), .int 0])), ((u_7 0), .inr (8, [.ref (u_7 2), .ref (u_7 3), .int 0])), ((u_7 2), .inl (cy 0, 40, .inl (fun _ => 0))), ((u_7 3), .inl (cy 0, 40, .inl (fun _ => 0))), ((u_7 1), .inl (cy 0, 8, .inl (fun _ => 0))), (q_8, .inl (cy 7, 3, .inr (.inr (.inr (.inr (va_up (va_up (fun _ => none) 0 (some q_19)) 1 (some q_21))))))), (q_9, .inr (2, [.ref (u_10 0), .ref (u_10 1), .ref (u_10 2), .ref (u_10 3), .int 0])), (q_11, .inr (10, [.ref (u_12 0), .ref (u_12 1), .ref (u_12 2), .ref (u_12 3), .ref (u_12 4), .int 0])), (q_13, .inr (1, [.ref (u_14 0), .int 0, .int 0])), (q_15, .inr (3, [.ref (u_16 0), .ref (u_16 1), .int 0, .ref (u_16 2), .ref (u_16 3), .ref (u_16 4), .int 0])), ((u_16 3), .inl (cy 0, 6, .inl (fun _ => 0))), ((u_16 4), .inl (cy 0, 6, .inl (fun _ => 0))), (q_17, .inr (0, [.ref (u_18 0), .int 0])), (q_19, .inr (7, [.ref (u_20 0), .int 0, .int 0, .ref (u_20 1), .int 0])), ((u_20 0), .inr (8, [.ref (u_20 2), .ref (u_20 3), .int 0])), ((u_20 2), .inl (cy 0, 40, .inl (fun _ => 0))), ((u_20 3), .inl (cy 0, 40, .inl (fun _ => 0))), ((u_20 1), .inl (cy 0, 8, .inl (fun _ => 0))), (q_21, .inr (7, [.ref (u_22 0), .int 0, .int 0, .ref (u_22 1), .int 0])), ((u_22 0), .inr (8, [.ref (u_22 2), .ref (u_22 3), .int 0])), ((u_22 2), .inl (cy 0, 40, .inl (fun _ => 0))), ((u_22 3), .inl (cy 0, 40, .inl (fun _ => 0))), ((u_22 1), .inl (cy 0, 8, .inl (fun _ => 0))), (q_23, .inr (7, [.ref (u_24 0), .int 0, .int 0, .ref (u_24 1), .int 0])), ((u_24 0), .inr (8, [.ref (u_24 2), .ref (u_24 3), .int 0])), ((u_24 2), .inl (cy 0, 40, .inl (fun _ => 0))), ((u_24 3), .inl (cy 0, 40, .inl (fun _ => 0))), ((u_24 1), .inl (cy 0, 8, .inl (fun _ => 0)))] H := hP
  have hD : va_D A [(h, .inr (11, [.ref q_1, .int 0, .ref q_2, .ref q_4, .int 0, .int (-1), .ref q_6, .ref q_8, .ref q_9, .ref q_11, .int 0, .ref q_13, .ref q_15, .ref q_17])), (q_1, .inl (cy 1, 1700, .inl (fun _ => 0))), (q_2, .inr (9, [.ref (u_3 0), .ref (u_3 1), .ref (u_3 2), .int 0, .ref (u_3 3), .int 0, .ref (u_3 4), .int 0, .ref (u_3 5)])), ((u_3 4), .inr (5, [.ref (u_3 6), .ref (u_3 7), .int 0, .ref (u_3 8), .int 0])), ((u_3 5), .inl (cy 2, 12, .inl (fun _ => 0))), (q_4, .inr (9, [.ref (u_5 0), .ref (u_5 1), .ref (u_5 2), .int 0, .ref (u_5 3), .int 0, .ref (u_5 4), .int 0, .ref (u_5 5)])), ((u_5 4), .inr (5, [.ref (u_5 6), .ref (u_5 7), .int 0, .ref (u_5 8), .int 0])), ((u_5 5), .inl (cy 2, 12, .inl (fun _ => 0))), (q_6, .inr (7, [.ref (u_7 0), .int 0, .int 0, .ref (u_7 1), .int 0])), ((u_7 0), .inr (8, [.ref (u_7 2), .ref (u_7 3), .int 0])), ((u_7 2), .inl (cy 0, 40, .inl (fun _ => 0))), ((u_7 3), .inl (cy 0, 40, .inl (fun _ => 0))), ((u_7 1), .inl (cy 0, 8, .inl (fun _ => 0))), (q_8, .inl (cy 7, 3, .inr (.inr (.inr (.inr (va_up (va_up (fun _ => none) 0 (some q_19)) 1 (some q_21))))))), (q_9, .inr (2, [.ref (u_10 0), .ref (u_10 1), .ref (u_10 2), .ref (u_10 3), .int 0])), (q_11, .inr (10, [.ref (u_12 0), .ref (u_12 1), .ref (u_12 2), .ref (u_12 3), .ref (u_12 4), .int 0])), (q_13, .inr (1, [.ref (u_14 0), .int 0, .int 0])), (q_15, .inr (3, [.ref (u_16 0), .ref (u_16 1), .int 0, .ref (u_16 2), .ref (u_16 3), .ref (u_16 4), .int 0])), ((u_16 3), .inl (cy 0, 6, .inl (fun _ => 0))), ((u_16 4), .inl (cy 0, 6, .inl (fun _ => 0))), (q_17, .inr (0, [.ref (u_18 0), .int 0])), (q_19, .inr (7, [.ref (u_20 0), .int 0, .int 0, .ref (u_20 1), .int 0])), ((u_20 0), .inr (8, [.ref (u_20 2), .ref (u_20 3), .int 0])), ((u_20 2), .inl (cy 0, 40, .inl (fun _ => 0))), ((u_20 3), .inl (cy 0, 40, .inl (fun _ => 0))), ((u_20 1), .inl (cy 0, 8, .inl (fun _ => 0))), (q_21, .inr (7, [.ref (u_22 0), .int 0, .int 0, .ref (u_22 1), .int 0])), ((u_22 0), .inr (8, [.ref (u_22 2), .ref (u_22 3), .int 0])), ((u_22 2), .inl (cy 0, 40, .inl (fun _ => 0))), ((u_22 3), .inl (cy 0, 40, .inl (fun _ => 0))), ((u_22 1), .inl (cy 0, 8, .inl (fun _ => 0))), (q_23, .inr (7, [.ref (u_24 0), .int 0, .int 0, .ref (u_24 1), .int 0])), ((u_24 0), .inr (8, [.ref (u_24 2), .ref (u_24 3), .int 0])), ((u_24 2), .inl (cy 0, 40, .inl (fun _ => 0))), ((u_24 3), .inl (cy 0, 40, .inl (fun _ => 0))), ((u_24 1), .inl (cy 0, 8, .inl (fun _ => 0)))] := hD
  refine va_astq hx hb hK hP hD hS 13 7 31 7 rfl rfl rfl rfl (in_lit (by decide +kernel)) dX11_init_137 (fun H locs hP hD hS => ?_)
  have hP : va_P G vwCl [(h, .inr (11, [.ref q_1, .int 0, .ref q_2, .ref q_4, .int 0, .int (-1), .ref q_6, .ref q_8, .ref q_9, .ref q_11, .int 0, .ref q_13, .ref q_15, .ref q_17])), (q_1, .inl (cy 1, 1700, .inl (fun _ => 0))), (q_2, .inr (9, [.ref (u_3 0), .ref (u_3 1), .ref (u_3 2), .int 0, .ref (u_3 3), .int 0, .ref (u_3 4), .int 0, .ref (u_3 5)])), ((u_3 4), .inr (5, [.ref (u_3 6), .ref (u_3 7), .int 0, .ref (u_3 8), .int 0])), ((u_3 5), .inl (cy 2, 12, .inl (fun _ => 0))), (q_4, .inr (9, [.ref (u_5 0), .ref (u_5 1), .ref (u_5 2), .int 0, .ref (u_5 3), .int 0, .ref (u_5 4), .int 0, .ref (u_5 5)])), ((u_5 4), .inr (5, [.ref (u_5 6), .ref (u_5 7), .int 0, .ref (u_5 8), .int 0])), ((u_5 5), .inl (cy 2, 12, .inl (fun _ => 0))), (q_6, .inr (7, [.ref (u_7 0), .int 0, .int 0, .ref (u_7 1), .int 0])), ((u_7 0), .inr (8, [.ref (u_7 2), .ref (u_7 3), .int 0])), ((u_7 2), .inl (cy 0, 40, .inl (fun _ => 0))), ((u_7 3), .inl (cy 0, 40, .inl (fun _ => 0))), ((u_7 1), .inl (cy 0, 8, .inl (fun _ => 0))), (q_8, .inl (cy 7, 3, .inr (.inr (.inr (.inr (va_up (va_up (va_up (fun _ => none) 0 (some q_19)) 1 (some q_21)) 2 (some q_23))))))), (q_9, .inr (2, [.ref (u_10 0), .ref (u_10 1), .ref (u_10 2), .ref (u_10 3), .int 0])), (q_11, .inr (10, [.ref (u_12 0), .ref (u_12 1), .ref (u_12 2), .ref (u_12 3), .ref (u_12 4), .int 0])), (q_13, .inr (1, [.ref (u_14 0), .int 0, .int 0])), (q_15, .inr (3, [.ref (u_16 0), .ref (u_16 1), .int 0, .ref (u_16 2), .ref (u_16 3), .ref (u_16 4), .int 0])), ((u_16 3), .inl (cy 0, 6, .inl (fun _ => 0))), ((u_16 4), .inl (cy 0, 6, .inl (fun _ => 0))), (q_17, .inr (0, [.ref (u_18 0), .int 0])), (q_19, .inr (7, [.ref (u_20 0), .int 0, .int 0, .ref (u_20 1), .int 0])), ((u_20 0), .inr (8, [.ref (u_20 2), .ref (u_20 3), .int 0])), ((u_20 2), .inl (cy 0, 40, .inl (fun _ => 0))), ((u_20 3), .inl (cy 0, 40, .inl (fun _ => 0))), ((u_20 1), .inl (cy 0, 8, .inl (fun _ => 0))), (q_21, .inr (7, [.ref (u_22 0), .int 0, .int 0, .ref (u_22 1), .int 0])), ((u_22 0), .inr (8, [.ref (u_22 2), .ref (u_22 3), .int 0])), ((u_22 2), .inl (cy 0, 40, .inl (fun _ => 0))), ((u_22 3), .inl (cy 0, 40, .inl (fun _ => 0))), ((u_22 1), .inl (cy 0, 8, .inl (fun _ => 0))), (q_23, .inr (7, [.ref (u_24 0), .int 0, .int 0, .ref (u_24 1), .int 0])), ((u_24 0), .inr (8, [.ref (u_24 2), .ref (u_24 3), .int 0])), ((u_24 2), .inl (cy 0, 40, .inl (fun _ => 0))), ((u_24 3), .inl (cy 0, 40, .inl (fun _ => 0))), ((u_24 1), .inl (cy 0, 8, .inl (fun _ => 0)))] H := hP
  have hD : va_D A [(h, .inr (11, [.ref q_1, .int 0, .ref q_2, .ref q_4, .int 0, .int (-1), .ref q_6, .ref q_8, .ref q_9, .ref q_11, .int 0, .ref q_13, .ref q_15, .ref q_17])), (q_1, .inl (cy 1, 1700, .inl (fun _ => 0))), (q_2, .inr (9, [.ref (u_3 0), .ref (u_3 1), .ref (u_3 2), .int 0, .ref (u_3 3), .int 0, .ref (u_3 4), .int 0, .ref (u_3 5)])), ((u_3 4), .inr (5, [.ref (u_3 6), .ref (u_3 7), .int 0, .ref (u_3 8), .int 0])), ((u_3 5), .inl (cy 2, 12, .inl (fun _ => 0))), (q_4, .inr (9, [.ref (u_5 0), .ref (u_5 1), .ref (u_5 2), .int 0, .ref (u_5 3), .int 0, .ref (u_5 4), .int 0, .ref (u_5 5)])), ((u_5 4), .inr (5, [.ref (u_5 6), .ref (u_5 7), .int 0, .ref (u_5 8), .int 0])), ((u_5 5), .inl (cy 2, 12, .inl (fun _ => 0))), (q_6, .inr (7, [.ref (u_7 0), .int 0, .int 0, .ref (u_7 1), .int 0])), ((u_7 0), .inr (8, [.ref (u_7 2), .ref (u_7 3), .int 0])), ((u_7 2), .inl (cy 0, 40, .inl (fun _ => 0))), ((u_7 3), .inl (cy 0, 40, .inl (fun _ => 0))), ((u_7 1), .inl (cy 0, 8, .inl (fun _ => 0))), (q_8, .inl (cy 7, 3, .inr (.inr (.inr (.inr (va_up (va_up (va_up (fun _ => none) 0 (some q_19)) 1 (some q_21)) 2 (some q_23))))))), (q_9, .inr (2, [.ref (u_10 0), .ref (u_10 1), .ref (u_10 2), .ref (u_10 3), .int 0])), (q_11, .inr (10, [.ref (u_12 0), .ref (u_12 1), .ref (u_12 2), .ref (u_12 3), .ref (u_12 4), .int 0])), (q_13, .inr (1, [.ref (u_14 0), .int 0, .int 0])), (q_15, .inr (3, [.ref (u_16 0), .ref (u_16 1), .int 0, .ref (u_16 2), .ref (u_16 3), .ref (u_16 4), .int 0])), ((u_16 3), .inl (cy 0, 6, .inl (fun _ => 0))), ((u_16 4), .inl (cy 0, 6, .inl (fun _ => 0))), (q_17, .inr (0, [.ref (u_18 0), .int 0])), (q_19, .inr (7, [.ref (u_20 0), .int 0, .int 0, .ref (u_20 1), .int 0])), ((u_20 0), .inr (8, [.ref (u_20 2), .ref (u_20 3), .int 0])), ((u_20 2), .inl (cy 0, 40, .inl (fun _ => 0))), ((u_20 3), .inl (cy 0, 40, .inl (fun _ => 0))), ((u_20 1), .inl (cy 0, 8, .inl (fun _ => 0))), (q_21, .inr (7, [.ref (u_22 0), .int 0, .int 0, .ref (u_22 1), .int 0])), ((u_22 0), .inr (8, [.ref (u_22 2), .ref (u_22 3), .int 0])), ((u_22 2), .inl (cy 0, 40, .inl (fun _ => 0))), ((u_22 3), .inl (cy 0, 40, .inl (fun _ => 0))), ((u_22 1), .inl (cy 0, 8, .inl (fun _ => 0))), (q_23, .inr (7, [.ref (u_24 0), .int 0, .int 0, .ref (u_24 1), .int 0])), ((u_24 0), .inr (8, [.ref (u_24 2), .ref (u_24 3), .int 0])), ((u_24 2), .inl (cy 0, 40, .inl (fun _ => 0))), ((u_24 3), .inl (cy 0, 40, .inl (fun _ => 0))), ((u_24 1), .inl (cy 0, 8, .inl (fun _ => 0)))] := hD
  refine lv_iinc (v := 3) (lv' := [(1, .int 3), (0, .ref h)]) hx hb dX11_init_138 hl (k := 0) rfl (by decide) (by decide) rfl (fun ls hl => ?_)
  refine lv_goto (tgt := 116) hx hb dX11_init_141 (by decide) ?_
  refine lv_iload_n hx hb dX11_init_116 rfl (lv_at hl 0 rfl) ?_
  refine lv_aload_n hx hb dX11_init_117 rfl (lv_at hl 1 rfl) ?_
  refine va_get (ci := 11) (v := .ref q_8) (C := RX11) (T := TX11) (N := 14) hx hb ht iX11 hown hK hP 0 rfl rfl 7 (by decide) (ht _ k_91) (fun _ h9 => h9) rfl dX11_init_118 ?_
  refine va_alen (v := 3) hx hb hK hP 13 7 rfl rfl rfl dX11_init_121 ?_
  refine lv_icmp_ge (tgt := 144) hx hb dX11_init_122 (by decide) (fun _ => ?_) (fun c9 => absurd (by decide) c9)
  refine W.widen (k := 309) (n := 7498) (Nat.le_of_ble_eq_true rfl) (Nat.le_of_ble_eq_true rfl) ?_
  have hP9 : va_P G vwCl [(h, .inr (11, [.ref ((lst [q_1, q_2, q_4, q_6, q_8, q_9, q_11, q_13, q_15, q_17, (u_3 0), (u_3 1), (u_3 2), (u_3 3), (u_3 4), (u_3 5), (u_3 6), (u_3 7), (u_3 8), 0, (u_5 0), (u_5 1), (u_5 2), (u_5 3), (u_5 4), (u_5 5), (u_5 6), (u_5 7), (u_5 8), 0, (u_7 0), (u_7 1), (u_7 2), (u_7 3), (u_10 0), (u_10 1), (u_10 2), (u_10 3), 0, 0, (u_12 0), (u_12 1), (u_12 2), (u_12 3), (u_12 4), (u_14 0), (u_16 0), (u_16 1), (u_16 2), (u_16 3), (u_16 4), (u_18 0), q_19, q_21, q_23, (u_20 0), (u_20 1), (u_20 2), (u_20 3), (u_22 0), (u_22 1), (u_22 2), (u_22 3), (u_24 0), (u_24 1), (u_24 2), (u_24 3)]) 0), .int 0, .ref ((lst [q_1, q_2, q_4, q_6, q_8, q_9, q_11, q_13, q_15, q_17, (u_3 0), (u_3 1), (u_3 2), (u_3 3), (u_3 4), (u_3 5), (u_3 6), (u_3 7), (u_3 8), 0, (u_5 0), (u_5 1), (u_5 2), (u_5 3), (u_5 4), (u_5 5), (u_5 6), (u_5 7), (u_5 8), 0, (u_7 0), (u_7 1), (u_7 2), (u_7 3), (u_10 0), (u_10 1), (u_10 2), (u_10 3), 0, 0, (u_12 0), (u_12 1), (u_12 2), (u_12 3), (u_12 4), (u_14 0), (u_16 0), (u_16 1), (u_16 2), (u_16 3), (u_16 4), (u_18 0), q_19, q_21, q_23, (u_20 0), (u_20 1), (u_20 2), (u_20 3), (u_22 0), (u_22 1), (u_22 2), (u_22 3), (u_24 0), (u_24 1), (u_24 2), (u_24 3)]) 1), .ref ((lst [q_1, q_2, q_4, q_6, q_8, q_9, q_11, q_13, q_15, q_17, (u_3 0), (u_3 1), (u_3 2), (u_3 3), (u_3 4), (u_3 5), (u_3 6), (u_3 7), (u_3 8), 0, (u_5 0), (u_5 1), (u_5 2), (u_5 3), (u_5 4), (u_5 5), (u_5 6), (u_5 7), (u_5 8), 0, (u_7 0), (u_7 1), (u_7 2), (u_7 3), (u_10 0), (u_10 1), (u_10 2), (u_10 3), 0, 0, (u_12 0), (u_12 1), (u_12 2), (u_12 3), (u_12 4), (u_14 0), (u_16 0), (u_16 1), (u_16 2), (u_16 3), (u_16 4), (u_18 0), q_19, q_21, q_23, (u_20 0), (u_20 1), (u_20 2), (u_20 3), (u_22 0), (u_22 1), (u_22 2), (u_22 3), (u_24 0), (u_24 1), (u_24 2), (u_24 3)]) 2), .int 0, .int (-1), .ref ((lst [q_1, q_2, q_4, q_6, q_8, q_9, q_11, q_13, q_15, q_17, (u_3 0), (u_3 1), (u_3 2), (u_3 3), (u_3 4), (u_3 5), (u_3 6), (u_3 7), (u_3 8), 0, (u_5 0), (u_5 1), (u_5 2), (u_5 3), (u_5 4), (u_5 5), (u_5 6), (u_5 7), (u_5 8), 0, (u_7 0), (u_7 1), (u_7 2), (u_7 3), (u_10 0), (u_10 1), (u_10 2), (u_10 3), 0, 0, (u_12 0), (u_12 1), (u_12 2), (u_12 3), (u_12 4), (u_14 0), (u_16 0), (u_16 1), (u_16 2), (u_16 3), (u_16 4), (u_18 0), q_19, q_21, q_23, (u_20 0), (u_20 1), (u_20 2), (u_20 3), (u_22 0), (u_22 1), (u_22 2), (u_22 3), (u_24 0), (u_24 1), (u_24 2), (u_24 3)]) 3), .ref ((lst [q_1, q_2, q_4, q_6, q_8, q_9, q_11, q_13, q_15, q_17, (u_3 0), (u_3 1), (u_3 2), (u_3 3), (u_3 4), (u_3 5), (u_3 6), (u_3 7), (u_3 8), 0, (u_5 0), (u_5 1), (u_5 2), (u_5 3), (u_5 4), (u_5 5), (u_5 6), (u_5 7), (u_5 8), 0, (u_7 0), (u_7 1), (u_7 2), (u_7 3), (u_10 0), (u_10 1), (u_10 2), (u_10 3), 0, 0, (u_12 0), (u_12 1), (u_12 2), (u_12 3), (u_12 4), (u_14 0), (u_16 0), (u_16 1), (u_16 2), (u_16 3), (u_16 4), (u_18 0), q_19, q_21, q_23, (u_20 0), (u_20 1), (u_20 2), (u_20 3), (u_22 0), (u_22 1), (u_22 2), (u_22 3), (u_24 0), (u_24 1), (u_24 2), (u_24 3)]) 4), .ref ((lst [q_1, q_2, q_4, q_6, q_8, q_9, q_11, q_13, q_15, q_17, (u_3 0), (u_3 1), (u_3 2), (u_3 3), (u_3 4), (u_3 5), (u_3 6), (u_3 7), (u_3 8), 0, (u_5 0), (u_5 1), (u_5 2), (u_5 3), (u_5 4), (u_5 5), (u_5 6), (u_5 7), (u_5 8), 0, (u_7 0), (u_7 1), (u_7 2), (u_7 3), (u_10 0), (u_10 1), (u_10 2), (u_10 3), 0, 0, (u_12 0), (u_12 1), (u_12 2), (u_12 3), (u_12 4), (u_14 0), (u_16 0), (u_16 1), (u_16 2), (u_16 3), (u_16 4), (u_18 0), q_19, q_21, q_23, (u_20 0), (u_20 1), (u_20 2), (u_20 3), (u_22 0), (u_22 1), (u_22 2), (u_22 3), (u_24 0), (u_24 1), (u_24 2), (u_24 3)]) 5), .ref ((lst [q_1, q_2, q_4, q_6, q_8, q_9, q_11, q_13, q_15, q_17, (u_3 0), (u_3 1), (u_3 2), (u_3 3), (u_3 4), (u_3 5), (u_3 6), (u_3 7), (u_3 8), 0, (u_5 0), (u_5 1), (u_5 2), (u_5 3), (u_5 4), (u_5 5), (u_5 6), (u_5 7), (u_5 8), 0, (u_7 0), (u_7 1), (u_7 2), (u_7 3), (u_10 0), (u_10 1), (u_10 2), (u_10 3), 0, 0, (u_12 0), (u_12 1), (u_12 2), (u_12 3), (u_12 4), (u_14 0), (u_16 0), (u_16 1), (u_16 2), (u_16 3), (u_16 4), (u_18 0), q_19, q_21, q_23, (u_20 0), (u_20 1), (u_20 2), (u_20 3), (u_22 0), (u_22 1), (u_22 2), (u_22 3), (u_24 0), (u_24 1), (u_24 2), (u_24 3)]) 6), .int 0, .ref ((lst [q_1, q_2, q_4, q_6, q_8, q_9, q_11, q_13, q_15, q_17, (u_3 0), (u_3 1), (u_3 2), (u_3 3), (u_3 4), (u_3 5), (u_3 6), (u_3 7), (u_3 8), 0, (u_5 0), (u_5 1), (u_5 2), (u_5 3), (u_5 4), (u_5 5), (u_5 6), (u_5 7), (u_5 8), 0, (u_7 0), (u_7 1), (u_7 2), (u_7 3), (u_10 0), (u_10 1), (u_10 2), (u_10 3), 0, 0, (u_12 0), (u_12 1), (u_12 2), (u_12 3), (u_12 4), (u_14 0), (u_16 0), (u_16 1), (u_16 2), (u_16 3), (u_16 4), (u_18 0), q_19, q_21, q_23, (u_20 0), (u_20 1), (u_20 2), (u_20 3), (u_22 0), (u_22 1), (u_22 2), (u_22 3), (u_24 0), (u_24 1), (u_24 2), (u_24 3)]) 7), .ref ((lst [q_1, q_2, q_4, q_6, q_8, q_9, q_11, q_13, q_15, q_17, (u_3 0), (u_3 1), (u_3 2), (u_3 3), (u_3 4), (u_3 5), (u_3 6), (u_3 7), (u_3 8), 0, (u_5 0), (u_5 1), (u_5 2), (u_5 3), (u_5 4), (u_5 5), (u_5 6), (u_5 7), (u_5 8), 0, (u_7 0), (u_7 1), (u_7 2), (u_7 3), (u_10 0), (u_10 1), (u_10 2), (u_10 3), 0, 0, (u_12 0), (u_12 1), (u_12 2), (u_12 3), (u_12 4), (u_14 0), (u_16 0), (u_16 1), (u_16 2), (u_16 3), (u_16 4), (u_18 0), q_19, q_21, q_23, (u_20 0), (u_20 1), (u_20 2), (u_20 3), (u_22 0), (u_22 1), (u_22 2), (u_22 3), (u_24 0), (u_24 1), (u_24 2), (u_24 3)]) 8), .ref ((lst [q_1, q_2, q_4, q_6, q_8, q_9, q_11, q_13, q_15, q_17, (u_3 0), (u_3 1), (u_3 2), (u_3 3), (u_3 4), (u_3 5), (u_3 6), (u_3 7), (u_3 8), 0, (u_5 0), (u_5 1), (u_5 2), (u_5 3), (u_5 4), (u_5 5), (u_5 6), (u_5 7), (u_5 8), 0, (u_7 0), (u_7 1), (u_7 2), (u_7 3), (u_10 0), (u_10 1), (u_10 2), (u_10 3), 0, 0, (u_12 0), (u_12 1), (u_12 2), (u_12 3), (u_12 4), (u_14 0), (u_16 0), (u_16 1), (u_16 2), (u_16 3), (u_16 4), (u_18 0), q_19, q_21, q_23, (u_20 0), (u_20 1), (u_20 2), (u_20 3), (u_22 0), (u_22 1), (u_22 2), (u_22 3), (u_24 0), (u_24 1), (u_24 2), (u_24 3)]) 9)])), (((lst [q_1, q_2, q_4, q_6, q_8, q_9, q_11, q_13, q_15, q_17, (u_3 0), (u_3 1), (u_3 2), (u_3 3), (u_3 4), (u_3 5), (u_3 6), (u_3 7), (u_3 8), 0, (u_5 0), (u_5 1), (u_5 2), (u_5 3), (u_5 4), (u_5 5), (u_5 6), (u_5 7), (u_5 8), 0, (u_7 0), (u_7 1), (u_7 2), (u_7 3), (u_10 0), (u_10 1), (u_10 2), (u_10 3), 0, 0, (u_12 0), (u_12 1), (u_12 2), (u_12 3), (u_12 4), (u_14 0), (u_16 0), (u_16 1), (u_16 2), (u_16 3), (u_16 4), (u_18 0), q_19, q_21, q_23, (u_20 0), (u_20 1), (u_20 2), (u_20 3), (u_22 0), (u_22 1), (u_22 2), (u_22 3), (u_24 0), (u_24 1), (u_24 2), (u_24 3)]) 0), .inl (cy 1, 1700, .inl (fun _ => 0))), (((lst [q_1, q_2, q_4, q_6, q_8, q_9, q_11, q_13, q_15, q_17, (u_3 0), (u_3 1), (u_3 2), (u_3 3), (u_3 4), (u_3 5), (u_3 6), (u_3 7), (u_3 8), 0, (u_5 0), (u_5 1), (u_5 2), (u_5 3), (u_5 4), (u_5 5), (u_5 6), (u_5 7), (u_5 8), 0, (u_7 0), (u_7 1), (u_7 2), (u_7 3), (u_10 0), (u_10 1), (u_10 2), (u_10 3), 0, 0, (u_12 0), (u_12 1), (u_12 2), (u_12 3), (u_12 4), (u_14 0), (u_16 0), (u_16 1), (u_16 2), (u_16 3), (u_16 4), (u_18 0), q_19, q_21, q_23, (u_20 0), (u_20 1), (u_20 2), (u_20 3), (u_22 0), (u_22 1), (u_22 2), (u_22 3), (u_24 0), (u_24 1), (u_24 2), (u_24 3)]) 1), .inr (9, [.ref ((lst [q_1, q_2, q_4, q_6, q_8, q_9, q_11, q_13, q_15, q_17, (u_3 0), (u_3 1), (u_3 2), (u_3 3), (u_3 4), (u_3 5), (u_3 6), (u_3 7), (u_3 8), 0, (u_5 0), (u_5 1), (u_5 2), (u_5 3), (u_5 4), (u_5 5), (u_5 6), (u_5 7), (u_5 8), 0, (u_7 0), (u_7 1), (u_7 2), (u_7 3), (u_10 0), (u_10 1), (u_10 2), (u_10 3), 0, 0, (u_12 0), (u_12 1), (u_12 2), (u_12 3), (u_12 4), (u_14 0), (u_16 0), (u_16 1), (u_16 2), (u_16 3), (u_16 4), (u_18 0), q_19, q_21, q_23, (u_20 0), (u_20 1), (u_20 2), (u_20 3), (u_22 0), (u_22 1), (u_22 2), (u_22 3), (u_24 0), (u_24 1), (u_24 2), (u_24 3)]) 10), .ref ((lst [q_1, q_2, q_4, q_6, q_8, q_9, q_11, q_13, q_15, q_17, (u_3 0), (u_3 1), (u_3 2), (u_3 3), (u_3 4), (u_3 5), (u_3 6), (u_3 7), (u_3 8), 0, (u_5 0), (u_5 1), (u_5 2), (u_5 3), (u_5 4), (u_5 5), (u_5 6), (u_5 7), (u_5 8), 0, (u_7 0), (u_7 1), (u_7 2), (u_7 3), (u_10 0), (u_10 1), (u_10 2), (u_10 3), 0, 0, (u_12 0), (u_12 1), (u_12 2), (u_12 3), (u_12 4), (u_14 0), (u_16 0), (u_16 1), (u_16 2), (u_16 3), (u_16 4), (u_18 0), q_19, q_21, q_23, (u_20 0), (u_20 1), (u_20 2), (u_20 3), (u_22 0), (u_22 1), (u_22 2), (u_22 3), (u_24 0), (u_24 1), (u_24 2), (u_24 3)]) 11), .ref ((lst [q_1, q_2, q_4, q_6, q_8, q_9, q_11, q_13, q_15, q_17, (u_3 0), (u_3 1), (u_3 2), (u_3 3), (u_3 4), (u_3 5), (u_3 6), (u_3 7), (u_3 8), 0, (u_5 0), (u_5 1), (u_5 2), (u_5 3), (u_5 4), (u_5 5), (u_5 6), (u_5 7), (u_5 8), 0, (u_7 0), (u_7 1), (u_7 2), (u_7 3), (u_10 0), (u_10 1), (u_10 2), (u_10 3), 0, 0, (u_12 0), (u_12 1), (u_12 2), (u_12 3), (u_12 4), (u_14 0), (u_16 0), (u_16 1), (u_16 2), (u_16 3), (u_16 4), (u_18 0), q_19, q_21, q_23, (u_20 0), (u_20 1), (u_20 2), (u_20 3), (u_22 0), (u_22 1), (u_22 2), (u_22 3), (u_24 0), (u_24 1), (u_24 2), (u_24 3)]) 12), .int 0, .ref ((lst [q_1, q_2, q_4, q_6, q_8, q_9, q_11, q_13, q_15, q_17, (u_3 0), (u_3 1), (u_3 2), (u_3 3), (u_3 4), (u_3 5), (u_3 6), (u_3 7), (u_3 8), 0, (u_5 0), (u_5 1), (u_5 2), (u_5 3), (u_5 4), (u_5 5), (u_5 6), (u_5 7), (u_5 8), 0, (u_7 0), (u_7 1), (u_7 2), (u_7 3), (u_10 0), (u_10 1), (u_10 2), (u_10 3), 0, 0, (u_12 0), (u_12 1), (u_12 2), (u_12 3), (u_12 4), (u_14 0), (u_16 0), (u_16 1), (u_16 2), (u_16 3), (u_16 4), (u_18 0), q_19, q_21, q_23, (u_20 0), (u_20 1), (u_20 2), (u_20 3), (u_22 0), (u_22 1), (u_22 2), (u_22 3), (u_24 0), (u_24 1), (u_24 2), (u_24 3)]) 13), .int 0, .ref ((lst [q_1, q_2, q_4, q_6, q_8, q_9, q_11, q_13, q_15, q_17, (u_3 0), (u_3 1), (u_3 2), (u_3 3), (u_3 4), (u_3 5), (u_3 6), (u_3 7), (u_3 8), 0, (u_5 0), (u_5 1), (u_5 2), (u_5 3), (u_5 4), (u_5 5), (u_5 6), (u_5 7), (u_5 8), 0, (u_7 0), (u_7 1), (u_7 2), (u_7 3), (u_10 0), (u_10 1), (u_10 2), (u_10 3), 0, 0, (u_12 0), (u_12 1), (u_12 2), (u_12 3), (u_12 4), (u_14 0), (u_16 0), (u_16 1), (u_16 2), (u_16 3), (u_16 4), (u_18 0), q_19, q_21, q_23, (u_20 0), (u_20 1), (u_20 2), (u_20 3), (u_22 0), (u_22 1), (u_22 2), (u_22 3), (u_24 0), (u_24 1), (u_24 2), (u_24 3)]) 14), .int 0, .ref ((lst [q_1, q_2, q_4, q_6, q_8, q_9, q_11, q_13, q_15, q_17, (u_3 0), (u_3 1), (u_3 2), (u_3 3), (u_3 4), (u_3 5), (u_3 6), (u_3 7), (u_3 8), 0, (u_5 0), (u_5 1), (u_5 2), (u_5 3), (u_5 4), (u_5 5), (u_5 6), (u_5 7), (u_5 8), 0, (u_7 0), (u_7 1), (u_7 2), (u_7 3), (u_10 0), (u_10 1), (u_10 2), (u_10 3), 0, 0, (u_12 0), (u_12 1), (u_12 2), (u_12 3), (u_12 4), (u_14 0), (u_16 0), (u_16 1), (u_16 2), (u_16 3), (u_16 4), (u_18 0), q_19, q_21, q_23, (u_20 0), (u_20 1), (u_20 2), (u_20 3), (u_22 0), (u_22 1), (u_22 2), (u_22 3), (u_24 0), (u_24 1), (u_24 2), (u_24 3)]) 15)])), (((lst [q_1, q_2, q_4, q_6, q_8, q_9, q_11, q_13, q_15, q_17, (u_3 0), (u_3 1), (u_3 2), (u_3 3), (u_3 4), (u_3 5), (u_3 6), (u_3 7), (u_3 8), 0, (u_5 0), (u_5 1), (u_5 2), (u_5 3), (u_5 4), (u_5 5), (u_5 6), (u_5 7), (u_5 8), 0, (u_7 0), (u_7 1), (u_7 2), (u_7 3), (u_10 0), (u_10 1), (u_10 2), (u_10 3), 0, 0, (u_12 0), (u_12 1), (u_12 2), (u_12 3), (u_12 4), (u_14 0), (u_16 0), (u_16 1), (u_16 2), (u_16 3), (u_16 4), (u_18 0), q_19, q_21, q_23, (u_20 0), (u_20 1), (u_20 2), (u_20 3), (u_22 0), (u_22 1), (u_22 2), (u_22 3), (u_24 0), (u_24 1), (u_24 2), (u_24 3)]) 14), .inr (5, [.ref ((lst [q_1, q_2, q_4, q_6, q_8, q_9, q_11, q_13, q_15, q_17, (u_3 0), (u_3 1), (u_3 2), (u_3 3), (u_3 4), (u_3 5), (u_3 6), (u_3 7), (u_3 8), 0, (u_5 0), (u_5 1), (u_5 2), (u_5 3), (u_5 4), (u_5 5), (u_5 6), (u_5 7), (u_5 8), 0, (u_7 0), (u_7 1), (u_7 2), (u_7 3), (u_10 0), (u_10 1), (u_10 2), (u_10 3), 0, 0, (u_12 0), (u_12 1), (u_12 2), (u_12 3), (u_12 4), (u_14 0), (u_16 0), (u_16 1), (u_16 2), (u_16 3), (u_16 4), (u_18 0), q_19, q_21, q_23, (u_20 0), (u_20 1), (u_20 2), (u_20 3), (u_22 0), (u_22 1), (u_22 2), (u_22 3), (u_24 0), (u_24 1), (u_24 2), (u_24 3)]) 16), .ref ((lst [q_1, q_2, q_4, q_6, q_8, q_9, q_11, q_13, q_15, q_17, (u_3 0), (u_3 1), (u_3 2), (u_3 3), (u_3 4), (u_3 5), (u_3 6), (u_3 7), (u_3 8), 0, (u_5 0), (u_5 1), (u_5 2), (u_5 3), (u_5 4), (u_5 5), (u_5 6), (u_5 7), (u_5 8), 0, (u_7 0), (u_7 1), (u_7 2), (u_7 3), (u_10 0), (u_10 1), (u_10 2), (u_10 3), 0, 0, (u_12 0), (u_12 1), (u_12 2), (u_12 3), (u_12 4), (u_14 0), (u_16 0), (u_16 1), (u_16 2), (u_16 3), (u_16 4), (u_18 0), q_19, q_21, q_23, (u_20 0), (u_20 1), (u_20 2), (u_20 3), (u_22 0), (u_22 1), (u_22 2), (u_22 3), (u_24 0), (u_24 1), (u_24 2), (u_24 3)]) 17), .int 0, .ref ((lst [q_1, q_2, q_4, q_6, q_8, q_9, q_11, q_13, q_15, q_17, (u_3 0), (u_3 1), (u_3 2), (u_3 3), (u_3 4), (u_3 5), (u_3 6), (u_3 7), (u_3 8), 0, (u_5 0), (u_5 1), (u_5 2), (u_5 3), (u_5 4), (u_5 5), (u_5 6), (u_5 7), (u_5 8), 0, (u_7 0), (u_7 1), (u_7 2), (u_7 3), (u_10 0), (u_10 1), (u_10 2), (u_10 3), 0, 0, (u_12 0), (u_12 1), (u_12 2), (u_12 3), (u_12 4), (u_14 0), (u_16 0), (u_16 1), (u_16 2), (u_16 3), (u_16 4), (u_18 0), q_19, q_21, q_23, (u_20 0), (u_20 1), (u_20 2), (u_20 3), (u_22 0), (u_22 1), (u_22 2), (u_22 3), (u_24 0), (u_24 1), (u_24 2), (u_24 3)]) 18), .int 0])), (((lst [q_1, q_2, q_4, q_6, q_8, q_9, q_11, q_13, q_15, q_17, (u_3 0), (u_3 1), (u_3 2), (u_3 3), (u_3 4), (u_3 5), (u_3 6), (u_3 7), (u_3 8), 0, (u_5 0), (u_5 1), (u_5 2), (u_5 3), (u_5 4), (u_5 5), (u_5 6), (u_5 7), (u_5 8), 0, (u_7 0), (u_7 1), (u_7 2), (u_7 3), (u_10 0), (u_10 1), (u_10 2), (u_10 3), 0, 0, (u_12 0), (u_12 1), (u_12 2), (u_12 3), (u_12 4), (u_14 0), (u_16 0), (u_16 1), (u_16 2), (u_16 3), (u_16 4), (u_18 0), q_19, q_21, q_23, (u_20 0), (u_20 1), (u_20 2), (u_20 3), (u_22 0), (u_22 1), (u_22 2), (u_22 3), (u_24 0), (u_24 1), (u_24 2), (u_24 3)]) 15), .inl (cy 2, 12, .inl (fun _ => 0))), (((lst [q_1, q_2, q_4, q_6, q_8, q_9, q_11, q_13, q_15, q_17, (u_3 0), (u_3 1), (u_3 2), (u_3 3), (u_3 4), (u_3 5), (u_3 6), (u_3 7), (u_3 8), 0, (u_5 0), (u_5 1), (u_5 2), (u_5 3), (u_5 4), (u_5 5), (u_5 6), (u_5 7), (u_5 8), 0, (u_7 0), (u_7 1), (u_7 2), (u_7 3), (u_10 0), (u_10 1), (u_10 2), (u_10 3), 0, 0, (u_12 0), (u_12 1), (u_12 2), (u_12 3), (u_12 4), (u_14 0), (u_16 0), (u_16 1), (u_16 2), (u_16 3), (u_16 4), (u_18 0), q_19, q_21, q_23, (u_20 0), (u_20 1), (u_20 2), (u_20 3), (u_22 0), (u_22 1), (u_22 2), (u_22 3), (u_24 0), (u_24 1), (u_24 2), (u_24 3)]) 2), .inr (9, [.ref ((lst [q_1, q_2, q_4, q_6, q_8, q_9, q_11, q_13, q_15, q_17, (u_3 0), (u_3 1), (u_3 2), (u_3 3), (u_3 4), (u_3 5), (u_3 6), (u_3 7), (u_3 8), 0, (u_5 0), (u_5 1), (u_5 2), (u_5 3), (u_5 4), (u_5 5), (u_5 6), (u_5 7), (u_5 8), 0, (u_7 0), (u_7 1), (u_7 2), (u_7 3), (u_10 0), (u_10 1), (u_10 2), (u_10 3), 0, 0, (u_12 0), (u_12 1), (u_12 2), (u_12 3), (u_12 4), (u_14 0), (u_16 0), (u_16 1), (u_16 2), (u_16 3), (u_16 4), (u_18 0), q_19, q_21, q_23, (u_20 0), (u_20 1), (u_20 2), (u_20 3), (u_22 0), (u_22 1), (u_22 2), (u_22 3), (u_24 0), (u_24 1), (u_24 2), (u_24 3)]) 20), .ref ((lst [q_1, q_2, q_4, q_6, q_8, q_9, q_11, q_13, q_15, q_17, (u_3 0), (u_3 1), (u_3 2), (u_3 3), (u_3 4), (u_3 5), (u_3 6), (u_3 7), (u_3 8), 0, (u_5 0), (u_5 1), (u_5 2), (u_5 3), (u_5 4), (u_5 5), (u_5 6), (u_5 7), (u_5 8), 0, (u_7 0), (u_7 1), (u_7 2), (u_7 3), (u_10 0), (u_10 1), (u_10 2), (u_10 3), 0, 0, (u_12 0), (u_12 1), (u_12 2), (u_12 3), (u_12 4), (u_14 0), (u_16 0), (u_16 1), (u_16 2), (u_16 3), (u_16 4), (u_18 0), q_19, q_21, q_23, (u_20 0), (u_20 1), (u_20 2), (u_20 3), (u_22 0), (u_22 1), (u_22 2), (u_22 3), (u_24 0), (u_24 1), (u_24 2), (u_24 3)]) 21), .ref ((lst [q_1, q_2, q_4, q_6, q_8, q_9, q_11, q_13, q_15, q_17, (u_3 0), (u_3 1), (u_3 2), (u_3 3), (u_3 4), (u_3 5), (u_3 6), (u_3 7), (u_3 8), 0, (u_5 0), (u_5 1), (u_5 2), (u_5 3), (u_5 4), (u_5 5), (u_5 6), (u_5 7), (u_5 8), 0, (u_7 0), (u_7 1), (u_7 2), (u_7 3), (u_10 0), (u_10 1), (u_10 2), (u_10 3), 0, 0, (u_12 0), (u_12 1), (u_12 2), (u_12 3), (u_12 4), (u_14 0), (u_16 0), (u_16 1), (u_16 2), (u_16 3), (u_16 4), (u_18 0), q_19, q_21, q_23, (u_20 0), (u_20 1), (u_20 2), (u_20 3), (u_22 0), (u_22 1), (u_22 2), (u_22 3), (u_24 0), (u_24 1), (u_24 2), (u_24 3)]) 22), .int 0, .ref ((lst [q_1, q_2, q_4, q_6, q_8, q_9, q_11, q_13, q_15, q_17, (u_3 0), (u_3 1), (u_3 2), (u_3 3), (u_3 4), (u_3 5), (u_3 6), (u_3 7), (u_3 8), 0, (u_5 0), (u_5 1), (u_5 2), (u_5 3), (u_5 4), (u_5 5), (u_5 6), (u_5 7), (u_5 8), 0, (u_7 0), (u_7 1), (u_7 2), (u_7 3), (u_10 0), (u_10 1), (u_10 2), (u_10 3), 0, 0, (u_12 0), (u_12 1), (u_12 2), (u_12 3), (u_12 4), (u_14 0), (u_16 0), (u_16 1), (u_16 2), (u_16 3), (u_16 4), (u_18 0), q_19, q_21, q_23, (u_20 0), (u_20 1), (u_20 2), (u_20 3), (u_22 0), (u_22 1), (u_22 2), (u_22 3), (u_24 0), (u_24 1), (u_24 2), (u_24 3)]) 23), .int 0, .ref ((lst [q_1, q_2, q_4, q_6, q_8, q_9, q_11, q_13, q_15, q_17, (u_3 0), (u_3 1), (u_3 2), (u_3 3), (u_3 4), (u_3 5), (u_3 6), (u_3 7), (u_3 8), 0, (u_5 0), (u_5 1), (u_5 2), (u_5 3), (u_5 4), (u_5 5), (u_5 6), (u_5 7), (u_5 8), 0, (u_7 0), (u_7 1), (u_7 2), (u_7 3), (u_10 0), (u_10 1), (u_10 2), (u_10 3), 0, 0, (u_12 0), (u_12 1), (u_12 2), (u_12 3), (u_12 4), (u_14 0), (u_16 0), (u_16 1), (u_16 2), (u_16 3), (u_16 4), (u_18 0), q_19, q_21, q_23, (u_20 0), (u_20 1), (u_20 2), (u_20 3), (u_22 0), (u_22 1), (u_22 2), (u_22 3), (u_24 0), (u_24 1), (u_24 2), (u_24 3)]) 24), .int 0, .ref ((lst [q_1, q_2, q_4, q_6, q_8, q_9, q_11, q_13, q_15, q_17, (u_3 0), (u_3 1), (u_3 2), (u_3 3), (u_3 4), (u_3 5), (u_3 6), (u_3 7), (u_3 8), 0, (u_5 0), (u_5 1), (u_5 2), (u_5 3), (u_5 4), (u_5 5), (u_5 6), (u_5 7), (u_5 8), 0, (u_7 0), (u_7 1), (u_7 2), (u_7 3), (u_10 0), (u_10 1), (u_10 2), (u_10 3), 0, 0, (u_12 0), (u_12 1), (u_12 2), (u_12 3), (u_12 4), (u_14 0), (u_16 0), (u_16 1), (u_16 2), (u_16 3), (u_16 4), (u_18 0), q_19, q_21, q_23, (u_20 0), (u_20 1), (u_20 2), (u_20 3), (u_22 0), (u_22 1), (u_22 2), (u_22 3), (u_24 0), (u_24 1), (u_24 2), (u_24 3)]) 25)])), (((lst [q_1, q_2, q_4, q_6, q_8, q_9, q_11, q_13, q_15, q_17, (u_3 0), (u_3 1), (u_3 2), (u_3 3), (u_3 4), (u_3 5), (u_3 6), (u_3 7), (u_3 8), 0, (u_5 0), (u_5 1), (u_5 2), (u_5 3), (u_5 4), (u_5 5), (u_5 6), (u_5 7), (u_5 8), 0, (u_7 0), (u_7 1), (u_7 2), (u_7 3), (u_10 0), (u_10 1), (u_10 2), (u_10 3), 0, 0, (u_12 0), (u_12 1), (u_12 2), (u_12 3), (u_12 4), (u_14 0), (u_16 0), (u_16 1), (u_16 2), (u_16 3), (u_16 4), (u_18 0), q_19, q_21, q_23, (u_20 0), (u_20 1), (u_20 2), (u_20 3), (u_22 0), (u_22 1), (u_22 2), (u_22 3), (u_24 0), (u_24 1), (u_24 2), (u_24 3)]) 24), .inr (5, [.ref ((lst [q_1, q_2, q_4, q_6, q_8, q_9, q_11, q_13, q_15, q_17, (u_3 0), (u_3 1), (u_3 2), (u_3 3), (u_3 4), (u_3 5), (u_3 6), (u_3 7), (u_3 8), 0, (u_5 0), (u_5 1), (u_5 2), (u_5 3), (u_5 4), (u_5 5), (u_5 6), (u_5 7), (u_5 8), 0, (u_7 0), (u_7 1), (u_7 2), (u_7 3), (u_10 0), (u_10 1), (u_10 2), (u_10 3), 0, 0, (u_12 0), (u_12 1), (u_12 2), (u_12 3), (u_12 4), (u_14 0), (u_16 0), (u_16 1), (u_16 2), (u_16 3), (u_16 4), (u_18 0), q_19, q_21, q_23, (u_20 0), (u_20 1), (u_20 2), (u_20 3), (u_22 0), (u_22 1), (u_22 2), (u_22 3), (u_24 0), (u_24 1), (u_24 2), (u_24 3)]) 26), .ref ((lst [q_1, q_2, q_4, q_6, q_8, q_9, q_11, q_13, q_15, q_17, (u_3 0), (u_3 1), (u_3 2), (u_3 3), (u_3 4), (u_3 5), (u_3 6), (u_3 7), (u_3 8), 0, (u_5 0), (u_5 1), (u_5 2), (u_5 3), (u_5 4), (u_5 5), (u_5 6), (u_5 7), (u_5 8), 0, (u_7 0), (u_7 1), (u_7 2), (u_7 3), (u_10 0), (u_10 1), (u_10 2), (u_10 3), 0, 0, (u_12 0), (u_12 1), (u_12 2), (u_12 3), (u_12 4), (u_14 0), (u_16 0), (u_16 1), (u_16 2), (u_16 3), (u_16 4), (u_18 0), q_19, q_21, q_23, (u_20 0), (u_20 1), (u_20 2), (u_20 3), (u_22 0), (u_22 1), (u_22 2), (u_22 3), (u_24 0), (u_24 1), (u_24 2), (u_24 3)]) 27), .int 0, .ref ((lst [q_1, q_2, q_4, q_6, q_8, q_9, q_11, q_13, q_15, q_17, (u_3 0), (u_3 1), (u_3 2), (u_3 3), (u_3 4), (u_3 5), (u_3 6), (u_3 7), (u_3 8), 0, (u_5 0), (u_5 1), (u_5 2), (u_5 3), (u_5 4), (u_5 5), (u_5 6), (u_5 7), (u_5 8), 0, (u_7 0), (u_7 1), (u_7 2), (u_7 3), (u_10 0), (u_10 1), (u_10 2), (u_10 3), 0, 0, (u_12 0), (u_12 1), (u_12 2), (u_12 3), (u_12 4), (u_14 0), (u_16 0), (u_16 1), (u_16 2), (u_16 3), (u_16 4), (u_18 0), q_19, q_21, q_23, (u_20 0), (u_20 1), (u_20 2), (u_20 3), (u_22 0), (u_22 1), (u_22 2), (u_22 3), (u_24 0), (u_24 1), (u_24 2), (u_24 3)]) 28), .int 0])), (((lst [q_1, q_2, q_4, q_6, q_8, q_9, q_11, q_13, q_15, q_17, (u_3 0), (u_3 1), (u_3 2), (u_3 3), (u_3 4), (u_3 5), (u_3 6), (u_3 7), (u_3 8), 0, (u_5 0), (u_5 1), (u_5 2), (u_5 3), (u_5 4), (u_5 5), (u_5 6), (u_5 7), (u_5 8), 0, (u_7 0), (u_7 1), (u_7 2), (u_7 3), (u_10 0), (u_10 1), (u_10 2), (u_10 3), 0, 0, (u_12 0), (u_12 1), (u_12 2), (u_12 3), (u_12 4), (u_14 0), (u_16 0), (u_16 1), (u_16 2), (u_16 3), (u_16 4), (u_18 0), q_19, q_21, q_23, (u_20 0), (u_20 1), (u_20 2), (u_20 3), (u_22 0), (u_22 1), (u_22 2), (u_22 3), (u_24 0), (u_24 1), (u_24 2), (u_24 3)]) 25), .inl (cy 2, 12, .inl (fun _ => 0))), (((lst [q_1, q_2, q_4, q_6, q_8, q_9, q_11, q_13, q_15, q_17, (u_3 0), (u_3 1), (u_3 2), (u_3 3), (u_3 4), (u_3 5), (u_3 6), (u_3 7), (u_3 8), 0, (u_5 0), (u_5 1), (u_5 2), (u_5 3), (u_5 4), (u_5 5), (u_5 6), (u_5 7), (u_5 8), 0, (u_7 0), (u_7 1), (u_7 2), (u_7 3), (u_10 0), (u_10 1), (u_10 2), (u_10 3), 0, 0, (u_12 0), (u_12 1), (u_12 2), (u_12 3), (u_12 4), (u_14 0), (u_16 0), (u_16 1), (u_16 2), (u_16 3), (u_16 4), (u_18 0), q_19, q_21, q_23, (u_20 0), (u_20 1), (u_20 2), (u_20 3), (u_22 0), (u_22 1), (u_22 2), (u_22 3), (u_24 0), (u_24 1), (u_24 2), (u_24 3)]) 3), .inr (7, [.ref ((lst [q_1, q_2, q_4, q_6, q_8, q_9, q_11, q_13, q_15, q_17, (u_3 0), (u_3 1), (u_3 2), (u_3 3), (u_3 4), (u_3 5), (u_3 6), (u_3 7), (u_3 8), 0, (u_5 0), (u_5 1), (u_5 2), (u_5 3), (u_5 4), (u_5 5), (u_5 6), (u_5 7), (u_5 8), 0, (u_7 0), (u_7 1), (u_7 2), (u_7 3), (u_10 0), (u_10 1), (u_10 2), (u_10 3), 0, 0, (u_12 0), (u_12 1), (u_12 2), (u_12 3), (u_12 4), (u_14 0), (u_16 0), (u_16 1), (u_16 2), (u_16 3), (u_16 4), (u_18 0), q_19, q_21, q_23, (u_20 0), (u_20 1), (u_20 2), (u_20 3), (u_22 0), (u_22 1), (u_22 2), (u_22 3), (u_24 0), (u_24 1), (u_24 2), (u_24 3)]) 30), .int 0, .int 0, .ref ((lst [q_1, q_2, q_4, q_6, q_8, q_9, q_11, q_13, q_15, q_17, (u_3 0), (u_3 1), (u_3 2), (u_3 3), (u_3 4), (u_3 5), (u_3 6), (u_3 7), (u_3 8), 0, (u_5 0), (u_5 1), (u_5 2), (u_5 3), (u_5 4), (u_5 5), (u_5 6), (u_5 7), (u_5 8), 0, (u_7 0), (u_7 1), (u_7 2), (u_7 3), (u_10 0), (u_10 1), (u_10 2), (u_10 3), 0, 0, (u_12 0), (u_12 1), (u_12 2), (u_12 3), (u_12 4), (u_14 0), (u_16 0), (u_16 1), (u_16 2), (u_16 3), (u_16 4), (u_18 0), q_19, q_21, q_23, (u_20 0), (u_20 1), (u_20 2), (u_20 3), (u_22 0), (u_22 1), (u_22 2), (u_22 3), (u_24 0), (u_24 1), (u_24 2), (u_24 3)]) 31), .int 0])), (((lst [q_1, q_2, q_4, q_6, q_8, q_9, q_11, q_13, q_15, q_17, (u_3 0), (u_3 1), (u_3 2), (u_3 3), (u_3 4), (u_3 5), (u_3 6), (u_3 7), (u_3 8), 0, (u_5 0), (u_5 1), (u_5 2), (u_5 3), (u_5 4), (u_5 5), (u_5 6), (u_5 7), (u_5 8), 0, (u_7 0), (u_7 1), (u_7 2), (u_7 3), (u_10 0), (u_10 1), (u_10 2), (u_10 3), 0, 0, (u_12 0), (u_12 1), (u_12 2), (u_12 3), (u_12 4), (u_14 0), (u_16 0), (u_16 1), (u_16 2), (u_16 3), (u_16 4), (u_18 0), q_19, q_21, q_23, (u_20 0), (u_20 1), (u_20 2), (u_20 3), (u_22 0), (u_22 1), (u_22 2), (u_22 3), (u_24 0), (u_24 1), (u_24 2), (u_24 3)]) 30), .inr (8, [.ref ((lst [q_1, q_2, q_4, q_6, q_8, q_9, q_11, q_13, q_15, q_17, (u_3 0), (u_3 1), (u_3 2), (u_3 3), (u_3 4), (u_3 5), (u_3 6), (u_3 7), (u_3 8), 0, (u_5 0), (u_5 1), (u_5 2), (u_5 3), (u_5 4), (u_5 5), (u_5 6), (u_5 7), (u_5 8), 0, (u_7 0), (u_7 1), (u_7 2), (u_7 3), (u_10 0), (u_10 1), (u_10 2), (u_10 3), 0, 0, (u_12 0), (u_12 1), (u_12 2), (u_12 3), (u_12 4), (u_14 0), (u_16 0), (u_16 1), (u_16 2), (u_16 3), (u_16 4), (u_18 0), q_19, q_21, q_23, (u_20 0), (u_20 1), (u_20 2), (u_20 3), (u_22 0), (u_22 1), (u_22 2), (u_22 3), (u_24 0), (u_24 1), (u_24 2), (u_24 3)]) 32), .ref ((lst [q_1, q_2, q_4, q_6, q_8, q_9, q_11, q_13, q_15, q_17, (u_3 0), (u_3 1), (u_3 2), (u_3 3), (u_3 4), (u_3 5), (u_3 6), (u_3 7), (u_3 8), 0, (u_5 0), (u_5 1), (u_5 2), (u_5 3), (u_5 4), (u_5 5), (u_5 6), (u_5 7), (u_5 8), 0, (u_7 0), (u_7 1), (u_7 2), (u_7 3), (u_10 0), (u_10 1), (u_10 2), (u_10 3), 0, 0, (u_12 0), (u_12 1), (u_12 2), (u_12 3), (u_12 4), (u_14 0), (u_16 0), (u_16 1), (u_16 2), (u_16 3), (u_16 4), (u_18 0), q_19, q_21, q_23, (u_20 0), (u_20 1), (u_20 2), (u_20 3), (u_22 0), (u_22 1), (u_22 2), (u_22 3), (u_24 0), (u_24 1), (u_24 2), (u_24 3)]) 33), .int 0])), (((lst [q_1, q_2, q_4, q_6, q_8, q_9, q_11, q_13, q_15, q_17, (u_3 0), (u_3 1), (u_3 2), (u_3 3), (u_3 4), (u_3 5), (u_3 6), (u_3 7), (u_3 8), 0, (u_5 0), (u_5 1), (u_5 2), (u_5 3), (u_5 4), (u_5 5), (u_5 6), (u_5 7), (u_5 8), 0, (u_7 0), (u_7 1), (u_7 2), (u_7 3), (u_10 0), (u_10 1), (u_10 2), (u_10 3), 0, 0, (u_12 0), (u_12 1), (u_12 2), (u_12 3), (u_12 4), (u_14 0), (u_16 0), (u_16 1), (u_16 2), (u_16 3), (u_16 4), (u_18 0), q_19, q_21, q_23, (u_20 0), (u_20 1), (u_20 2), (u_20 3), (u_22 0), (u_22 1), (u_22 2), (u_22 3), (u_24 0), (u_24 1), (u_24 2), (u_24 3)]) 32), .inl (cy 0, 40, .inl (fun _ => 0))), (((lst [q_1, q_2, q_4, q_6, q_8, q_9, q_11, q_13, q_15, q_17, (u_3 0), (u_3 1), (u_3 2), (u_3 3), (u_3 4), (u_3 5), (u_3 6), (u_3 7), (u_3 8), 0, (u_5 0), (u_5 1), (u_5 2), (u_5 3), (u_5 4), (u_5 5), (u_5 6), (u_5 7), (u_5 8), 0, (u_7 0), (u_7 1), (u_7 2), (u_7 3), (u_10 0), (u_10 1), (u_10 2), (u_10 3), 0, 0, (u_12 0), (u_12 1), (u_12 2), (u_12 3), (u_12 4), (u_14 0), (u_16 0), (u_16 1), (u_16 2), (u_16 3), (u_16 4), (u_18 0), q_19, q_21, q_23, (u_20 0), (u_20 1), (u_20 2), (u_20 3), (u_22 0), (u_22 1), (u_22 2), (u_22 3), (u_24 0), (u_24 1), (u_24 2), (u_24 3)]) 33), .inl (cy 0, 40, .inl (fun _ => 0))), (((lst [q_1, q_2, q_4, q_6, q_8, q_9, q_11, q_13, q_15, q_17, (u_3 0), (u_3 1), (u_3 2), (u_3 3), (u_3 4), (u_3 5), (u_3 6), (u_3 7), (u_3 8), 0, (u_5 0), (u_5 1), (u_5 2), (u_5 3), (u_5 4), (u_5 5), (u_5 6), (u_5 7), (u_5 8), 0, (u_7 0), (u_7 1), (u_7 2), (u_7 3), (u_10 0), (u_10 1), (u_10 2), (u_10 3), 0, 0, (u_12 0), (u_12 1), (u_12 2), (u_12 3), (u_12 4), (u_14 0), (u_16 0), (u_16 1), (u_16 2), (u_16 3), (u_16 4), (u_18 0), q_19, q_21, q_23, (u_20 0), (u_20 1), (u_20 2), (u_20 3), (u_22 0), (u_22 1), (u_22 2), (u_22 3), (u_24 0), (u_24 1), (u_24 2), (u_24 3)]) 31), .inl (cy 0, 8, .inl (fun _ => 0))), (((lst [q_1, q_2, q_4, q_6, q_8, q_9, q_11, q_13, q_15, q_17, (u_3 0), (u_3 1), (u_3 2), (u_3 3), (u_3 4), (u_3 5), (u_3 6), (u_3 7), (u_3 8), 0, (u_5 0), (u_5 1), (u_5 2), (u_5 3), (u_5 4), (u_5 5), (u_5 6), (u_5 7), (u_5 8), 0, (u_7 0), (u_7 1), (u_7 2), (u_7 3), (u_10 0), (u_10 1), (u_10 2), (u_10 3), 0, 0, (u_12 0), (u_12 1), (u_12 2), (u_12 3), (u_12 4), (u_14 0), (u_16 0), (u_16 1), (u_16 2), (u_16 3), (u_16 4), (u_18 0), q_19, q_21, q_23, (u_20 0), (u_20 1), (u_20 2), (u_20 3), (u_22 0), (u_22 1), (u_22 2), (u_22 3), (u_24 0), (u_24 1), (u_24 2), (u_24 3)]) 4), .inl (cy 7, 3, .inr (.inr (.inr (.inr (va_up (va_up (va_up (fun _ => none) 0 (some ((lst [q_1, q_2, q_4, q_6, q_8, q_9, q_11, q_13, q_15, q_17, (u_3 0), (u_3 1), (u_3 2), (u_3 3), (u_3 4), (u_3 5), (u_3 6), (u_3 7), (u_3 8), 0, (u_5 0), (u_5 1), (u_5 2), (u_5 3), (u_5 4), (u_5 5), (u_5 6), (u_5 7), (u_5 8), 0, (u_7 0), (u_7 1), (u_7 2), (u_7 3), (u_10 0), (u_10 1), (u_10 2), (u_10 3), 0, 0, (u_12 0), (u_12 1), (u_12 2), (u_12 3), (u_12 4), (u_14 0), (u_16 0), (u_16 1), (u_16 2), (u_16 3), (u_16 4), (u_18 0), q_19, q_21, q_23, (u_20 0), (u_20 1), (u_20 2), (u_20 3), (u_22 0), (u_22 1), (u_22 2), (u_22 3), (u_24 0), (u_24 1), (u_24 2), (u_24 3)]) 52))) 1 (some ((lst [q_1, q_2, q_4, q_6, q_8, q_9, q_11, q_13, q_15, q_17, (u_3 0), (u_3 1), (u_3 2), (u_3 3), (u_3 4), (u_3 5), (u_3 6), (u_3 7), (u_3 8), 0, (u_5 0), (u_5 1), (u_5 2), (u_5 3), (u_5 4), (u_5 5), (u_5 6), (u_5 7), (u_5 8), 0, (u_7 0), (u_7 1), (u_7 2), (u_7 3), (u_10 0), (u_10 1), (u_10 2), (u_10 3), 0, 0, (u_12 0), (u_12 1), (u_12 2), (u_12 3), (u_12 4), (u_14 0), (u_16 0), (u_16 1), (u_16 2), (u_16 3), (u_16 4), (u_18 0), q_19, q_21, q_23, (u_20 0), (u_20 1), (u_20 2), (u_20 3), (u_22 0), (u_22 1), (u_22 2), (u_22 3), (u_24 0), (u_24 1), (u_24 2), (u_24 3)]) 53))) 2 (some ((lst [q_1, q_2, q_4, q_6, q_8, q_9, q_11, q_13, q_15, q_17, (u_3 0), (u_3 1), (u_3 2), (u_3 3), (u_3 4), (u_3 5), (u_3 6), (u_3 7), (u_3 8), 0, (u_5 0), (u_5 1), (u_5 2), (u_5 3), (u_5 4), (u_5 5), (u_5 6), (u_5 7), (u_5 8), 0, (u_7 0), (u_7 1), (u_7 2), (u_7 3), (u_10 0), (u_10 1), (u_10 2), (u_10 3), 0, 0, (u_12 0), (u_12 1), (u_12 2), (u_12 3), (u_12 4), (u_14 0), (u_16 0), (u_16 1), (u_16 2), (u_16 3), (u_16 4), (u_18 0), q_19, q_21, q_23, (u_20 0), (u_20 1), (u_20 2), (u_20 3), (u_22 0), (u_22 1), (u_22 2), (u_22 3), (u_24 0), (u_24 1), (u_24 2), (u_24 3)]) 54)))))))), (((lst [q_1, q_2, q_4, q_6, q_8, q_9, q_11, q_13, q_15, q_17, (u_3 0), (u_3 1), (u_3 2), (u_3 3), (u_3 4), (u_3 5), (u_3 6), (u_3 7), (u_3 8), 0, (u_5 0), (u_5 1), (u_5 2), (u_5 3), (u_5 4), (u_5 5), (u_5 6), (u_5 7), (u_5 8), 0, (u_7 0), (u_7 1), (u_7 2), (u_7 3), (u_10 0), (u_10 1), (u_10 2), (u_10 3), 0, 0, (u_12 0), (u_12 1), (u_12 2), (u_12 3), (u_12 4), (u_14 0), (u_16 0), (u_16 1), (u_16 2), (u_16 3), (u_16 4), (u_18 0), q_19, q_21, q_23, (u_20 0), (u_20 1), (u_20 2), (u_20 3), (u_22 0), (u_22 1), (u_22 2), (u_22 3), (u_24 0), (u_24 1), (u_24 2), (u_24 3)]) 5), .inr (2, [.ref ((lst [q_1, q_2, q_4, q_6, q_8, q_9, q_11, q_13, q_15, q_17, (u_3 0), (u_3 1), (u_3 2), (u_3 3), (u_3 4), (u_3 5), (u_3 6), (u_3 7), (u_3 8), 0, (u_5 0), (u_5 1), (u_5 2), (u_5 3), (u_5 4), (u_5 5), (u_5 6), (u_5 7), (u_5 8), 0, (u_7 0), (u_7 1), (u_7 2), (u_7 3), (u_10 0), (u_10 1), (u_10 2), (u_10 3), 0, 0, (u_12 0), (u_12 1), (u_12 2), (u_12 3), (u_12 4), (u_14 0), (u_16 0), (u_16 1), (u_16 2), (u_16 3), (u_16 4), (u_18 0), q_19, q_21, q_23, (u_20 0), (u_20 1), (u_20 2), (u_20 3), (u_22 0), (u_22 1), (u_22 2), (u_22 3), (u_24 0), (u_24 1), (u_24 2), (u_24 3)]) 34), .ref ((lst [q_1, q_2, q_4, q_6, q_8, q_9, q_11, q_13, q_15, q_17, (u_3 0), (u_3 1), (u_3 2), (u_3 3), (u_3 4), (u_3 5), (u_3 6), (u_3 7), (u_3 8), 0, (u_5 0), (u_5 1), (u_5 2), (u_5 3), (u_5 4), (u_5 5), (u_5 6), (u_5 7), (u_5 8), 0, (u_7 0), (u_7 1), (u_7 2), (u_7 3), (u_10 0), (u_10 1), (u_10 2), (u_10 3), 0, 0, (u_12 0), (u_12 1), (u_12 2), (u_12 3), (u_12 4), (u_14 0), (u_16 0), (u_16 1), (u_16 2), (u_16 3), (u_16 4), (u_18 0), q_19, q_21, q_23, (u_20 0), (u_20 1), (u_20 2), (u_20 3), (u_22 0), (u_22 1), (u_22 2), (u_22 3), (u_24 0), (u_24 1), (u_24 2), (u_24 3)]) 35), .ref ((lst [q_1, q_2, q_4, q_6, q_8, q_9, q_11, q_13, q_15, q_17, (u_3 0), (u_3 1), (u_3 2), (u_3 3), (u_3 4), (u_3 5), (u_3 6), (u_3 7), (u_3 8), 0, (u_5 0), (u_5 1), (u_5 2), (u_5 3), (u_5 4), (u_5 5), (u_5 6), (u_5 7), (u_5 8), 0, (u_7 0), (u_7 1), (u_7 2), (u_7 3), (u_10 0), (u_10 1), (u_10 2), (u_10 3), 0, 0, (u_12 0), (u_12 1), (u_12 2), (u_12 3), (u_12 4), (u_14 0), (u_16 0), (u_16 1), (u_16 2), (u_16 3), (u_16 4), (u_18 0), q_19, q_21, q_23, (u_20 0), (u_20 1), (u_20 2), (u_20 3), (u_22 0), (u_22 1), (u_22 2), (u_22 3), (u_24 0), (u_24 1), (u_24 2), (u_24 3)]) 36), .ref ((lst [q_1, q_2, q_4, q_6, q_8, q_9, q_11, q_13, q_15, q_17, (u_3 0), (u_3 1), (u_3 2), (u_3 3), (u_3 4), (u_3 5), (u_3 6), (u_3 7), (u_3 8), 0, (u_5 0), (u_5 1), (u_5 2), (u_5 3), (u_5 4), (u_5 5), (u_5 6), (u_5 7), (u_5 8), 0, (u_7 0), (u_7 1), (u_7 2), (u_7 3), (u_10 0), (u_10 1), (u_10 2), (u_10 3), 0, 0, (u_12 0), (u_12 1), (u_12 2), (u_12 3), (u_12 4), (u_14 0), (u_16 0), (u_16 1), (u_16 2), (u_16 3), (u_16 4), (u_18 0), q_19, q_21, q_23, (u_20 0), (u_20 1), (u_20 2), (u_20 3), (u_22 0), (u_22 1), (u_22 2), (u_22 3), (u_24 0), (u_24 1), (u_24 2), (u_24 3)]) 37), .int 0])), (((lst [q_1, q_2, q_4, q_6, q_8, q_9, q_11, q_13, q_15, q_17, (u_3 0), (u_3 1), (u_3 2), (u_3 3), (u_3 4), (u_3 5), (u_3 6), (u_3 7), (u_3 8), 0, (u_5 0), (u_5 1), (u_5 2), (u_5 3), (u_5 4), (u_5 5), (u_5 6), (u_5 7), (u_5 8), 0, (u_7 0), (u_7 1), (u_7 2), (u_7 3), (u_10 0), (u_10 1), (u_10 2), (u_10 3), 0, 0, (u_12 0), (u_12 1), (u_12 2), (u_12 3), (u_12 4), (u_14 0), (u_16 0), (u_16 1), (u_16 2), (u_16 3), (u_16 4), (u_18 0), q_19, q_21, q_23, (u_20 0), (u_20 1), (u_20 2), (u_20 3), (u_22 0), (u_22 1), (u_22 2), (u_22 3), (u_24 0), (u_24 1), (u_24 2), (u_24 3)]) 6), .inr (10, [.ref ((lst [q_1, q_2, q_4, q_6, q_8, q_9, q_11, q_13, q_15, q_17, (u_3 0), (u_3 1), (u_3 2), (u_3 3), (u_3 4), (u_3 5), (u_3 6), (u_3 7), (u_3 8), 0, (u_5 0), (u_5 1), (u_5 2), (u_5 3), (u_5 4), (u_5 5), (u_5 6), (u_5 7), (u_5 8), 0, (u_7 0), (u_7 1), (u_7 2), (u_7 3), (u_10 0), (u_10 1), (u_10 2), (u_10 3), 0, 0, (u_12 0), (u_12 1), (u_12 2), (u_12 3), (u_12 4), (u_14 0), (u_16 0), (u_16 1), (u_16 2), (u_16 3), (u_16 4), (u_18 0), q_19, q_21, q_23, (u_20 0), (u_20 1), (u_20 2), (u_20 3), (u_22 0), (u_22 1), (u_22 2), (u_22 3), (u_24 0), (u_24 1), (u_24 2), (u_24 3)]) 40), .ref ((lst [q_1, q_2, q_4, q_6, q_8, q_9, q_11, q_13, q_15, q_17, (u_3 0), (u_3 1), (u_3 2), (u_3 3), (u_3 4), (u_3 5), (u_3 6), (u_3 7), (u_3 8), 0, (u_5 0), (u_5 1), (u_5 2), (u_5 3), (u_5 4), (u_5 5), (u_5 6), (u_5 7), (u_5 8), 0, (u_7 0), (u_7 1), (u_7 2), (u_7 3), (u_10 0), (u_10 1), (u_10 2), (u_10 3), 0, 0, (u_12 0), (u_12 1), (u_12 2), (u_12 3), (u_12 4), (u_14 0), (u_16 0), (u_16 1), (u_16 2), (u_16 3), (u_16 4), (u_18 0), q_19, q_21, q_23, (u_20 0), (u_20 1), (u_20 2), (u_20 3), (u_22 0), (u_22 1), (u_22 2), (u_22 3), (u_24 0), (u_24 1), (u_24 2), (u_24 3)]) 41), .ref ((lst [q_1, q_2, q_4, q_6, q_8, q_9, q_11, q_13, q_15, q_17, (u_3 0), (u_3 1), (u_3 2), (u_3 3), (u_3 4), (u_3 5), (u_3 6), (u_3 7), (u_3 8), 0, (u_5 0), (u_5 1), (u_5 2), (u_5 3), (u_5 4), (u_5 5), (u_5 6), (u_5 7), (u_5 8), 0, (u_7 0), (u_7 1), (u_7 2), (u_7 3), (u_10 0), (u_10 1), (u_10 2), (u_10 3), 0, 0, (u_12 0), (u_12 1), (u_12 2), (u_12 3), (u_12 4), (u_14 0), (u_16 0), (u_16 1), (u_16 2), (u_16 3), (u_16 4), (u_18 0), q_19, q_21, q_23, (u_20 0), (u_20 1), (u_20 2), (u_20 3), (u_22 0), (u_22 1), (u_22 2), (u_22 3), (u_24 0), (u_24 1), (u_24 2), (u_24 3)]) 42), .ref ((lst [q_1, q_2, q_4, q_6, q_8, q_9, q_11, q_13, q_15, q_17, (u_3 0), (u_3 1), (u_3 2), (u_3 3), (u_3 4), (u_3 5), (u_3 6), (u_3 7), (u_3 8), 0, (u_5 0), (u_5 1), (u_5 2), (u_5 3), (u_5 4), (u_5 5), (u_5 6), (u_5 7), (u_5 8), 0, (u_7 0), (u_7 1), (u_7 2), (u_7 3), (u_10 0), (u_10 1), (u_10 2), (u_10 3), 0, 0, (u_12 0), (u_12 1), (u_12 2), (u_12 3), (u_12 4), (u_14 0), (u_16 0), (u_16 1), (u_16 2), (u_16 3), (u_16 4), (u_18 0), q_19, q_21, q_23, (u_20 0), (u_20 1), (u_20 2), (u_20 3), (u_22 0), (u_22 1), (u_22 2), (u_22 3), (u_24 0), (u_24 1), (u_24 2), (u_24 3)]) 43), .ref ((lst [q_1, q_2, q_4, q_6, q_8, q_9, q_11, q_13, q_15, q_17, (u_3 0), (u_3 1), (u_3 2), (u_3 3), (u_3 4), (u_3 5), (u_3 6), (u_3 7), (u_3 8), 0, (u_5 0), (u_5 1), (u_5 2), (u_5 3), (u_5 4), (u_5 5), (u_5 6), (u_5 7), (u_5 8), 0, (u_7 0), (u_7 1), (u_7 2), (u_7 3), (u_10 0), (u_10 1), (u_10 2), (u_10 3), 0, 0, (u_12 0), (u_12 1), (u_12 2), (u_12 3), (u_12 4), (u_14 0), (u_16 0), (u_16 1), (u_16 2), (u_16 3), (u_16 4), (u_18 0), q_19, q_21, q_23, (u_20 0), (u_20 1), (u_20 2), (u_20 3), (u_22 0), (u_22 1), (u_22 2), (u_22 3), (u_24 0), (u_24 1), (u_24 2), (u_24 3)]) 44), .int 0])), (((lst [q_1, q_2, q_4, q_6, q_8, q_9, q_11, q_13, q_15, q_17, (u_3 0), (u_3 1), (u_3 2), (u_3 3), (u_3 4), (u_3 5), (u_3 6), (u_3 7), (u_3 8), 0, (u_5 0), (u_5 1), (u_5 2), (u_5 3), (u_5 4), (u_5 5), (u_5 6), (u_5 7), (u_5 8), 0, (u_7 0), (u_7 1), (u_7 2), (u_7 3), (u_10 0), (u_10 1), (u_10 2), (u_10 3), 0, 0, (u_12 0), (u_12 1), (u_12 2), (u_12 3), (u_12 4), (u_14 0), (u_16 0), (u_16 1), (u_16 2), (u_16 3), (u_16 4), (u_18 0), q_19, q_21, q_23, (u_20 0), (u_20 1), (u_20 2), (u_20 3), (u_22 0), (u_22 1), (u_22 2), (u_22 3), (u_24 0), (u_24 1), (u_24 2), (u_24 3)]) 7), .inr (1, [.ref ((lst [q_1, q_2, q_4, q_6, q_8, q_9, q_11, q_13, q_15, q_17, (u_3 0), (u_3 1), (u_3 2), (u_3 3), (u_3 4), (u_3 5), (u_3 6), (u_3 7), (u_3 8), 0, (u_5 0), (u_5 1), (u_5 2), (u_5 3), (u_5 4), (u_5 5), (u_5 6), (u_5 7), (u_5 8), 0, (u_7 0), (u_7 1), (u_7 2), (u_7 3), (u_10 0), (u_10 1), (u_10 2), (u_10 3), 0, 0, (u_12 0), (u_12 1), (u_12 2), (u_12 3), (u_12 4), (u_14 0), (u_16 0), (u_16 1), (u_16 2), (u_16 3), (u_16 4), (u_18 0), q_19, q_21, q_23, (u_20 0), (u_20 1), (u_20 2), (u_20 3), (u_22 0), (u_22 1), (u_22 2), (u_22 3), (u_24 0), (u_24 1), (u_24 2), (u_24 3)]) 45), .int 0, .int 0])), (((lst [q_1, q_2, q_4, q_6, q_8, q_9, q_11, q_13, q_15, q_17, (u_3 0), (u_3 1), (u_3 2), (u_3 3), (u_3 4), (u_3 5), (u_3 6), (u_3 7), (u_3 8), 0, (u_5 0), (u_5 1), (u_5 2), (u_5 3), (u_5 4), (u_5 5), (u_5 6), (u_5 7), (u_5 8), 0, (u_7 0), (u_7 1), (u_7 2), (u_7 3), (u_10 0), (u_10 1), (u_10 2), (u_10 3), 0, 0, (u_12 0), (u_12 1), (u_12 2), (u_12 3), (u_12 4), (u_14 0), (u_16 0), (u_16 1), (u_16 2), (u_16 3), (u_16 4), (u_18 0), q_19, q_21, q_23, (u_20 0), (u_20 1), (u_20 2), (u_20 3), (u_22 0), (u_22 1), (u_22 2), (u_22 3), (u_24 0), (u_24 1), (u_24 2), (u_24 3)]) 8), .inr (3, [.ref ((lst [q_1, q_2, q_4, q_6, q_8, q_9, q_11, q_13, q_15, q_17, (u_3 0), (u_3 1), (u_3 2), (u_3 3), (u_3 4), (u_3 5), (u_3 6), (u_3 7), (u_3 8), 0, (u_5 0), (u_5 1), (u_5 2), (u_5 3), (u_5 4), (u_5 5), (u_5 6), (u_5 7), (u_5 8), 0, (u_7 0), (u_7 1), (u_7 2), (u_7 3), (u_10 0), (u_10 1), (u_10 2), (u_10 3), 0, 0, (u_12 0), (u_12 1), (u_12 2), (u_12 3), (u_12 4), (u_14 0), (u_16 0), (u_16 1), (u_16 2), (u_16 3), (u_16 4), (u_18 0), q_19, q_21, q_23, (u_20 0), (u_20 1), (u_20 2), (u_20 3), (u_22 0), (u_22 1), (u_22 2), (u_22 3), (u_24 0), (u_24 1), (u_24 2), (u_24 3)]) 46), .ref ((lst [q_1, q_2, q_4, q_6, q_8, q_9, q_11, q_13, q_15, q_17, (u_3 0), (u_3 1), (u_3 2), (u_3 3), (u_3 4), (u_3 5), (u_3 6), (u_3 7), (u_3 8), 0, (u_5 0), (u_5 1), (u_5 2), (u_5 3), (u_5 4), (u_5 5), (u_5 6), (u_5 7), (u_5 8), 0, (u_7 0), (u_7 1), (u_7 2), (u_7 3), (u_10 0), (u_10 1), (u_10 2), (u_10 3), 0, 0, (u_12 0), (u_12 1), (u_12 2), (u_12 3), (u_12 4), (u_14 0), (u_16 0), (u_16 1), (u_16 2), (u_16 3), (u_16 4), (u_18 0), q_19, q_21, q_23, (u_20 0), (u_20 1), (u_20 2), (u_20 3), (u_22 0), (u_22 1), (u_22 2), (u_22 3), (u_24 0), (u_24 1), (u_24 2), (u_24 3)]) 47), .int 0, .ref ((lst [q_1, q_2, q_4, q_6, q_8, q_9, q_11, q_13, q_15, q_17, (u_3 0), (u_3 1), (u_3 2), (u_3 3), (u_3 4), (u_3 5), (u_3 6), (u_3 7), (u_3 8), 0, (u_5 0), (u_5 1), (u_5 2), (u_5 3), (u_5 4), (u_5 5), (u_5 6), (u_5 7), (u_5 8), 0, (u_7 0), (u_7 1), (u_7 2), (u_7 3), (u_10 0), (u_10 1), (u_10 2), (u_10 3), 0, 0, (u_12 0), (u_12 1), (u_12 2), (u_12 3), (u_12 4), (u_14 0), (u_16 0), (u_16 1), (u_16 2), (u_16 3), (u_16 4), (u_18 0), q_19, q_21, q_23, (u_20 0), (u_20 1), (u_20 2), (u_20 3), (u_22 0), (u_22 1), (u_22 2), (u_22 3), (u_24 0), (u_24 1), (u_24 2), (u_24 3)]) 48), .ref ((lst [q_1, q_2, q_4, q_6, q_8, q_9, q_11, q_13, q_15, q_17, (u_3 0), (u_3 1), (u_3 2), (u_3 3), (u_3 4), (u_3 5), (u_3 6), (u_3 7), (u_3 8), 0, (u_5 0), (u_5 1), (u_5 2), (u_5 3), (u_5 4), (u_5 5), (u_5 6), (u_5 7), (u_5 8), 0, (u_7 0), (u_7 1), (u_7 2), (u_7 3), (u_10 0), (u_10 1), (u_10 2), (u_10 3), 0, 0, (u_12 0), (u_12 1), (u_12 2), (u_12 3), (u_12 4), (u_14 0), (u_16 0), (u_16 1), (u_16 2), (u_16 3), (u_16 4), (u_18 0), q_19, q_21, q_23, (u_20 0), (u_20 1), (u_20 2), (u_20 3), (u_22 0), (u_22 1), (u_22 2), (u_22 3), (u_24 0), (u_24 1), (u_24 2), (u_24 3)]) 49), .ref ((lst [q_1, q_2, q_4, q_6, q_8, q_9, q_11, q_13, q_15, q_17, (u_3 0), (u_3 1), (u_3 2), (u_3 3), (u_3 4), (u_3 5), (u_3 6), (u_3 7), (u_3 8), 0, (u_5 0), (u_5 1), (u_5 2), (u_5 3), (u_5 4), (u_5 5), (u_5 6), (u_5 7), (u_5 8), 0, (u_7 0), (u_7 1), (u_7 2), (u_7 3), (u_10 0), (u_10 1), (u_10 2), (u_10 3), 0, 0, (u_12 0), (u_12 1), (u_12 2), (u_12 3), (u_12 4), (u_14 0), (u_16 0), (u_16 1), (u_16 2), (u_16 3), (u_16 4), (u_18 0), q_19, q_21, q_23, (u_20 0), (u_20 1), (u_20 2), (u_20 3), (u_22 0), (u_22 1), (u_22 2), (u_22 3), (u_24 0), (u_24 1), (u_24 2), (u_24 3)]) 50), .int 0])), (((lst [q_1, q_2, q_4, q_6, q_8, q_9, q_11, q_13, q_15, q_17, (u_3 0), (u_3 1), (u_3 2), (u_3 3), (u_3 4), (u_3 5), (u_3 6), (u_3 7), (u_3 8), 0, (u_5 0), (u_5 1), (u_5 2), (u_5 3), (u_5 4), (u_5 5), (u_5 6), (u_5 7), (u_5 8), 0, (u_7 0), (u_7 1), (u_7 2), (u_7 3), (u_10 0), (u_10 1), (u_10 2), (u_10 3), 0, 0, (u_12 0), (u_12 1), (u_12 2), (u_12 3), (u_12 4), (u_14 0), (u_16 0), (u_16 1), (u_16 2), (u_16 3), (u_16 4), (u_18 0), q_19, q_21, q_23, (u_20 0), (u_20 1), (u_20 2), (u_20 3), (u_22 0), (u_22 1), (u_22 2), (u_22 3), (u_24 0), (u_24 1), (u_24 2), (u_24 3)]) 49), .inl (cy 0, 6, .inl (fun _ => 0))), (((lst [q_1, q_2, q_4, q_6, q_8, q_9, q_11, q_13, q_15, q_17, (u_3 0), (u_3 1), (u_3 2), (u_3 3), (u_3 4), (u_3 5), (u_3 6), (u_3 7), (u_3 8), 0, (u_5 0), (u_5 1), (u_5 2), (u_5 3), (u_5 4), (u_5 5), (u_5 6), (u_5 7), (u_5 8), 0, (u_7 0), (u_7 1), (u_7 2), (u_7 3), (u_10 0), (u_10 1), (u_10 2), (u_10 3), 0, 0, (u_12 0), (u_12 1), (u_12 2), (u_12 3), (u_12 4), (u_14 0), (u_16 0), (u_16 1), (u_16 2), (u_16 3), (u_16 4), (u_18 0), q_19, q_21, q_23, (u_20 0), (u_20 1), (u_20 2), (u_20 3), (u_22 0), (u_22 1), (u_22 2), (u_22 3), (u_24 0), (u_24 1), (u_24 2), (u_24 3)]) 50), .inl (cy 0, 6, .inl (fun _ => 0))), (((lst [q_1, q_2, q_4, q_6, q_8, q_9, q_11, q_13, q_15, q_17, (u_3 0), (u_3 1), (u_3 2), (u_3 3), (u_3 4), (u_3 5), (u_3 6), (u_3 7), (u_3 8), 0, (u_5 0), (u_5 1), (u_5 2), (u_5 3), (u_5 4), (u_5 5), (u_5 6), (u_5 7), (u_5 8), 0, (u_7 0), (u_7 1), (u_7 2), (u_7 3), (u_10 0), (u_10 1), (u_10 2), (u_10 3), 0, 0, (u_12 0), (u_12 1), (u_12 2), (u_12 3), (u_12 4), (u_14 0), (u_16 0), (u_16 1), (u_16 2), (u_16 3), (u_16 4), (u_18 0), q_19, q_21, q_23, (u_20 0), (u_20 1), (u_20 2), (u_20 3), (u_22 0), (u_22 1), (u_22 2), (u_22 3), (u_24 0), (u_24 1), (u_24 2), (u_24 3)]) 9), .inr (0, [.ref ((lst [q_1, q_2, q_4, q_6, q_8, q_9, q_11, q_13, q_15, q_17, (u_3 0), (u_3 1), (u_3 2), (u_3 3), (u_3 4), (u_3 5), (u_3 6), (u_3 7), (u_3 8), 0, (u_5 0), (u_5 1), (u_5 2), (u_5 3), (u_5 4), (u_5 5), (u_5 6), (u_5 7), (u_5 8), 0, (u_7 0), (u_7 1), (u_7 2), (u_7 3), (u_10 0), (u_10 1), (u_10 2), (u_10 3), 0, 0, (u_12 0), (u_12 1), (u_12 2), (u_12 3), (u_12 4), (u_14 0), (u_16 0), (u_16 1), (u_16 2), (u_16 3), (u_16 4), (u_18 0), q_19, q_21, q_23, (u_20 0), (u_20 1), (u_20 2), (u_20 3), (u_22 0), (u_22 1), (u_22 2), (u_22 3), (u_24 0), (u_24 1), (u_24 2), (u_24 3)]) 51), .int 0])), (((lst [q_1, q_2, q_4, q_6, q_8, q_9, q_11, q_13, q_15, q_17, (u_3 0), (u_3 1), (u_3 2), (u_3 3), (u_3 4), (u_3 5), (u_3 6), (u_3 7), (u_3 8), 0, (u_5 0), (u_5 1), (u_5 2), (u_5 3), (u_5 4), (u_5 5), (u_5 6), (u_5 7), (u_5 8), 0, (u_7 0), (u_7 1), (u_7 2), (u_7 3), (u_10 0), (u_10 1), (u_10 2), (u_10 3), 0, 0, (u_12 0), (u_12 1), (u_12 2), (u_12 3), (u_12 4), (u_14 0), (u_16 0), (u_16 1), (u_16 2), (u_16 3), (u_16 4), (u_18 0), q_19, q_21, q_23, (u_20 0), (u_20 1), (u_20 2), (u_20 3), (u_22 0), (u_22 1), (u_22 2), (u_22 3), (u_24 0), (u_24 1), (u_24 2), (u_24 3)]) 52), .inr (7, [.ref ((lst [q_1, q_2, q_4, q_6, q_8, q_9, q_11, q_13, q_15, q_17, (u_3 0), (u_3 1), (u_3 2), (u_3 3), (u_3 4), (u_3 5), (u_3 6), (u_3 7), (u_3 8), 0, (u_5 0), (u_5 1), (u_5 2), (u_5 3), (u_5 4), (u_5 5), (u_5 6), (u_5 7), (u_5 8), 0, (u_7 0), (u_7 1), (u_7 2), (u_7 3), (u_10 0), (u_10 1), (u_10 2), (u_10 3), 0, 0, (u_12 0), (u_12 1), (u_12 2), (u_12 3), (u_12 4), (u_14 0), (u_16 0), (u_16 1), (u_16 2), (u_16 3), (u_16 4), (u_18 0), q_19, q_21, q_23, (u_20 0), (u_20 1), (u_20 2), (u_20 3), (u_22 0), (u_22 1), (u_22 2), (u_22 3), (u_24 0), (u_24 1), (u_24 2), (u_24 3)]) 55), .int 0, .int 0, .ref ((lst [q_1, q_2, q_4, q_6, q_8, q_9, q_11, q_13, q_15, q_17, (u_3 0), (u_3 1), (u_3 2), (u_3 3), (u_3 4), (u_3 5), (u_3 6), (u_3 7), (u_3 8), 0, (u_5 0), (u_5 1), (u_5 2), (u_5 3), (u_5 4), (u_5 5), (u_5 6), (u_5 7), (u_5 8), 0, (u_7 0), (u_7 1), (u_7 2), (u_7 3), (u_10 0), (u_10 1), (u_10 2), (u_10 3), 0, 0, (u_12 0), (u_12 1), (u_12 2), (u_12 3), (u_12 4), (u_14 0), (u_16 0), (u_16 1), (u_16 2), (u_16 3), (u_16 4), (u_18 0), q_19, q_21, q_23, (u_20 0), (u_20 1), (u_20 2), (u_20 3), (u_22 0), (u_22 1), (u_22 2), (u_22 3), (u_24 0), (u_24 1), (u_24 2), (u_24 3)]) 56), .int 0])), (((lst [q_1, q_2, q_4, q_6, q_8, q_9, q_11, q_13, q_15, q_17, (u_3 0), (u_3 1), (u_3 2), (u_3 3), (u_3 4), (u_3 5), (u_3 6), (u_3 7), (u_3 8), 0, (u_5 0), (u_5 1), (u_5 2), (u_5 3), (u_5 4), (u_5 5), (u_5 6), (u_5 7), (u_5 8), 0, (u_7 0), (u_7 1), (u_7 2), (u_7 3), (u_10 0), (u_10 1), (u_10 2), (u_10 3), 0, 0, (u_12 0), (u_12 1), (u_12 2), (u_12 3), (u_12 4), (u_14 0), (u_16 0), (u_16 1), (u_16 2), (u_16 3), (u_16 4), (u_18 0), q_19, q_21, q_23, (u_20 0), (u_20 1), (u_20 2), (u_20 3), (u_22 0), (u_22 1), (u_22 2), (u_22 3), (u_24 0), (u_24 1), (u_24 2), (u_24 3)]) 55), .inr (8, [.ref ((lst [q_1, q_2, q_4, q_6, q_8, q_9, q_11, q_13, q_15, q_17, (u_3 0), (u_3 1), (u_3 2), (u_3 3), (u_3 4), (u_3 5), (u_3 6), (u_3 7), (u_3 8), 0, (u_5 0), (u_5 1), (u_5 2), (u_5 3), (u_5 4), (u_5 5), (u_5 6), (u_5 7), (u_5 8), 0, (u_7 0), (u_7 1), (u_7 2), (u_7 3), (u_10 0), (u_10 1), (u_10 2), (u_10 3), 0, 0, (u_12 0), (u_12 1), (u_12 2), (u_12 3), (u_12 4), (u_14 0), (u_16 0), (u_16 1), (u_16 2), (u_16 3), (u_16 4), (u_18 0), q_19, q_21, q_23, (u_20 0), (u_20 1), (u_20 2), (u_20 3), (u_22 0), (u_22 1), (u_22 2), (u_22 3), (u_24 0), (u_24 1), (u_24 2), (u_24 3)]) 57), .ref ((lst [q_1, q_2, q_4, q_6, q_8, q_9, q_11, q_13, q_15, q_17, (u_3 0), (u_3 1), (u_3 2), (u_3 3), (u_3 4), (u_3 5), (u_3 6), (u_3 7), (u_3 8), 0, (u_5 0), (u_5 1), (u_5 2), (u_5 3), (u_5 4), (u_5 5), (u_5 6), (u_5 7), (u_5 8), 0, (u_7 0), (u_7 1), (u_7 2), (u_7 3), (u_10 0), (u_10 1), (u_10 2), (u_10 3), 0, 0, (u_12 0), (u_12 1), (u_12 2), (u_12 3), (u_12 4), (u_14 0), (u_16 0), (u_16 1), (u_16 2), (u_16 3), (u_16 4), (u_18 0), q_19, q_21, q_23, (u_20 0), (u_20 1), (u_20 2), (u_20 3), (u_22 0), (u_22 1), (u_22 2), (u_22 3), (u_24 0), (u_24 1), (u_24 2), (u_24 3)]) 58), .int 0])), (((lst [q_1, q_2, q_4, q_6, q_8, q_9, q_11, q_13, q_15, q_17, (u_3 0), (u_3 1), (u_3 2), (u_3 3), (u_3 4), (u_3 5), (u_3 6), (u_3 7), (u_3 8), 0, (u_5 0), (u_5 1), (u_5 2), (u_5 3), (u_5 4), (u_5 5), (u_5 6), (u_5 7), (u_5 8), 0, (u_7 0), (u_7 1), (u_7 2), (u_7 3), (u_10 0), (u_10 1), (u_10 2), (u_10 3), 0, 0, (u_12 0), (u_12 1), (u_12 2), (u_12 3), (u_12 4), (u_14 0), (u_16 0), (u_16 1), (u_16 2), (u_16 3), (u_16 4), (u_18 0), q_19, q_21, q_23, (u_20 0), (u_20 1), (u_20 2), (u_20 3), (u_22 0), (u_22 1), (u_22 2), (u_22 3), (u_24 0), (u_24 1), (u_24 2), (u_24 3)]) 57), .inl (cy 0, 40, .inl (fun _ => 0))), (((lst [q_1, q_2, q_4, q_6, q_8, q_9, q_11, q_13, q_15, q_17, (u_3 0), (u_3 1), (u_3 2), (u_3 3), (u_3 4), (u_3 5), (u_3 6), (u_3 7), (u_3 8), 0, (u_5 0), (u_5 1), (u_5 2), (u_5 3), (u_5 4), (u_5 5), (u_5 6), (u_5 7), (u_5 8), 0, (u_7 0), (u_7 1), (u_7 2), (u_7 3), (u_10 0), (u_10 1), (u_10 2), (u_10 3), 0, 0, (u_12 0), (u_12 1), (u_12 2), (u_12 3), (u_12 4), (u_14 0), (u_16 0), (u_16 1), (u_16 2), (u_16 3), (u_16 4), (u_18 0), q_19, q_21, q_23, (u_20 0), (u_20 1), (u_20 2), (u_20 3), (u_22 0), (u_22 1), (u_22 2), (u_22 3), (u_24 0), (u_24 1), (u_24 2), (u_24 3)]) 58), .inl (cy 0, 40, .inl (fun _ => 0))), (((lst [q_1, q_2, q_4, q_6, q_8, q_9, q_11, q_13, q_15, q_17, (u_3 0), (u_3 1), (u_3 2), (u_3 3), (u_3 4), (u_3 5), (u_3 6), (u_3 7), (u_3 8), 0, (u_5 0), (u_5 1), (u_5 2), (u_5 3), (u_5 4), (u_5 5), (u_5 6), (u_5 7), (u_5 8), 0, (u_7 0), (u_7 1), (u_7 2), (u_7 3), (u_10 0), (u_10 1), (u_10 2), (u_10 3), 0, 0, (u_12 0), (u_12 1), (u_12 2), (u_12 3), (u_12 4), (u_14 0), (u_16 0), (u_16 1), (u_16 2), (u_16 3), (u_16 4), (u_18 0), q_19, q_21, q_23, (u_20 0), (u_20 1), (u_20 2), (u_20 3), (u_22 0), (u_22 1), (u_22 2), (u_22 3), (u_24 0), (u_24 1), (u_24 2), (u_24 3)]) 56), .inl (cy 0, 8, .inl (fun _ => 0))), (((lst [q_1, q_2, q_4, q_6, q_8, q_9, q_11, q_13, q_15, q_17, (u_3 0), (u_3 1), (u_3 2), (u_3 3), (u_3 4), (u_3 5), (u_3 6), (u_3 7), (u_3 8), 0, (u_5 0), (u_5 1), (u_5 2), (u_5 3), (u_5 4), (u_5 5), (u_5 6), (u_5 7), (u_5 8), 0, (u_7 0), (u_7 1), (u_7 2), (u_7 3), (u_10 0), (u_10 1), (u_10 2), (u_10 3), 0, 0, (u_12 0), (u_12 1), (u_12 2), (u_12 3), (u_12 4), (u_14 0), (u_16 0), (u_16 1), (u_16 2), (u_16 3), (u_16 4), (u_18 0), q_19, q_21, q_23, (u_20 0), (u_20 1), (u_20 2), (u_20 3), (u_22 0), (u_22 1), (u_22 2), (u_22 3), (u_24 0), (u_24 1), (u_24 2), (u_24 3)]) 53), .inr (7, [.ref ((lst [q_1, q_2, q_4, q_6, q_8, q_9, q_11, q_13, q_15, q_17, (u_3 0), (u_3 1), (u_3 2), (u_3 3), (u_3 4), (u_3 5), (u_3 6), (u_3 7), (u_3 8), 0, (u_5 0), (u_5 1), (u_5 2), (u_5 3), (u_5 4), (u_5 5), (u_5 6), (u_5 7), (u_5 8), 0, (u_7 0), (u_7 1), (u_7 2), (u_7 3), (u_10 0), (u_10 1), (u_10 2), (u_10 3), 0, 0, (u_12 0), (u_12 1), (u_12 2), (u_12 3), (u_12 4), (u_14 0), (u_16 0), (u_16 1), (u_16 2), (u_16 3), (u_16 4), (u_18 0), q_19, q_21, q_23, (u_20 0), (u_20 1), (u_20 2), (u_20 3), (u_22 0), (u_22 1), (u_22 2), (u_22 3), (u_24 0), (u_24 1), (u_24 2), (u_24 3)]) 59), .int 0, .int 0, .ref ((lst [q_1, q_2, q_4, q_6, q_8, q_9, q_11, q_13, q_15, q_17, (u_3 0), (u_3 1), (u_3 2), (u_3 3), (u_3 4), (u_3 5), (u_3 6), (u_3 7), (u_3 8), 0, (u_5 0), (u_5 1), (u_5 2), (u_5 3), (u_5 4), (u_5 5), (u_5 6), (u_5 7), (u_5 8), 0, (u_7 0), (u_7 1), (u_7 2), (u_7 3), (u_10 0), (u_10 1), (u_10 2), (u_10 3), 0, 0, (u_12 0), (u_12 1), (u_12 2), (u_12 3), (u_12 4), (u_14 0), (u_16 0), (u_16 1), (u_16 2), (u_16 3), (u_16 4), (u_18 0), q_19, q_21, q_23, (u_20 0), (u_20 1), (u_20 2), (u_20 3), (u_22 0), (u_22 1), (u_22 2), (u_22 3), (u_24 0), (u_24 1), (u_24 2), (u_24 3)]) 60), .int 0])), (((lst [q_1, q_2, q_4, q_6, q_8, q_9, q_11, q_13, q_15, q_17, (u_3 0), (u_3 1), (u_3 2), (u_3 3), (u_3 4), (u_3 5), (u_3 6), (u_3 7), (u_3 8), 0, (u_5 0), (u_5 1), (u_5 2), (u_5 3), (u_5 4), (u_5 5), (u_5 6), (u_5 7), (u_5 8), 0, (u_7 0), (u_7 1), (u_7 2), (u_7 3), (u_10 0), (u_10 1), (u_10 2), (u_10 3), 0, 0, (u_12 0), (u_12 1), (u_12 2), (u_12 3), (u_12 4), (u_14 0), (u_16 0), (u_16 1), (u_16 2), (u_16 3), (u_16 4), (u_18 0), q_19, q_21, q_23, (u_20 0), (u_20 1), (u_20 2), (u_20 3), (u_22 0), (u_22 1), (u_22 2), (u_22 3), (u_24 0), (u_24 1), (u_24 2), (u_24 3)]) 59), .inr (8, [.ref ((lst [q_1, q_2, q_4, q_6, q_8, q_9, q_11, q_13, q_15, q_17, (u_3 0), (u_3 1), (u_3 2), (u_3 3), (u_3 4), (u_3 5), (u_3 6), (u_3 7), (u_3 8), 0, (u_5 0), (u_5 1), (u_5 2), (u_5 3), (u_5 4), (u_5 5), (u_5 6), (u_5 7), (u_5 8), 0, (u_7 0), (u_7 1), (u_7 2), (u_7 3), (u_10 0), (u_10 1), (u_10 2), (u_10 3), 0, 0, (u_12 0), (u_12 1), (u_12 2), (u_12 3), (u_12 4), (u_14 0), (u_16 0), (u_16 1), (u_16 2), (u_16 3), (u_16 4), (u_18 0), q_19, q_21, q_23, (u_20 0), (u_20 1), (u_20 2), (u_20 3), (u_22 0), (u_22 1), (u_22 2), (u_22 3), (u_24 0), (u_24 1), (u_24 2), (u_24 3)]) 61), .ref ((lst [q_1, q_2, q_4, q_6, q_8, q_9, q_11, q_13, q_15, q_17, (u_3 0), (u_3 1), (u_3 2), (u_3 3), (u_3 4), (u_3 5), (u_3 6), (u_3 7), (u_3 8), 0, (u_5 0), (u_5 1), (u_5 2), (u_5 3), (u_5 4), (u_5 5), (u_5 6), (u_5 7), (u_5 8), 0, (u_7 0), (u_7 1), (u_7 2), (u_7 3), (u_10 0), (u_10 1), (u_10 2), (u_10 3), 0, 0, (u_12 0), (u_12 1), (u_12 2), (u_12 3), (u_12 4), (u_14 0), (u_16 0), (u_16 1), (u_16 2), (u_16 3), (u_16 4), (u_18 0), q_19, q_21, q_23, (u_20 0), (u_20 1), (u_20 2), (u_20 3), (u_22 0), (u_22 1), (u_22 2), (u_22 3), (u_24 0), (u_24 1), (u_24 2), (u_24 3)]) 62), .int 0])), (((lst [q_1, q_2, q_4, q_6, q_8, q_9, q_11, q_13, q_15, q_17, (u_3 0), (u_3 1), (u_3 2), (u_3 3), (u_3 4), (u_3 5), (u_3 6), (u_3 7), (u_3 8), 0, (u_5 0), (u_5 1), (u_5 2), (u_5 3), (u_5 4), (u_5 5), (u_5 6), (u_5 7), (u_5 8), 0, (u_7 0), (u_7 1), (u_7 2), (u_7 3), (u_10 0), (u_10 1), (u_10 2), (u_10 3), 0, 0, (u_12 0), (u_12 1), (u_12 2), (u_12 3), (u_12 4), (u_14 0), (u_16 0), (u_16 1), (u_16 2), (u_16 3), (u_16 4), (u_18 0), q_19, q_21, q_23, (u_20 0), (u_20 1), (u_20 2), (u_20 3), (u_22 0), (u_22 1), (u_22 2), (u_22 3), (u_24 0), (u_24 1), (u_24 2), (u_24 3)]) 61), .inl (cy 0, 40, .inl (fun _ => 0))), (((lst [q_1, q_2, q_4, q_6, q_8, q_9, q_11, q_13, q_15, q_17, (u_3 0), (u_3 1), (u_3 2), (u_3 3), (u_3 4), (u_3 5), (u_3 6), (u_3 7), (u_3 8), 0, (u_5 0), (u_5 1), (u_5 2), (u_5 3), (u_5 4), (u_5 5), (u_5 6), (u_5 7), (u_5 8), 0, (u_7 0), (u_7 1), (u_7 2), (u_7 3), (u_10 0), (u_10 1), (u_10 2), (u_10 3), 0, 0, (u_12 0), (u_12 1), (u_12 2), (u_12 3), (u_12 4), (u_14 0), (u_16 0), (u_16 1), (u_16 2), (u_16 3), (u_16 4), (u_18 0), q_19, q_21, q_23, (u_20 0), (u_20 1), (u_20 2), (u_20 3), (u_22 0), (u_22 1), (u_22 2), (u_22 3), (u_24 0), (u_24 1), (u_24 2), (u_24 3)]) 62), .inl (cy 0, 40, .inl (fun _ => 0))), (((lst [q_1, q_2, q_4, q_6, q_8, q_9, q_11, q_13, q_15, q_17, (u_3 0), (u_3 1), (u_3 2), (u_3 3), (u_3 4), (u_3 5), (u_3 6), (u_3 7), (u_3 8), 0, (u_5 0), (u_5 1), (u_5 2), (u_5 3), (u_5 4), (u_5 5), (u_5 6), (u_5 7), (u_5 8), 0, (u_7 0), (u_7 1), (u_7 2), (u_7 3), (u_10 0), (u_10 1), (u_10 2), (u_10 3), 0, 0, (u_12 0), (u_12 1), (u_12 2), (u_12 3), (u_12 4), (u_14 0), (u_16 0), (u_16 1), (u_16 2), (u_16 3), (u_16 4), (u_18 0), q_19, q_21, q_23, (u_20 0), (u_20 1), (u_20 2), (u_20 3), (u_22 0), (u_22 1), (u_22 2), (u_22 3), (u_24 0), (u_24 1), (u_24 2), (u_24 3)]) 60), .inl (cy 0, 8, .inl (fun _ => 0))), (((lst [q_1, q_2, q_4, q_6, q_8, q_9, q_11, q_13, q_15, q_17, (u_3 0), (u_3 1), (u_3 2), (u_3 3), (u_3 4), (u_3 5), (u_3 6), (u_3 7), (u_3 8), 0, (u_5 0), (u_5 1), (u_5 2), (u_5 3), (u_5 4), (u_5 5), (u_5 6), (u_5 7), (u_5 8), 0, (u_7 0), (u_7 1), (u_7 2), (u_7 3), (u_10 0), (u_10 1), (u_10 2), (u_10 3), 0, 0, (u_12 0), (u_12 1), (u_12 2), (u_12 3), (u_12 4), (u_14 0), (u_16 0), (u_16 1), (u_16 2), (u_16 3), (u_16 4), (u_18 0), q_19, q_21, q_23, (u_20 0), (u_20 1), (u_20 2), (u_20 3), (u_22 0), (u_22 1), (u_22 2), (u_22 3), (u_24 0), (u_24 1), (u_24 2), (u_24 3)]) 54), .inr (7, [.ref ((lst [q_1, q_2, q_4, q_6, q_8, q_9, q_11, q_13, q_15, q_17, (u_3 0), (u_3 1), (u_3 2), (u_3 3), (u_3 4), (u_3 5), (u_3 6), (u_3 7), (u_3 8), 0, (u_5 0), (u_5 1), (u_5 2), (u_5 3), (u_5 4), (u_5 5), (u_5 6), (u_5 7), (u_5 8), 0, (u_7 0), (u_7 1), (u_7 2), (u_7 3), (u_10 0), (u_10 1), (u_10 2), (u_10 3), 0, 0, (u_12 0), (u_12 1), (u_12 2), (u_12 3), (u_12 4), (u_14 0), (u_16 0), (u_16 1), (u_16 2), (u_16 3), (u_16 4), (u_18 0), q_19, q_21, q_23, (u_20 0), (u_20 1), (u_20 2), (u_20 3), (u_22 0), (u_22 1), (u_22 2), (u_22 3), (u_24 0), (u_24 1), (u_24 2), (u_24 3)]) 63), .int 0, .int 0, .ref ((lst [q_1, q_2, q_4, q_6, q_8, q_9, q_11, q_13, q_15, q_17, (u_3 0), (u_3 1), (u_3 2), (u_3 3), (u_3 4), (u_3 5), (u_3 6), (u_3 7), (u_3 8), 0, (u_5 0), (u_5 1), (u_5 2), (u_5 3), (u_5 4), (u_5 5), (u_5 6), (u_5 7), (u_5 8), 0, (u_7 0), (u_7 1), (u_7 2), (u_7 3), (u_10 0), (u_10 1), (u_10 2), (u_10 3), 0, 0, (u_12 0), (u_12 1), (u_12 2), (u_12 3), (u_12 4), (u_14 0), (u_16 0), (u_16 1), (u_16 2), (u_16 3), (u_16 4), (u_18 0), q_19, q_21, q_23, (u_20 0), (u_20 1), (u_20 2), (u_20 3), (u_22 0), (u_22 1), (u_22 2), (u_22 3), (u_24 0), (u_24 1), (u_24 2), (u_24 3)]) 64), .int 0])), (((lst [q_1, q_2, q_4, q_6, q_8, q_9, q_11, q_13, q_15, q_17, (u_3 0), (u_3 1), (u_3 2), (u_3 3), (u_3 4), (u_3 5), (u_3 6), (u_3 7), (u_3 8), 0, (u_5 0), (u_5 1), (u_5 2), (u_5 3), (u_5 4), (u_5 5), (u_5 6), (u_5 7), (u_5 8), 0, (u_7 0), (u_7 1), (u_7 2), (u_7 3), (u_10 0), (u_10 1), (u_10 2), (u_10 3), 0, 0, (u_12 0), (u_12 1), (u_12 2), (u_12 3), (u_12 4), (u_14 0), (u_16 0), (u_16 1), (u_16 2), (u_16 3), (u_16 4), (u_18 0), q_19, q_21, q_23, (u_20 0), (u_20 1), (u_20 2), (u_20 3), (u_22 0), (u_22 1), (u_22 2), (u_22 3), (u_24 0), (u_24 1), (u_24 2), (u_24 3)]) 63), .inr (8, [.ref ((lst [q_1, q_2, q_4, q_6, q_8, q_9, q_11, q_13, q_15, q_17, (u_3 0), (u_3 1), (u_3 2), (u_3 3), (u_3 4), (u_3 5), (u_3 6), (u_3 7), (u_3 8), 0, (u_5 0), (u_5 1), (u_5 2), (u_5 3), (u_5 4), (u_5 5), (u_5 6), (u_5 7), (u_5 8), 0, (u_7 0), (u_7 1), (u_7 2), (u_7 3), (u_10 0), (u_10 1), (u_10 2), (u_10 3), 0, 0, (u_12 0), (u_12 1), (u_12 2), (u_12 3), (u_12 4), (u_14 0), (u_16 0), (u_16 1), (u_16 2), (u_16 3), (u_16 4), (u_18 0), q_19, q_21, q_23, (u_20 0), (u_20 1), (u_20 2), (u_20 3), (u_22 0), (u_22 1), (u_22 2), (u_22 3), (u_24 0), (u_24 1), (u_24 2), (u_24 3)]) 65), .ref ((lst [q_1, q_2, q_4, q_6, q_8, q_9, q_11, q_13, q_15, q_17, (u_3 0), (u_3 1), (u_3 2), (u_3 3), (u_3 4), (u_3 5), (u_3 6), (u_3 7), (u_3 8), 0, (u_5 0), (u_5 1), (u_5 2), (u_5 3), (u_5 4), (u_5 5), (u_5 6), (u_5 7), (u_5 8), 0, (u_7 0), (u_7 1), (u_7 2), (u_7 3), (u_10 0), (u_10 1), (u_10 2), (u_10 3), 0, 0, (u_12 0), (u_12 1), (u_12 2), (u_12 3), (u_12 4), (u_14 0), (u_16 0), (u_16 1), (u_16 2), (u_16 3), (u_16 4), (u_18 0), q_19, q_21, q_23, (u_20 0), (u_20 1), (u_20 2), (u_20 3), (u_22 0), (u_22 1), (u_22 2), (u_22 3), (u_24 0), (u_24 1), (u_24 2), (u_24 3)]) 66), .int 0])), (((lst [q_1, q_2, q_4, q_6, q_8, q_9, q_11, q_13, q_15, q_17, (u_3 0), (u_3 1), (u_3 2), (u_3 3), (u_3 4), (u_3 5), (u_3 6), (u_3 7), (u_3 8), 0, (u_5 0), (u_5 1), (u_5 2), (u_5 3), (u_5 4), (u_5 5), (u_5 6), (u_5 7), (u_5 8), 0, (u_7 0), (u_7 1), (u_7 2), (u_7 3), (u_10 0), (u_10 1), (u_10 2), (u_10 3), 0, 0, (u_12 0), (u_12 1), (u_12 2), (u_12 3), (u_12 4), (u_14 0), (u_16 0), (u_16 1), (u_16 2), (u_16 3), (u_16 4), (u_18 0), q_19, q_21, q_23, (u_20 0), (u_20 1), (u_20 2), (u_20 3), (u_22 0), (u_22 1), (u_22 2), (u_22 3), (u_24 0), (u_24 1), (u_24 2), (u_24 3)]) 65), .inl (cy 0, 40, .inl (fun _ => 0))), (((lst [q_1, q_2, q_4, q_6, q_8, q_9, q_11, q_13, q_15, q_17, (u_3 0), (u_3 1), (u_3 2), (u_3 3), (u_3 4), (u_3 5), (u_3 6), (u_3 7), (u_3 8), 0, (u_5 0), (u_5 1), (u_5 2), (u_5 3), (u_5 4), (u_5 5), (u_5 6), (u_5 7), (u_5 8), 0, (u_7 0), (u_7 1), (u_7 2), (u_7 3), (u_10 0), (u_10 1), (u_10 2), (u_10 3), 0, 0, (u_12 0), (u_12 1), (u_12 2), (u_12 3), (u_12 4), (u_14 0), (u_16 0), (u_16 1), (u_16 2), (u_16 3), (u_16 4), (u_18 0), q_19, q_21, q_23, (u_20 0), (u_20 1), (u_20 2), (u_20 3), (u_22 0), (u_22 1), (u_22 2), (u_22 3), (u_24 0), (u_24 1), (u_24 2), (u_24 3)]) 66), .inl (cy 0, 40, .inl (fun _ => 0))), (((lst [q_1, q_2, q_4, q_6, q_8, q_9, q_11, q_13, q_15, q_17, (u_3 0), (u_3 1), (u_3 2), (u_3 3), (u_3 4), (u_3 5), (u_3 6), (u_3 7), (u_3 8), 0, (u_5 0), (u_5 1), (u_5 2), (u_5 3), (u_5 4), (u_5 5), (u_5 6), (u_5 7), (u_5 8), 0, (u_7 0), (u_7 1), (u_7 2), (u_7 3), (u_10 0), (u_10 1), (u_10 2), (u_10 3), 0, 0, (u_12 0), (u_12 1), (u_12 2), (u_12 3), (u_12 4), (u_14 0), (u_16 0), (u_16 1), (u_16 2), (u_16 3), (u_16 4), (u_18 0), q_19, q_21, q_23, (u_20 0), (u_20 1), (u_20 2), (u_20 3), (u_22 0), (u_22 1), (u_22 2), (u_22 3), (u_24 0), (u_24 1), (u_24 2), (u_24 3)]) 64), .inl (cy 0, 8, .inl (fun _ => 0)))] _ := hP.sub [0, 1, 2, 3, 4, 5, 6, 7, 8, 9, 10, 11, 12, 13, 14, 15, 16, 17, 18, 19, 20, 21, 22, 23, 24, 25, 26, 27, 28, 29, 30, 31, 32, 33, 34, 35] rfl
  have hD9 : va_D A [(h, .inr (11, [.ref ((lst [q_1, q_2, q_4, q_6, q_8, q_9, q_11, q_13, q_15, q_17, (u_3 0), (u_3 1), (u_3 2), (u_3 3), (u_3 4), (u_3 5), (u_3 6), (u_3 7), (u_3 8), 0, (u_5 0), (u_5 1), (u_5 2), (u_5 3), (u_5 4), (u_5 5), (u_5 6), (u_5 7), (u_5 8), 0, (u_7 0), (u_7 1), (u_7 2), (u_7 3), (u_10 0), (u_10 1), (u_10 2), (u_10 3), 0, 0, (u_12 0), (u_12 1), (u_12 2), (u_12 3), (u_12 4), (u_14 0), (u_16 0), (u_16 1), (u_16 2), (u_16 3), (u_16 4), (u_18 0), q_19, q_21, q_23, (u_20 0), (u_20 1), (u_20 2), (u_20 3), (u_22 0), (u_22 1), (u_22 2), (u_22 3), (u_24 0), (u_24 1), (u_24 2), (u_24 3)]) 0), .int 0, .ref ((lst [q_1, q_2, q_4, q_6, q_8, q_9, q_11, q_13, q_15, q_17, (u_3 0), (u_3 1), (u_3 2), (u_3 3), (u_3 4), (u_3 5), (u_3 6), (u_3 7), (u_3 8), 0, (u_5 0), (u_5 1), (u_5 2), (u_5 3), (u_5 4), (u_5 5), (u_5 6), (u_5 7), (u_5 8), 0, (u_7 0), (u_7 1), (u_7 2), (u_7 3), (u_10 0), (u_10 1), (u_10 2), (u_10 3), 0, 0, (u_12 0), (u_12 1), (u_12 2), (u_12 3), (u_12 4), (u_14 0), (u_16 0), (u_16 1), (u_16 2), (u_16 3), (u_16 4), (u_18 0), q_19, q_21, q_23, (u_20 0), (u_20 1), (u_20 2), (u_20 3), (u_22 0), (u_22 1), (u_22 2), (u_22 3), (u_24 0), (u_24 1), (u_24 2), (u_24 3)]) 1), .ref ((lst [q_1, q_2, q_4, q_6, q_8, q_9, q_11, q_13, q_15, q_17, (u_3 0), (u_3 1), (u_3 2), (u_3 3), (u_3 4), (u_3 5), (u_3 6), (u_3 7), (u_3 8), 0, (u_5 0), (u_5 1), (u_5 2), (u_5 3), (u_5 4), (u_5 5), (u_5 6), (u_5 7), (u_5 8), 0, (u_7 0), (u_7 1), (u_7 2), (u_7 3), (u_10 0), (u_10 1), (u_10 2), (u_10 3), 0, 0, (u_12 0), (u_12 1), (u_12 2), (u_12 3), (u_12 4), (u_14 0), (u_16 0), (u_16 1), (u_16 2), (u_16 3), (u_16 4), (u_18 0), q_19, q_21, q_23, (u_20 0), (u_20 1), (u_20 2), (u_20 3), (u_22 0), (u_22 1), (u_22 2), (u_22 3), (u_24 0), (u_24 1), (u_24 2), (u_24 3)]) 2), .int 0, .int (-1), .ref ((lst [q_1, q_2, q_4, q_6, q_8, q_9, q_11, q_13, q_15, q_17, (u_3 0), (u_3 1), (u_3 2), (u_3 3), (u_3 4), (u_3 5), (u_3 6), (u_3 7), (u_3 8), 0, (u_5 0), (u_5 1), (u_5 2), (u_5 3), (u_5 4), (u_5 5), (u_5 6), (u_5 7), (u_5 8), 0, (u_7 0), (u_7 1), (u_7 2), (u_7 3), (u_10 0), (u_10 1), (u_10 2), (u_10 3), 0, 0, (u_12 0), (u_12 1), (u_12 2), (u_12 3), (u_12 4), (u_14 0), (u_16 0), (u_16 1), (u_16 2), (u_16 3), (u_16 4), (u_18 0), q_19, q_21, q_23, (u_20 0), (u_20 1), (u_20 2), (u_20 3), (u_22 0), (u_22 1), (u_22 2), (u_22 3), (u_24 0), (u_24 1), (u_24 2), (u_24 3)]) 3), .ref ((lst [q_1, q_2, q_4, q_6, q_8, q_9, q_11, q_13, q_15, q_17, (u_3 0), (u_3 1), (u_3 2), (u_3 3), (u_3 4), (u_3 5), (u_3 6), (u_3 7), (u_3 8), 0, (u_5 0), (u_5 1), (u_5 2), (u_5 3), (u_5 4), (u_5 5), (u_5 6), (u_5 7), (u_5 8), 0, (u_7 0), (u_7 1), (u_7 2), (u_7 3), (u_10 0), (u_10 1), (u_10 2), (u_10 3), 0, 0, (u_12 0), (u_12 1), (u_12 2), (u_12 3), (u_12 4), (u_14 0), (u_16 0), (u_16 1), (u_16 2), (u_16 3), (u_16 4), (u_18 0), q_19, q_21, q_23, (u_20 0), (u_20 1), (u_20 2), (u_20 3), (u_22 0), (u_22 1), (u_22 2), (u_22 3), (u_24 0), (u_24 1), (u_24 2), (u_24 3)]) 4), .ref ((lst [q_1, q_2, q_4, q_6, q_8, q_9, q_11, q_13, q_15, q_17, (u_3 0), (u_3 1), (u_3 2), (u_3 3), (u_3 4), (u_3 5), (u_3 6), (u_3 7), (u_3 8), 0, (u_5 0), (u_5 1), (u_5 2), (u_5 3), (u_5 4), (u_5 5), (u_5 6), (u_5 7), (u_5 8), 0, (u_7 0), (u_7 1), (u_7 2), (u_7 3), (u_10 0), (u_10 1), (u_10 2), (u_10 3), 0, 0, (u_12 0), (u_12 1), (u_12 2), (u_12 3), (u_12 4), (u_14 0), (u_16 0), (u_16 1), (u_16 2), (u_16 3), (u_16 4), (u_18 0), q_19, q_21, q_23, (u_20 0), (u_20 1), (u_20 2), (u_20 3), (u_22 0), (u_22 1), (u_22 2), (u_22 3), (u_24 0), (u_24 1), (u_24 2), (u_24 3)]) 5), .ref ((lst [q_1, q_2, q_4, q_6, q_8, q_9, q_11, q_13, q_15, q_17, (u_3 0), (u_3 1), (u_3 2), (u_3 3), (u_3 4), (u_3 5), (u_3 6), (u_3 7), (u_3 8), 0, (u_5 0), (u_5 1), (u_5 2), (u_5 3), (u_5 4), (u_5 5), (u_5 6), (u_5 7), (u_5 8), 0, (u_7 0), (u_7 1), (u_7 2), (u_7 3), (u_10 0), (u_10 1), (u_10 2), (u_10 3), 0, 0, (u_12 0), (u_12 1), (u_12 2), (u_12 3), (u_12 4), (u_14 0), (u_16 0), (u_16 1), (u_16 2), (u_16 3), (u_16 4), (u_18 0), q_19, q_21, q_23, (u_20 0), (u_20 1), (u_20 2), (u_20 3), (u_22 0), (u_22 1), (u_22 2), (u_22 3), (u_24 0), (u_24 1), (u_24 2), (u_24 3)]) 6), .int 0, .ref ((lst [q_1, q_2, q_4, q_6, q_8, q_9, q_11, q_13, q_15, q_17, (u_3 0), (u_3 1), (u_3 2), (u_3 3), (u_3 4), (u_3 5), (u_3 6), (u_3 7), (u_3 8), 0, (u_5 0), (u_5 1), (u_5 2), (u_5 3), (u_5 4), (u_5 5), (u_5 6), (u_5 7), (u_5 8), 0, (u_7 0), (u_7 1), (u_7 2), (u_7 3), (u_10 0), (u_10 1), (u_10 2), (u_10 3), 0, 0, (u_12 0), (u_12 1), (u_12 2), (u_12 3), (u_12 4), (u_14 0), (u_16 0), (u_16 1), (u_16 2), (u_16 3), (u_16 4), (u_18 0), q_19, q_21, q_23, (u_20 0), (u_20 1), (u_20 2), (u_20 3), (u_22 0), (u_22 1), (u_22 2), (u_22 3), (u_24 0), (u_24 1), (u_24 2), (u_24 3)]) 7), .ref ((lst [q_1, q_2, q_4, q_6, q_8, q_9, q_11, q_13, q_15, q_17, (u_3 0), (u_3 1), (u_3 2), (u_3 3), (u_3 4), (u_3 5), (u_3 6), (u_3 7), (u_3 8), 0, (u_5 0), (u_5 1), (u_5 2), (u_5 3), (u_5 4), (u_5 5), (u_5 6), (u_5 7), (u_5 8), 0, (u_7 0), (u_7 1), (u_7 2), (u_7 3), (u_10 0), (u_10 1), (u_10 2), (u_10 3), 0, 0, (u_12 0), (u_12 1), (u_12 2), (u_12 3), (u_12 4), (u_14 0), (u_16 0), (u_16 1), (u_16 2), (u_16 3), (u_16 4), (u_18 0), q_19, q_21, q_23, (u_20 0), (u_20 1), (u_20 2), (u_20 3), (u_22 0), (u_22 1), (u_22 2), (u_22 3), (u_24 0), (u_24 1), (u_24 2), (u_24 3)]) 8), .ref ((lst [q_1, q_2, q_4, q_6, q_8, q_9, q_11, q_13, q_15, q_17, (u_3 0), (u_3 1), (u_3 2), (u_3 3), (u_3 4), (u_3 5), (u_3 6), (u_3 7), (u_3 8), 0, (u_5 0), (u_5 1), (u_5 2), (u_5 3), (u_5 4), (u_5 5), (u_5 6), (u_5 7), (u_5 8), 0, (u_7 0), (u_7 1), (u_7 2), (u_7 3), (u_10 0), (u_10 1), (u_10 2), (u_10 3), 0, 0, (u_12 0), (u_12 1), (u_12 2), (u_12 3), (u_12 4), (u_14 0), (u_16 0), (u_16 1), (u_16 2), (u_16 3), (u_16 4), (u_18 0), q_19, q_21, q_23, (u_20 0), (u_20 1), (u_20 2), (u_20 3), (u_22 0), (u_22 1), (u_22 2), (u_22 3), (u_24 0), (u_24 1), (u_24 2), (u_24 3)]) 9)])), (((lst [q_1, q_2, q_4, q_6, q_8, q_9, q_11, q_13, q_15, q_17, (u_3 0), (u_3 1), (u_3 2), (u_3 3), (u_3 4), (u_3 5), (u_3 6), (u_3 7), (u_3 8), 0, (u_5 0), (u_5 1), (u_5 2), (u_5 3), (u_5 4), (u_5 5), (u_5 6), (u_5 7), (u_5 8), 0, (u_7 0), (u_7 1), (u_7 2), (u_7 3), (u_10 0), (u_10 1), (u_10 2), (u_10 3), 0, 0, (u_12 0), (u_12 1), (u_12 2), (u_12 3), (u_12 4), (u_14 0), (u_16 0), (u_16 1), (u_16 2), (u_16 3), (u_16 4), (u_18 0), q_19, q_21, q_23, (u_20 0), (u_20 1), (u_20 2), (u_20 3), (u_22 0), (u_22 1), (u_22 2), (u_22 3), (u_24 0), (u_24 1), (u_24 2), (u_24 3)]) 0), .inl (cy 1, 1700, .inl (fun _ => 0))), (((lst [q_1, q_2, q_4, q_6, q_8, q_9, q_11, q_13, q_15, q_17, (u_3 0), (u_3 1), (u_3 2), (u_3 3), (u_3 4), (u_3 5), (u_3 6), (u_3 7), (u_3 8), 0, (u_5 0), (u_5 1), (u_5 2), (u_5 3), (u_5 4), (u_5 5), (u_5 6), (u_5 7), (u_5 8), 0, (u_7 0), (u_7 1), (u_7 2), (u_7 3), (u_10 0), (u_10 1), (u_10 2), (u_10 3), 0, 0, (u_12 0), (u_12 1), (u_12 2), (u_12 3), (u_12 4), (u_14 0), (u_16 0), (u_16 1), (u_16 2), (u_16 3), (u_16 4), (u_18 0), q_19, q_21, q_23, (u_20 0), (u_20 1), (u_20 2), (u_20 3), (u_22 0), (u_22 1), (u_22 2), (u_22 3), (u_24 0), (u_24 1), (u_24 2), (u_24 3)]) 1), .inr (9, [.ref ((lst [q_1, q_2, q_4, q_6, q_8, q_9, q_11, q_13, q_15, q_17, (u_3 0), (u_3 1), (u_3 2), (u_3 3), (u_3 4), (u_3 5), (u_3 6), (u_3 7), (u_3 8), 0, (u_5 0), (u_5 1), (u_5 2), (u_5 3), (u_5 4), (u_5 5), (u_5 6), (u_5 7), (u_5 8), 0, (u_7 0), (u_7 1), (u_7 2), (u_7 3), (u_10 0), (u_10 1), (u_10 2), (u_10 3), 0, 0, (u_12 0), (u_12 1), (u_12 2), (u_12 3), (u_12 4), (u_14 0), (u_16 0), (u_16 1), (u_16 2), (u_16 3), (u_16 4), (u_18 0), q_19, q_21, q_23, (u_20 0), (u_20 1), (u_20 2), (u_20 3), (u_22 0), (u_22 1), (u_22 2), (u_22 3), (u_24 0), (u_24 1), (u_24 2), (u_24 3)]) 10), .ref ((lst [q_1, q_2, q_4, q_6, q_8, q_9, q_11, q_13, q_15, q_17, (u_3 0), (u_3 1), (u_3 2), (u_3 3), (u_3 4), (u_3 5), (u_3 6), (u_3 7), (u_3 8), 0, (u_5 0), (u_5 1), (u_5 2), (u_5 3), (u_5 4), (u_5 5), (u_5 6), (u_5 7), (u_5 8), 0, (u_7 0), (u_7 1), (u_7 2), (u_7 3), (u_10 0), (u_10 1), (u_10 2), (u_10 3), 0, 0, (u_12 0), (u_12 1), (u_12 2), (u_12 3), (u_12 4), (u_14 0), (u_16 0), (u_16 1), (u_16 2), (u_16 3), (u_16 4), (u_18 0), q_19, q_21, q_23, (u_20 0), (u_20 1), (u_20 2), (u_20 3), (u_22 0), (u_22 1), (u_22 2), (u_22 3), (u_24 0), (u_24 1), (u_24 2), (u_24 3)]) 11), .ref ((lst [q_1, q_2, q_4, q_6, q_8, q_9, q_11, q_13, q_15, q_17, (u_3 0), (u_3 1), (u_3 2), (u_3 3), (u_3 4), (u_3 5), (u_3 6), (u_3 7), (u_3 8), 0, (u_5 0), (u_5 1), (u_5 2), (u_5 3), (u_5 4), (u_5 5), (u_5 6), (u_5 7), (u_5 8), 0, (u_7 0), (u_7 1), (u_7 2), (u_7 3), (u_10 0), (u_10 1), (u_10 2), (u_10 3), 0, 0, (u_12 0), (u_12 1), (u_12 2), (u_12 3), (u_12 4), (u_14 0), (u_16 0), (u_16 1), (u_16 2), (u_16 3), (u_16 4), (u_18 0), q_19, q_21, q_23, (u_20 0), (u_20 1), (u_20 2), (u_20 3), (u_22 0), (u_22 1), (u_22 2), (u_22 3), (u_24 0), (u_24 1), (u_24 2), (u_24 3)]) 12), .int 0, .ref ((lst [q_1, q_2, q_4, q_6, q_8, q_9, q_11, q_13, q_15, q_17, (u_3 0), (u_3 1), (u_3 2), (u_3 3), (u_3 4), (u_3 5), (u_3 6), (u_3 7), (u_3 8), 0, (u_5 0), (u_5 1), (u_5 2), (u_5 3), (u_5 4), (u_5 5), (u_5 6), (u_5 7), (u_5 8), 0, (u_7 0), (u_7 1), (u_7 2), (u_7 3), (u_10 0), (u_10 1), (u_10 2), (u_10 3), 0, 0, (u_12 0), (u_12 1), (u_12 2), (u_12 3), (u_12 4), (u_14 0), (u_16 0), (u_16 1), (u_16 2), (u_16 3), (u_16 4), (u_18 0), q_19, q_21, q_23, (u_20 0), (u_20 1), (u_20 2), (u_20 3), (u_22 0), (u_22 1), (u_22 2), (u_22 3), (u_24 0), (u_24 1), (u_24 2), (u_24 3)]) 13), .int 0, .ref ((lst [q_1, q_2, q_4, q_6, q_8, q_9, q_11, q_13, q_15, q_17, (u_3 0), (u_3 1), (u_3 2), (u_3 3), (u_3 4), (u_3 5), (u_3 6), (u_3 7), (u_3 8), 0, (u_5 0), (u_5 1), (u_5 2), (u_5 3), (u_5 4), (u_5 5), (u_5 6), (u_5 7), (u_5 8), 0, (u_7 0), (u_7 1), (u_7 2), (u_7 3), (u_10 0), (u_10 1), (u_10 2), (u_10 3), 0, 0, (u_12 0), (u_12 1), (u_12 2), (u_12 3), (u_12 4), (u_14 0), (u_16 0), (u_16 1), (u_16 2), (u_16 3), (u_16 4), (u_18 0), q_19, q_21, q_23, (u_20 0), (u_20 1), (u_20 2), (u_20 3), (u_22 0), (u_22 1), (u_22 2), (u_22 3), (u_24 0), (u_24 1), (u_24 2), (u_24 3)]) 14), .int 0, .ref ((lst [q_1, q_2, q_4, q_6, q_8, q_9, q_11, q_13, q_15, q_17, (u_3 0), (u_3 1), (u_3 2), (u_3 3), (u_3 4), (u_3 5), (u_3 6), (u_3 7), (u_3 8), 0, (u_5 0), (u_5 1), (u_5 2), (u_5 3), (u_5 4), (u_5 5), (u_5 6), (u_5 7), (u_5 8), 0, (u_7 0), (u_7 1), (u_7 2), (u_7 3), (u_10 0), (u_10 1), (u_10 2), (u_10 3), 0, 0, (u_12 0), (u_12 1), (u_12 2), (u_12 3), (u_12 4), (u_14 0), (u_16 0), (u_16 1), (u_16 2), (u_16 3), (u_16 4), (u_18 0), q_19, q_21, q_23, (u_20 0), (u_20 1), (u_20 2), (u_20 3), (u_22 0), (u_22 1), (u_22 2), (u_22 3), (u_24 0), (u_24 1), (u_24 2), (u_24 3)]) 15)])), (((lst [q_1, q_2, q_4, q_6, q_8, q_9, q_11, q_13, q_15, q_17, (u_3 0), (u_3 1), (u_3 2), (u_3 3), (u_3 4), (u_3 5), (u_3 6), (u_3 7), (u_3 8), 0, (u_5 0), (u_5 1), (u_5 2), (u_5 3), (u_5 4), (u_5 5), (u_5 6), (u_5 7), (u_5 8), 0, (u_7 0), (u_7 1), (u_7 2), (u_7 3), (u_10 0), (u_10 1), (u_10 2), (u_10 3), 0, 0, (u_12 0), (u_12 1), (u_12 2), (u_12 3), (u_12 4), (u_14 0), (u_16 0), (u_16 1), (u_16 2), (u_16 3), (u_16 4), (u_18 0), q_19, q_21, q_23, (u_20 0), (u_20 1), (u_20 2), (u_20 3), (u_22 0), (u_22 1), (u_22 2), (u_22 3), (u_24 0), (u_24 1), (u_24 2), (u_24 3)]) 14), .inr (5, [.ref ((lst [q_1, q_2, q_4, q_6, q_8, q_9, q_11, q_13, q_15, q_17, (u_3 0), (u_3 1), (u_3 2), (u_3 3), (u_3 4), (u_3 5), (u_3 6), (u_3 7), (u_3 8), 0, (u_5 0), (u_5 1), (u_5 2), (u_5 3), (u_5 4), (u_5 5), (u_5 6), (u_5 7), (u_5 8), 0, (u_7 0), (u_7 1), (u_7 2), (u_7 3), (u_10 0), (u_10 1), (u_10 2), (u_10 3), 0, 0, (u_12 0), (u_12 1), (u_12 2), (u_12 3), (u_12 4), (u_14 0), (u_16 0), (u_16 1), (u_16 2), (u_16 3), (u_16 4), (u_18 0), q_19, q_21, q_23, (u_20 0), (u_20 1), (u_20 2), (u_20 3), (u_22 0), (u_22 1), (u_22 2), (u_22 3), (u_24 0), (u_24 1), (u_24 2), (u_24 3)]) 16), .ref ((lst [q_1, q_2, q_4, q_6, q_8, q_9, q_11, q_13, q_15, q_17, (u_3 0), (u_3 1), (u_3 2), (u_3 3), (u_3 4), (u_3 5), (u_3 6), (u_3 7), (u_3 8), 0, (u_5 0), (u_5 1), (u_5 2), (u_5 3), (u_5 4), (u_5 5), (u_5 6), (u_5 7), (u_5 8), 0, (u_7 0), (u_7 1), (u_7 2), (u_7 3), (u_10 0), (u_10 1), (u_10 2), (u_10 3), 0, 0, (u_12 0), (u_12 1), (u_12 2), (u_12 3), (u_12 4), (u_14 0), (u_16 0), (u_16 1), (u_16 2), (u_16 3), (u_16 4), (u_18 0), q_19, q_21, q_23, (u_20 0), (u_20 1), (u_20 2), (u_20 3), (u_22 0), (u_22 1), (u_22 2), (u_22 3), (u_24 0), (u_24 1), (u_24 2), (u_24 3)]) 17), .int 0, .ref ((lst [q_1, q_2, q_4, q_6, q_8, q_9, q_11, q_13, q_15, q_17, (u_3 0), (u_3 1), (u_3 2), (u_3 3), (u_3 4), (u_3 5), (u_3 6), (u_3 7), (u_3 8), 0, (u_5 0), (u_5 1), (u_5 2), (u_5 3), (u_5 4), (u_5 5), (u_5 6), (u_5 7), (u_5 8), 0, (u_7 0), (u_7 1), (u_7 2), (u_7 3), (u_10 0), (u_10 1), (u_10 2), (u_10 3), 0, 0, (u_12 0), (u_12 1), (u_12 2), (u_12 3), (u_12 4), (u_14 0), (u_16 0), (u_16 1), (u_16 2), (u_16 3), (u_16 4), (u_18 0), q_19, q_21, q_23, (u_20 0), (u_20 1), (u_20 2), (u_20 3), (u_22 0), (u_22 1), (u_22 2), (u_22 3), (u_24 0), (u_24 1), (u_24 2), (u_24 3)]) 18), .int 0])), (((lst [q_1, q_2, q_4, q_6, q_8, q_9, q_11, q_13, q_15, q_17, (u_3 0), (u_3 1), (u_3 2), (u_3 3), (u_3 4), (u_3 5), (u_3 6), (u_3 7), (u_3 8), 0, (u_5 0), (u_5 1), (u_5 2), (u_5 3), (u_5 4), (u_5 5), (u_5 6), (u_5 7), (u_5 8), 0, (u_7 0), (u_7 1), (u_7 2), (u_7 3), (u_10 0), (u_10 1), (u_10 2), (u_10 3), 0, 0, (u_12 0), (u_12 1), (u_12 2), (u_12 3), (u_12 4), (u_14 0), (u_16 0), (u_16 1), (u_16 2), (u_16 3), (u_16 4), (u_18 0), q_19, q_21, q_23, (u_20 0), (u_20 1), (u_20 2), (u_20 3), (u_22 0), (u_22 1), (u_22 2), (u_22 3), (u_24 0), (u_24 1), (u_24 2), (u_24 3)]) 15), .inl (cy 2, 12, .inl (fun _ => 0))), (((lst [q_1, q_2, q_4, q_6, q_8, q_9, q_11, q_13, q_15, q_17, (u_3 0), (u_3 1), (u_3 2), (u_3 3), (u_3 4), (u_3 5), (u_3 6), (u_3 7), (u_3 8), 0, (u_5 0), (u_5 1), (u_5 2), (u_5 3), (u_5 4), (u_5 5), (u_5 6), (u_5 7), (u_5 8), 0, (u_7 0), (u_7 1), (u_7 2), (u_7 3), (u_10 0), (u_10 1), (u_10 2), (u_10 3), 0, 0, (u_12 0), (u_12 1), (u_12 2), (u_12 3), (u_12 4), (u_14 0), (u_16 0), (u_16 1), (u_16 2), (u_16 3), (u_16 4), (u_18 0), q_19, q_21, q_23, (u_20 0), (u_20 1), (u_20 2), (u_20 3), (u_22 0), (u_22 1), (u_22 2), (u_22 3), (u_24 0), (u_24 1), (u_24 2), (u_24 3)]) 2), .inr (9, [.ref ((lst [q_1, q_2, q_4, q_6, q_8, q_9, q_11, q_13, q_15, q_17, (u_3 0), (u_3 1), (u_3 2), (u_3 3), (u_3 4), (u_3 5), (u_3 6), (u_3 7), (u_3 8), 0, (u_5 0), (u_5 1), (u_5 2), (u_5 3), (u_5 4), (u_5 5), (u_5 6), (u_5 7), (u_5 8), 0, (u_7 0), (u_7 1), (u_7 2), (u_7 3), (u_10 0), (u_10 1), (u_10 2), (u_10 3), 0, 0, (u_12 0), (u_12 1), (u_12 2), (u_12 3), (u_12 4), (u_14 0), (u_16 0), (u_16 1), (u_16 2), (u_16 3), (u_16 4), (u_18 0), q_19, q_21, q_23, (u_20 0), (u_20 1), (u_20 2), (u_20 3), (u_22 0), (u_22 1), (u_22 2), (u_22 3), (u_24 0), (u_24 1), (u_24 2), (u_24 3)]) 20), .ref ((lst [q_1, q_2, q_4, q_6, q_8, q_9, q_11, q_13, q_15, q_17, (u_3 0), (u_3 1), (u_3 2), (u_3 3), (u_3 4), (u_3 5), (u_3 6), (u_3 7), (u_3 8), 0, (u_5 0), (u_5 1), (u_5 2), (u_5 3), (u_5 4), (u_5 5), (u_5 6), (u_5 7), (u_5 8), 0, (u_7 0), (u_7 1), (u_7 2), (u_7 3), (u_10 0), (u_10 1), (u_10 2), (u_10 3), 0, 0, (u_12 0), (u_12 1), (u_12 2), (u_12 3), (u_12 4), (u_14 0), (u_16 0), (u_16 1), (u_16 2), (u_16 3), (u_16 4), (u_18 0), q_19, q_21, q_23, (u_20 0), (u_20 1), (u_20 2), (u_20 3), (u_22 0), (u_22 1), (u_22 2), (u_22 3), (u_24 0), (u_24 1), (u_24 2), (u_24 3)]) 21), .ref ((lst [q_1, q_2, q_4, q_6, q_8, q_9, q_11, q_13, q_15, q_17, (u_3 0), (u_3 1), (u_3 2), (u_3 3), (u_3 4), (u_3 5), (u_3 6), (u_3 7), (u_3 8), 0, (u_5 0), (u_5 1), (u_5 2), (u_5 3), (u_5 4), (u_5 5), (u_5 6), (u_5 7), (u_5 8), 0, (u_7 0), (u_7 1), (u_7 2), (u_7 3), (u_10 0), (u_10 1), (u_10 2), (u_10 3), 0, 0, (u_12 0), (u_12 1), (u_12 2), (u_12 3), (u_12 4), (u_14 0), (u_16 0), (u_16 1), (u_16 2), (u_16 3), (u_16 4), (u_18 0), q_19, q_21, q_23, (u_20 0), (u_20 1), (u_20 2), (u_20 3), (u_22 0), (u_22 1), (u_22 2), (u_22 3), (u_24 0), (u_24 1), (u_24 2), (u_24 3)]) 22), .int 0, .ref ((lst [q_1, q_2, q_4, q_6, q_8, q_9, q_11, q_13, q_15, q_17, (u_3 0), (u_3 1), (u_3 2), (u_3 3), (u_3 4), (u_3 5), (u_3 6), (u_3 7), (u_3 8), 0, (u_5 0), (u_5 1), (u_5 2), (u_5 3), (u_5 4), (u_5 5), (u_5 6), (u_5 7), (u_5 8), 0, (u_7 0), (u_7 1), (u_7 2), (u_7 3), (u_10 0), (u_10 1), (u_10 2), (u_10 3), 0, 0, (u_12 0), (u_12 1), (u_12 2), (u_12 3), (u_12 4), (u_14 0), (u_16 0), (u_16 1), (u_16 2), (u_16 3), (u_16 4), (u_18 0), q_19, q_21, q_23, (u_20 0), (u_20 1), (u_20 2), (u_20 3), (u_22 0), (u_22 1), (u_22 2), (u_22 3), (u_24 0), (u_24 1), (u_24 2), (u_24 3)]) 23), .int 0, .ref ((lst [q_1, q_2, q_4, q_6, q_8, q_9, q_11, q_13, q_15, q_17, (u_3 0), (u_3 1), (u_3 2), (u_3 3), (u_3 4), (u_3 5), (u_3 6), (u_3 7), (u_3 8), 0, (u_5 0), (u_5 1), (u_5 2), (u_5 3), (u_5 4), (u_5 5), (u_5 6), (u_5 7), (u_5 8), 0, (u_7 0), (u_7 1), (u_7 2), (u_7 3), (u_10 0), (u_10 1), (u_10 2), (u_10 3), 0, 0, (u_12 0), (u_12 1), (u_12 2), (u_12 3), (u_12 4), (u_14 0), (u_16 0), (u_16 1), (u_16 2), (u_16 3), (u_16 4), (u_18 0), q_19, q_21, q_23, (u_20 0), (u_20 1), (u_20 2), (u_20 3), (u_22 0), (u_22 1), (u_22 2), (u_22 3), (u_24 0), (u_24 1), (u_24 2), (u_24 3)]) 24), .int 0, .ref ((lst [q_1, q_2, q_4, q_6, q_8, q_9, q_11, q_13, q_15, q_17, (u_3 0), (u_3 1), (u_3 2), (u_3 3), (u_3 4), (u_3 5), (u_3 6), (u_3 7), (u_3 8), 0, (u_5 0), (u_5 1), (u_5 2), (u_5 3), (u_5 4), (u_5 5), (u_5 6), (u_5 7), (u_5 8), 0, (u_7 0), (u_7 1), (u_7 2), (u_7 3), (u_10 0), (u_10 1), (u_10 2), (u_10 3), 0, 0, (u_12 0), (u_12 1), (u_12 2), (u_12 3), (u_12 4), (u_14 0), (u_16 0), (u_16 1), (u_16 2), (u_16 3), (u_16 4), (u_18 0), q_19, q_21, q_23, (u_20 0), (u_20 1), (u_20 2), (u_20 3), (u_22 0), (u_22 1), (u_22 2), (u_22 3), (u_24 0), (u_24 1), (u_24 2), (u_24 3)]) 25)])), (((lst [q_1, q_2, q_4, q_6, q_8, q_9, q_11, q_13, q_15, q_17, (u_3 0), (u_3 1), (u_3 2), (u_3 3), (u_3 4), (u_3 5), (u_3 6), (u_3 7), (u_3 8), 0, (u_5 0), (u_5 1), (u_5 2), (u_5 3), (u_5 4), (u_5 5), (u_5 6), (u_5 7), (u_5 8), 0, (u_7 0), (u_7 1), (u_7 2), (u_7 3), (u_10 0), (u_10 1), (u_10 2), (u_10 3), 0, 0, (u_12 0), (u_12 1), (u_12 2), (u_12 3), (u_12 4), (u_14 0), (u_16 0), (u_16 1), (u_16 2), (u_16 3), (u_16 4), (u_18 0), q_19, q_21, q_23, (u_20 0), (u_20 1), (u_20 2), (u_20 3), (u_22 0), (u_22 1), (u_22 2), (u_22 3), (u_24 0), (u_24 1), (u_24 2), (u_24 3)]) 24), .inr (5, [.ref ((lst [q_1, q_2, q_4, q_6, q_8, q_9, q_11, q_13, q_15, q_17, (u_3 0), (u_3 1), (u_3 2), (u_3 3), (u_3 4), (u_3 5), (u_3 6), (u_3 7), (u_3 8), 0, (u_5 0), (u_5 1), (u_5 2), (u_5 3), (u_5 4), (u_5 5), (u_5 6), (u_5 7), (u_5 8), 0, (u_7 0), (u_7 1), (u_7 2), (u_7 3), (u_10 0), (u_10 1), (u_10 2), (u_10 3), 0, 0, (u_12 0), (u_12 1), (u_12 2), (u_12 3), (u_12 4), (u_14 0), (u_16 0), (u_16 1), (u_16 2), (u_16 3), (u_16 4), (u_18 0), q_19, q_21, q_23, (u_20 0), (u_20 1), (u_20 2), (u_20 3), (u_22 0), (u_22 1), (u_22 2), (u_22 3), (u_24 0), (u_24 1), (u_24 2), (u_24 3)]) 26), .ref ((lst [q_1, q_2, q_4, q_6, q_8, q_9, q_11, q_13, q_15, q_17, (u_3 0), (u_3 1), (u_3 2), (u_3 3), (u_3 4), (u_3 5), (u_3 6), (u_3 7), (u_3 8), 0, (u_5 0), (u_5 1), (u_5 2), (u_5 3), (u_5 4), (u_5 5), (u_5 6), (u_5 7), (u_5 8), 0, (u_7 0), (u_7 1), (u_7 2), (u_7 3), (u_10 0), (u_10 1), (u_10 2), (u_10 3), 0, 0, (u_12 0), (u_12 1), (u_12 2), (u_12 3), (u_12 4), (u_14 0), (u_16 0), (u_16 1), (u_16 2), (u_16 3), (u_16 4), (u_18 0), q_19, q_21, q_23, (u_20 0), (u_20 1), (u_20 2), (u_20 3), (u_22 0), (u_22 1), (u_22 2), (u_22 3), (u_24 0), (u_24 1), (u_24 2), (u_24 3)]) 27), .int 0, .ref ((lst [q_1, q_2, q_4, q_6, q_8, q_9, q_11, q_13, q_15, q_17, (u_3 0), (u_3 1), (u_3 2), (u_3 3), (u_3 4), (u_3 5), (u_3 6), (u_3 7), (u_3 8), 0, (u_5 0), (u_5 1), (u_5 2), (u_5 3), (u_5 4), (u_5 5), (u_5 6), (u_5 7), (u_5 8), 0, (u_7 0), (u_7 1), (u_7 2), (u_7 3), (u_10 0), (u_10 1), (u_10 2), (u_10 3), 0, 0, (u_12 0), (u_12 1), (u_12 2), (u_12 3), (u_12 4), (u_14 0), (u_16 0), (u_16 1), (u_16 2), (u_16 3), (u_16 4), (u_18 0), q_19, q_21, q_23, (u_20 0), (u_20 1), (u_20 2), (u_20 3), (u_22 0), (u_22 1), (u_22 2), (u_22 3), (u_24 0), (u_24 1), (u_24 2), (u_24 3)]) 28), .int 0])), (((lst [q_1, q_2, q_4, q_6, q_8, q_9, q_11, q_13, q_15, q_17, (u_3 0), (u_3 1), (u_3 2), (u_3 3), (u_3 4), (u_3 5), (u_3 6), (u_3 7), (u_3 8), 0, (u_5 0), (u_5 1), (u_5 2), (u_5 3), (u_5 4), (u_5 5), (u_5 6), (u_5 7), (u_5 8), 0, (u_7 0), (u_7 1), (u_7 2), (u_7 3), (u_10 0), (u_10 1), (u_10 2), (u_10 3), 0, 0, (u_12 0), (u_12 1), (u_12 2), (u_12 3), (u_12 4), (u_14 0), (u_16 0), (u_16 1), (u_16 2), (u_16 3), (u_16 4), (u_18 0), q_19, q_21, q_23, (u_20 0), (u_20 1), (u_20 2), (u_20 3), (u_22 0), (u_22 1), (u_22 2), (u_22 3), (u_24 0), (u_24 1), (u_24 2), (u_24 3)]) 25), .inl (cy 2, 12, .inl (fun _ => 0))), (((lst [q_1, q_2, q_4, q_6, q_8, q_9, q_11, q_13, q_15, q_17, (u_3 0), (u_3 1), (u_3 2), (u_3 3), (u_3 4), (u_3 5), (u_3 6), (u_3 7), (u_3 8), 0, (u_5 0), (u_5 1), (u_5 2), (u_5 3), (u_5 4), (u_5 5), (u_5 6), (u_5 7), (u_5 8), 0, (u_7 0), (u_7 1), (u_7 2), (u_7 3), (u_10 0), (u_10 1), (u_10 2), (u_10 3), 0, 0, (u_12 0), (u_12 1), (u_12 2), (u_12 3), (u_12 4), (u_14 0), (u_16 0), (u_16 1), (u_16 2), (u_16 3), (u_16 4), (u_18 0), q_19, q_21, q_23, (u_20 0), (u_20 1), (u_20 2), (u_20 3), (u_22 0), (u_22 1), (u_22 2), (u_22 3), (u_24 0), (u_24 1), (u_24 2), (u_24 3)]) 3), .inr (7, [.ref ((lst [q_1, q_2, q_4, q_6, q_8, q_9, q_11, q_13, q_15, q_17, (u_3 0), (u_3 1), (u_3 2), (u_3 3), (u_3 4), (u_3 5), (u_3 6), (u_3 7), (u_3 8), 0, (u_5 0), (u_5 1), (u_5 2), (u_5 3), (u_5 4), (u_5 5), (u_5 6), (u_5 7), (u_5 8), 0, (u_7 0), (u_7 1), (u_7 2), (u_7 3), (u_10 0), (u_10 1), (u_10 2), (u_10 3), 0, 0, (u_12 0), (u_12 1), (u_12 2), (u_12 3), (u_12 4), (u_14 0), (u_16 0), (u_16 1), (u_16 2), (u_16 3), (u_16 4), (u_18 0), q_19, q_21, q_23, (u_20 0), (u_20 1), (u_20 2), (u_20 3), (u_22 0), (u_22 1), (u_22 2), (u_22 3), (u_24 0), (u_24 1), (u_24 2), (u_24 3)]) 30), .int 0, .int 0, .ref ((lst [q_1, q_2, q_4, q_6, q_8, q_9, q_11, q_13, q_15, q_17, (u_3 0), (u_3 1), (u_3 2), (u_3 3), (u_3 4), (u_3 5), (u_3 6), (u_3 7), (u_3 8), 0, (u_5 0), (u_5 1), (u_5 2), (u_5 3), (u_5 4), (u_5 5), (u_5 6), (u_5 7), (u_5 8), 0, (u_7 0), (u_7 1), (u_7 2), (u_7 3), (u_10 0), (u_10 1), (u_10 2), (u_10 3), 0, 0, (u_12 0), (u_12 1), (u_12 2), (u_12 3), (u_12 4), (u_14 0), (u_16 0), (u_16 1), (u_16 2), (u_16 3), (u_16 4), (u_18 0), q_19, q_21, q_23, (u_20 0), (u_20 1), (u_20 2), (u_20 3), (u_22 0), (u_22 1), (u_22 2), (u_22 3), (u_24 0), (u_24 1), (u_24 2), (u_24 3)]) 31), .int 0])), (((lst [q_1, q_2, q_4, q_6, q_8, q_9, q_11, q_13, q_15, q_17, (u_3 0), (u_3 1), (u_3 2), (u_3 3), (u_3 4), (u_3 5), (u_3 6), (u_3 7), (u_3 8), 0, (u_5 0), (u_5 1), (u_5 2), (u_5 3), (u_5 4), (u_5 5), (u_5 6), (u_5 7), (u_5 8), 0, (u_7 0), (u_7 1), (u_7 2), (u_7 3), (u_10 0), (u_10 1), (u_10 2), (u_10 3), 0, 0, (u_12 0), (u_12 1), (u_12 2), (u_12 3), (u_12 4), (u_14 0), (u_16 0), (u_16 1), (u_16 2), (u_16 3), (u_16 4), (u_18 0), q_19, q_21, q_23, (u_20 0), (u_20 1), (u_20 2), (u_20 3), (u_22 0), (u_22 1), (u_22 2), (u_22 3), (u_24 0), (u_24 1), (u_24 2), (u_24 3)]) 30), .inr (8, [.ref ((lst [q_1, q_2, q_4, q_6, q_8, q_9, q_11, q_13, q_15, q_17, (u_3 0), (u_3 1), (u_3 2), (u_3 3), (u_3 4), (u_3 5), (u_3 6), (u_3 7), (u_3 8), 0, (u_5 0), (u_5 1), (u_5 2), (u_5 3), (u_5 4), (u_5 5), (u_5 6), (u_5 7), (u_5 8), 0, (u_7 0), (u_7 1), (u_7 2), (u_7 3), (u_10 0), (u_10 1), (u_10 2), (u_10 3), 0, 0, (u_12 0), (u_12 1), (u_12 2), (u_12 3), (u_12 4), (u_14 0), (u_16 0), (u_16 1), (u_16 2), (u_16 3), (u_16 4), (u_18 0), q_19, q_21, q_23, (u_20 0), (u_20 1), (u_20 2), (u_20 3), (u_22 0), (u_22 1), (u_22 2), (u_22 3), (u_24 0), (u_24 1), (u_24 2), (u_24 3)]) 32), .ref ((lst [q_1, q_2, q_4, q_6, q_8, q_9, q_11, q_13, q_15, q_17, (u_3 0), (u_3 1), (u_3 2), (u_3 3), (u_3 4), (u_3 5), (u_3 6), (u_3 7), (u_3 8), 0, (u_5 0), (u_5 1), (u_5 2), (u_5 3), (u_5 4), (u_5 5), (u_5 6), (u_5 7), (u_5 8), 0, (u_7 0), (u_7 1), (u_7 2), (u_7 3), (u_10 0), (u_10 1), (u_10 2), (u_10 3), 0, 0, (u_12 0), (u_12 1), (u_12 2), (u_12 3), (u_12 4), (u_14 0), (u_16 0), (u_16 1), (u_16 2), (u_16 3), (u_16 4), (u_18 0), q_19, q_21, q_23, (u_20 0), (u_20 1), (u_20 2), (u_20 3), (u_22 0), (u_22 1), (u_22 2), (u_22 3), (u_24 0), (u_24 1), (u_24 2), (u_24 3)]) 33), .int 0])), (((lst [q_1, q_2, q_4, q_6, q_8, q_9, q_11, q_13, q_15, q_17, (u_3 0), (u_3 1), (u_3 2), (u_3 3), (u_3 4), (u_3 5), (u_3 6), (u_3 7), (u_3 8), 0, (u_5 0), (u_5 1), (u_5 2), (u_5 3), (u_5 4), (u_5 5), (u_5 6), (u_5 7), (u_5 8), 0, (u_7 0), (u_7 1), (u_7 2), (u_7 3), (u_10 0), (u_10 1), (u_10 2), (u_10 3), 0, 0, (u_12 0), (u_12 1), (u_12 2), (u_12 3), (u_12 4), (u_14 0), (u_16 0), (u_16 1), (u_16 2), (u_16 3), (u_16 4), (u_18 0), q_19, q_21, q_23, (u_20 0), (u_20 1), (u_20 2), (u_20 3), (u_22 0), (u_22 1), (u_22 2), (u_22 3), (u_24 0), (u_24 1), (u_24 2), (u_24 3)]) 32), .inl (cy 0, 40, .inl (fun _ => 0))), (((lst [q_1, q_2, q_4, q_6, q_8, q_9, q_11, q_13, q_15, q_17, (u_3 0), (u_3 1), (u_3 2), (u_3 3), (u_3 4), (u_3 5), (u_3 6), (u_3 7), (u_3 8), 0, (u_5 0), (u_5 1), (u_5 2), (u_5 3), (u_5 4), (u_5 5), (u_5 6), (u_5 7), (u_5 8), 0, (u_7 0), (u_7 1), (u_7 2), (u_7 3), (u_10 0), (u_10 1), (u_10 2), (u_10 3), 0, 0, (u_12 0), (u_12 1), (u_12 2), (u_12 3), (u_12 4), (u_14 0), (u_16 0), (u_16 1), (u_16 2), (u_16 3), (u_16 4), (u_18 0), q_19, q_21, q_23, (u_20 0), (u_20 1), (u_20 2), (u_20 3), (u_22 0), (u_22 1), (u_22 2), (u_22 3), (u_24 0), (u_24 1), (u_24 2), (u_24 3)]) 33), .inl (cy 0, 40, .inl (fun _ => 0))), (((lst [q_1, q_2, q_4, q_6, q_8, q_9, q_11, q_13, q_15, q_17, (u_3 0), (u_3 1), (u_3 2), (u_3 3), (u_3 4), (u_3 5), (u_3 6), (u_3 7), (u_3 8), 0, (u_5 0), (u_5 1), (u_5 2), (u_5 3), (u_5 4), (u_5 5), (u_5 6), (u_5 7), (u_5 8), 0, (u_7 0), (u_7 1), (u_7 2), (u_7 3), (u_10 0), (u_10 1), (u_10 2), (u_10 3), 0, 0, (u_12 0), (u_12 1), (u_12 2), (u_12 3), (u_12 4), (u_14 0), (u_16 0), (u_16 1), (u_16 2), (u_16 3), (u_16 4), (u_18 0), q_19, q_21, q_23, (u_20 0), (u_20 1), (u_20 2), (u_20 3), (u_22 0), (u_22 1), (u_22 2), (u_22 3), (u_24 0), (u_24 1), (u_24 2), (u_24 3)]) 31), .inl (cy 0, 8, .inl (fun _ => 0))), (((lst [q_1, q_2, q_4, q_6, q_8, q_9, q_11, q_13, q_15, q_17, (u_3 0), (u_3 1), (u_3 2), (u_3 3), (u_3 4), (u_3 5), (u_3 6), (u_3 7), (u_3 8), 0, (u_5 0), (u_5 1), (u_5 2), (u_5 3), (u_5 4), (u_5 5), (u_5 6), (u_5 7), (u_5 8), 0, (u_7 0), (u_7 1), (u_7 2), (u_7 3), (u_10 0), (u_10 1), (u_10 2), (u_10 3), 0, 0, (u_12 0), (u_12 1), (u_12 2), (u_12 3), (u_12 4), (u_14 0), (u_16 0), (u_16 1), (u_16 2), (u_16 3), (u_16 4), (u_18 0), q_19, q_21, q_23, (u_20 0), (u_20 1), (u_20 2), (u_20 3), (u_22 0), (u_22 1), (u_22 2), (u_22 3), (u_24 0), (u_24 1), (u_24 2), (u_24 3)]) 4), .inl (cy 7, 3, .inr (.inr (.inr (.inr (va_up (va_up (va_up (fun _ => none) 0 (some ((lst [q_1, q_2, q_4, q_6, q_8, q_9, q_11, q_13, q_15, q_17, (u_3 0), (u_3 1), (u_3 2), (u_3 3), (u_3 4), (u_3 5), (u_3 6), (u_3 7), (u_3 8), 0, (u_5 0), (u_5 1), (u_5 2), (u_5 3), (u_5 4), (u_5 5), (u_5 6), (u_5 7), (u_5 8), 0, (u_7 0), (u_7 1), (u_7 2), (u_7 3), (u_10 0), (u_10 1), (u_10 2), (u_10 3), 0, 0, (u_12 0), (u_12 1), (u_12 2), (u_12 3), (u_12 4), (u_14 0), (u_16 0), (u_16 1), (u_16 2), (u_16 3), (u_16 4), (u_18 0), q_19, q_21, q_23, (u_20 0), (u_20 1), (u_20 2), (u_20 3), (u_22 0), (u_22 1), (u_22 2), (u_22 3), (u_24 0), (u_24 1), (u_24 2), (u_24 3)]) 52))) 1 (some ((lst [q_1, q_2, q_4, q_6, q_8, q_9, q_11, q_13, q_15, q_17, (u_3 0), (u_3 1), (u_3 2), (u_3 3), (u_3 4), (u_3 5), (u_3 6), (u_3 7), (u_3 8), 0, (u_5 0), (u_5 1), (u_5 2), (u_5 3), (u_5 4), (u_5 5), (u_5 6), (u_5 7), (u_5 8), 0, (u_7 0), (u_7 1), (u_7 2), (u_7 3), (u_10 0), (u_10 1), (u_10 2), (u_10 3), 0, 0, (u_12 0), (u_12 1), (u_12 2), (u_12 3), (u_12 4), (u_14 0), (u_16 0), (u_16 1), (u_16 2), (u_16 3), (u_16 4), (u_18 0), q_19, q_21, q_23, (u_20 0), (u_20 1), (u_20 2), (u_20 3), (u_22 0), (u_22 1), (u_22 2), (u_22 3), (u_24 0), (u_24 1), (u_24 2), (u_24 3)]) 53))) 2 (some ((lst [q_1, q_2, q_4, q_6, q_8, q_9, q_11, q_13, q_15, q_17, (u_3 0), (u_3 1), (u_3 2), (u_3 3), (u_3 4), (u_3 5), (u_3 6), (u_3 7), (u_3 8), 0, (u_5 0), (u_5 1), (u_5 2), (u_5 3), (u_5 4), (u_5 5), (u_5 6), (u_5 7), (u_5 8), 0, (u_7 0), (u_7 1), (u_7 2), (u_7 3), (u_10 0), (u_10 1), (u_10 2), (u_10 3), 0, 0, (u_12 0), (u_12 1), (u_12 2), (u_12 3), (u_12 4), (u_14 0), (u_16 0), (u_16 1), (u_16 2), (u_16 3), (u_16 4), (u_18 0), q_19, q_21, q_23, (u_20 0), (u_20 1), (u_20 2), (u_20 3), (u_22 0), (u_22 1), (u_22 2), (u_22 3), (u_24 0), (u_24 1), (u_24 2), (u_24 3)]) 54)))))))), (((lst [q_1, q_2, q_4, q_6, q_8, q_9, q_11, q_13, q_15, q_17, (u_3 0), (u_3 1), (u_3 2), (u_3 3), (u_3 4), (u_3 5), (u_3 6), (u_3 7), (u_3 8), 0, (u_5 0), (u_5 1), (u_5 2), (u_5 3), (u_5 4), (u_5 5), (u_5 6), (u_5 7), (u_5 8), 0, (u_7 0), (u_7 1), (u_7 2), (u_7 3), (u_10 0), (u_10 1), (u_10 2), (u_10 3), 0, 0, (u_12 0), (u_12 1), (u_12 2), (u_12 3), (u_12 4), (u_14 0), (u_16 0), (u_16 1), (u_16 2), (u_16 3), (u_16 4), (u_18 0), q_19, q_21, q_23, (u_20 0), (u_20 1), (u_20 2), (u_20 3), (u_22 0), (u_22 1), (u_22 2), (u_22 3), (u_24 0), (u_24 1), (u_24 2), (u_24 3)]) 5), .inr (2, [.ref ((lst [q_1, q_2, q_4, q_6, q_8, q_9, q_11, q_13, q_15, q_17, (u_3 0), (u_3 1), (u_3 2), (u_3 3), (u_3 4), (u_3 5), (u_3 6), (u_3 7), (u_3 8), 0, (u_5 0), (u_5 1), (u_5 2), (u_5 3), (u_5 4), (u_5 5), (u_5 6), (u_5 7), (u_5 8), 0, (u_7 0), (u_7 1), (u_7 2), (u_7 3), (u_10 0), (u_10 1), (u_10 2), (u_10 3), 0, 0, (u_12 0), (u_12 1), (u_12 2), (u_12 3), (u_12 4), (u_14 0), (u_16 0), (u_16 1), (u_16 2), (u_16 3), (u_16 4), (u_18 0), q_19, q_21, q_23, (u_20 0), (u_20 1), (u_20 2), (u_20 3), (u_22 0), (u_22 1), (u_22 2), (u_22 3), (u_24 0), (u_24 1), (u_24 2), (u_24 3)]) 34), .ref ((lst [q_1, q_2, q_4, q_6, q_8, q_9, q_11, q_13, q_15, q_17, (u_3 0), (u_3 1), (u_3 2), (u_3 3), (u_3 4), (u_3 5), (u_3 6), (u_3 7), (u_3 8), 0, (u_5 0), (u_5 1), (u_5 2), (u_5 3), (u_5 4), (u_5 5), (u_5 6), (u_5 7), (u_5 8), 0, (u_7 0), (u_7 1), (u_7 2), (u_7 3), (u_10 0), (u_10 1), (u_10 2), (u_10 3), 0, 0, (u_12 0), (u_12 1), (u_12 2), (u_12 3), (u_12 4), (u_14 0), (u_16 0), (u_16 1), (u_16 2), (u_16 3), (u_16 4), (u_18 0), q_19, q_21, q_23, (u_20 0), (u_20 1), (u_20 2), (u_20 3), (u_22 0), (u_22 1), (u_22 2), (u_22 3), (u_24 0), (u_24 1), (u_24 2), (u_24 3)]) 35), .ref ((lst [q_1, q_2, q_4, q_6, q_8, q_9, q_11, q_13, q_15, q_17, (u_3 0), (u_3 1), (u_3 2), (u_3 3), (u_3 4), (u_3 5), (u_3 6), (u_3 7), (u_3 8), 0, (u_5 0), (u_5 1), (u_5 2), (u_5 3), (u_5 4), (u_5 5), (u_5 6), (u_5 7), (u_5 8), 0, (u_7 0), (u_7 1), (u_7 2), (u_7 3), (u_10 0), (u_10 1), (u_10 2), (u_10 3), 0, 0, (u_12 0), (u_12 1), (u_12 2), (u_12 3), (u_12 4), (u_14 0), (u_16 0), (u_16 1), (u_16 2), (u_16 3), (u_16 4), (u_18 0), q_19, q_21, q_23, (u_20 0), (u_20 1), (u_20 2), (u_20 3), (u_22 0), (u_22 1), (u_22 2), (u_22 3), (u_24 0), (u_24 1), (u_24 2), (u_24 3)]) 36), .ref ((lst [q_1, q_2, q_4, q_6, q_8, q_9, q_11, q_13, q_15, q_17, (u_3 0), (u_3 1), (u_3 2), (u_3 3), (u_3 4), (u_3 5), (u_3 6), (u_3 7), (u_3 8), 0, (u_5 0), (u_5 1), (u_5 2), (u_5 3), (u_5 4), (u_5 5), (u_5 6), (u_5 7), (u_5 8), 0, (u_7 0), (u_7 1), (u_7 2), (u_7 3), (u_10 0), (u_10 1), (u_10 2), (u_10 3), 0, 0, (u_12 0), (u_12 1), (u_12 2), (u_12 3), (u_12 4), (u_14 0), (u_16 0), (u_16 1), (u_16 2), (u_16 3), (u_16 4), (u_18 0), q_19, q_21, q_23, (u_20 0), (u_20 1), (u_20 2), (u_20 3), (u_22 0), (u_22 1), (u_22 2), (u_22 3), (u_24 0), (u_24 1), (u_24 2), (u_24 3)]) 37), .int 0])), (((lst [q_1, q_2, q_4, q_6, q_8, q_9, q_11, q_13, q_15, q_17, (u_3 0), (u_3 1), (u_3 2), (u_3 3), (u_3 4), (u_3 5), (u_3 6), (u_3 7), (u_3 8), 0, (u_5 0), (u_5 1), (u_5 2), (u_5 3), (u_5 4), (u_5 5), (u_5 6), (u_5 7), (u_5 8), 0, (u_7 0), (u_7 1), (u_7 2), (u_7 3), (u_10 0), (u_10 1), (u_10 2), (u_10 3), 0, 0, (u_12 0), (u_12 1), (u_12 2), (u_12 3), (u_12 4), (u_14 0), (u_16 0), (u_16 1), (u_16 2), (u_16 3), (u_16 4), (u_18 0), q_19, q_21, q_23, (u_20 0), (u_20 1), (u_20 2), (u_20 3), (u_22 0), (u_22 1), (u_22 2), (u_22 3), (u_24 0), (u_24 1), (u_24 2), (u_24 3)]) 6), .inr (10, [.ref ((lst [q_1, q_2, q_4, q_6, q_8, q_9, q_11, q_13, q_15, q_17, (u_3 0), (u_3 1), (u_3 2), (u_3 3), (u_3 4), (u_3 5), (u_3 6), (u_3 7), (u_3 8), 0, (u_5 0), (u_5 1), (u_5 2), (u_5 3), (u_5 4), (u_5 5), (u_5 6), (u_5 7), (u_5 8), 0, (u_7 0), (u_7 1), (u_7 2), (u_7 3), (u_10 0), (u_10 1), (u_10 2), (u_10 3), 0, 0, (u_12 0), (u_12 1), (u_12 2), (u_12 3), (u_12 4), (u_14 0), (u_16 0), (u_16 1), (u_16 2), (u_16 3), (u_16 4), (u_18 0), q_19, q_21, q_23, (u_20 0), (u_20 1), (u_20 2), (u_20 3), (u_22 0), (u_22 1), (u_22 2), (u_22 3), (u_24 0), (u_24 1), (u_24 2), (u_24 3)]) 40), .ref ((lst [q_1, q_2, q_4, q_6, q_8, q_9, q_11, q_13, q_15, q_17, (u_3 0), (u_3 1), (u_3 2), (u_3 3), (u_3 4), (u_3 5), (u_3 6), (u_3 7), (u_3 8), 0, (u_5 0), (u_5 1), (u_5 2), (u_5 3), (u_5 4), (u_5 5), (u_5 6), (u_5 7), (u_5 8), 0, (u_7 0), (u_7 1), (u_7 2), (u_7 3), (u_10 0), (u_10 1), (u_10 2), (u_10 3), 0, 0, (u_12 0), (u_12 1), (u_12 2), (u_12 3), (u_12 4), (u_14 0), (u_16 0), (u_16 1), (u_16 2), (u_16 3), (u_16 4), (u_18 0), q_19, q_21, q_23, (u_20 0), (u_20 1), (u_20 2), (u_20 3), (u_22 0), (u_22 1), (u_22 2), (u_22 3), (u_24 0), (u_24 1), (u_24 2), (u_24 3)]) 41), .ref ((lst [q_1, q_2, q_4, q_6, q_8, q_9, q_11, q_13, q_15, q_17, (u_3 0), (u_3 1), (u_3 2), (u_3 3), (u_3 4), (u_3 5), (u_3 6), (u_3 7), (u_3 8), 0, (u_5 0), (u_5 1), (u_5 2), (u_5 3), (u_5 4), (u_5 5), (u_5 6), (u_5 7), (u_5 8), 0, (u_7 0), (u_7 1), (u_7 2), (u_7 3), (u_10 0), (u_10 1), (u_10 2), (u_10 3), 0, 0, (u_12 0), (u_12 1), (u_12 2), (u_12 3), (u_12 4), (u_14 0), (u_16 0), (u_16 1), (u_16 2), (u_16 3), (u_16 4), (u_18 0), q_19, q_21, q_23, (u_20 0), (u_20 1), (u_20 2), (u_20 3), (u_22 0), (u_22 1), (u_22 2), (u_22 3), (u_24 0), (u_24 1), (u_24 2), (u_24 3)]) 42), .ref ((lst [q_1, q_2, q_4, q_6, q_8, q_9, q_11, q_13, q_15, q_17, (u_3 0), (u_3 1), (u_3 2), (u_3 3), (u_3 4), (u_3 5), (u_3 6), (u_3 7), (u_3 8), 0, (u_5 0), (u_5 1), (u_5 2), (u_5 3), (u_5 4), (u_5 5), (u_5 6), (u_5 7), (u_5 8), 0, (u_7 0), (u_7 1), (u_7 2), (u_7 3), (u_10 0), (u_10 1), (u_10 2), (u_10 3), 0, 0, (u_12 0), (u_12 1), (u_12 2), (u_12 3), (u_12 4), (u_14 0), (u_16 0), (u_16 1), (u_16 2), (u_16 3), (u_16 4), (u_18 0), q_19, q_21, q_23, (u_20 0), (u_20 1), (u_20 2), (u_20 3), (u_22 0), (u_22 1), (u_22 2), (u_22 3), (u_24 0), (u_24 1), (u_24 2), (u_24 3)]) 43), .ref ((lst [q_1, q_2, q_4, q_6, q_8, q_9, q_11, q_13, q_15, q_17, (u_3 0), (u_3 1), (u_3 2), (u_3 3), (u_3 4), (u_3 5), (u_3 6), (u_3 7), (u_3 8), 0, (u_5 0), (u_5 1), (u_5 2), (u_5 3), (u_5 4), (u_5 5), (u_5 6), (u_5 7), (u_5 8), 0, (u_7 0), (u_7 1), (u_7 2), (u_7 3), (u_10 0), (u_10 1), (u_10 2), (u_10 3), 0, 0, (u_12 0), (u_12 1), (u_12 2), (u_12 3), (u_12 4), (u_14 0), (u_16 0), (u_16 1), (u_16 2), (u_16 3), (u_16 4), (u_18 0), q_19, q_21, q_23, (u_20 0), (u_20 1), (u_20 2), (u_20 3), (u_22 0), (u_22 1), (u_22 2), (u_22 3), (u_24 0), (u_24 1), (u_24 2), (u_24 3)]) 44), .int 0])), (((lst [q_1, q_2, q_4, q_6, q_8, q_9, q_11, q_13, q_15, q_17, (u_3 0), (u_3 1), (u_3 2), (u_3 3), (u_3 4), (u_3 5), (u_3 6), (u_3 7), (u_3 8), 0, (u_5 0), (u_5 1), (u_5 2), (u_5 3), (u_5 4), (u_5 5), (u_5 6), (u_5 7), (u_5 8), 0, (u_7 0), (u_7 1), (u_7 2), (u_7 3), (u_10 0), (u_10 1), (u_10 2), (u_10 3), 0, 0, (u_12 0), (u_12 1), (u_12 2), (u_12 3), (u_12 4), (u_14 0), (u_16 0), (u_16 1), (u_16 2), (u_16 3), (u_16 4), (u_18 0), q_19, q_21, q_23, (u_20 0), (u_20 1), (u_20 2), (u_20 3), (u_22 0), (u_22 1), (u_22 2), (u_22 3), (u_24 0), (u_24 1), (u_24 2), (u_24 3)]) 7), .inr (1, [.ref ((lst [q_1, q_2, q_4, q_6, q_8, q_9, q_11, q_13, q_15, q_17, (u_3 0), (u_3 1), (u_3 2), (u_3 3), (u_3 4), (u_3 5), (u_3 6), (u_3 7), (u_3 8), 0, (u_5 0), (u_5 1), (u_5 2), (u_5 3), (u_5 4), (u_5 5), (u_5 6), (u_5 7), (u_5 8), 0, (u_7 0), (u_7 1), (u_7 2), (u_7 3), (u_10 0), (u_10 1), (u_10 2), (u_10 3), 0, 0, (u_12 0), (u_12 1), (u_12 2), (u_12 3), (u_12 4), (u_14 0), (u_16 0), (u_16 1), (u_16 2), (u_16 3), (u_16 4), (u_18 0), q_19, q_21, q_23, (u_20 0), (u_20 1), (u_20 2), (u_20 3), (u_22 0), (u_22 1), (u_22 2), (u_22 3), (u_24 0), (u_24 1), (u_24 2), (u_24 3)]) 45), .int 0, .int 0])), (((lst [q_1, q_2, q_4, q_6, q_8, q_9, q_11, q_13, q_15, q_17, (u_3 0), (u_3 1), (u_3 2), (u_3 3), (u_3 4), (u_3 5), (u_3 6), (u_3 7), (u_3 8), 0, (u_5 0), (u_5 1), (u_5 2), (u_5 3), (u_5 4), (u_5 5), (u_5 6), (u_5 7), (u_5 8), 0, (u_7 0), (u_7 1), (u_7 2), (u_7 3), (u_10 0), (u_10 1), (u_10 2), (u_10 3), 0, 0, (u_12 0), (u_12 1), (u_12 2), (u_12 3), (u_12 4), (u_14 0), (u_16 0), (u_16 1), (u_16 2), (u_16 3), (u_16 4), (u_18 0), q_19, q_21, q_23, (u_20 0), (u_20 1), (u_20 2), (u_20 3), (u_22 0), (u_22 1), (u_22 2), (u_22 3), (u_24 0), (u_24 1), (u_24 2), (u_24 3)]) 8), .inr (3, [.ref ((lst [q_1, q_2, q_4, q_6, q_8, q_9, q_11, q_13, q_15, q_17, (u_3 0), (u_3 1), (u_3 2), (u_3 3), (u_3 4), (u_3 5), (u_3 6), (u_3 7), (u_3 8), 0, (u_5 0), (u_5 1), (u_5 2), (u_5 3), (u_5 4), (u_5 5), (u_5 6), (u_5 7), (u_5 8), 0, (u_7 0), (u_7 1), (u_7 2), (u_7 3), (u_10 0), (u_10 1), (u_10 2), (u_10 3), 0, 0, (u_12 0), (u_12 1), (u_12 2), (u_12 3), (u_12 4), (u_14 0), (u_16 0), (u_16 1), (u_16 2), (u_16 3), (u_16 4), (u_18 0), q_19, q_21, q_23, (u_20 0), (u_20 1), (u_20 2), (u_20 3), (u_22 0), (u_22 1), (u_22 2), (u_22 3), (u_24 0), (u_24 1), (u_24 2), (u_24 3)]) 46), .ref ((lst [q_1, q_2, q_4, q_6, q_8, q_9, q_11, q_13, q_15, q_17, (u_3 0), (u_3 1), (u_3 2), (u_3 3), (u_3 4), (u_3 5), (u_3 6), (u_3 7), (u_3 8), 0, (u_5 0), (u_5 1), (u_5 2), (u_5 3), (u_5 4), (u_5 5), (u_5 6), (u_5 7), (u_5 8), 0, (u_7 0), (u_7 1), (u_7 2), (u_7 3), (u_10 0), (u_10 1), (u_10 2), (u_10 3), 0, 0, (u_12 0), (u_12 1), (u_12 2), (u_12 3), (u_12 4), (u_14 0), (u_16 0), (u_16 1), (u_16 2), (u_16 3), (u_16 4), (u_18 0), q_19, q_21, q_23, (u_20 0), (u_20 1), (u_20 2), (u_20 3), (u_22 0), (u_22 1), (u_22 2), (u_22 3), (u_24 0), (u_24 1), (u_24 2), (u_24 3)]) 47), .int 0, .ref ((lst [q_1, q_2, q_4, q_6, q_8, q_9, q_11, q_13, q_15, q_17, (u_3 0), (u_3 1), (u_3 2), (u_3 3), (u_3 4), (u_3 5), (u_3 6), (u_3 7), (u_3 8), 0, (u_5 0), (u_5 1), (u_5 2), (u_5 3), (u_5 4), (u_5 5), (u_5 6), (u_5 7), (u_5 8), 0, (u_7 0), (u_7 1), (u_7 2), (u_7 3), (u_10 0), (u_10 1), (u_10 2), (u_10 3), 0, 0, (u_12 0), (u_12 1), (u_12 2), (u_12 3), (u_12 4), (u_14 0), (u_16 0), (u_16 1), (u_16 2), (u_16 3), (u_16 4), (u_18 0), q_19, q_21, q_23, (u_20 0), (u_20 1), (u_20 2), (u_20 3), (u_22 0), (u_22 1), (u_22 2), (u_22 3), (u_24 0), (u_24 1), (u_24 2), (u_24 3)]) 48), .ref ((lst [q_1, q_2, q_4, q_6, q_8, q_9, q_11, q_13, q_15, q_17, (u_3 0), (u_3 1), (u_3 2), (u_3 3), (u_3 4), (u_3 5), (u_3 6), (u_3 7), (u_3 8), 0, (u_5 0), (u_5 1), (u_5 2), (u_5 3), (u_5 4), (u_5 5), (u_5 6), (u_5 7), (u_5 8), 0, (u_7 0), (u_7 1), (u_7 2), (u_7 3), (u_10 0), (u_10 1), (u_10 2), (u_10 3), 0, 0, (u_12 0), (u_12 1), (u_12 2), (u_12 3), (u_12 4), (u_14 0), (u_16 0), (u_16 1), (u_16 2), (u_16 3), (u_16 4), (u_18 0), q_19, q_21, q_23, (u_20 0), (u_20 1), (u_20 2), (u_20 3), (u_22 0), (u_22 1), (u_22 2), (u_22 3), (u_24 0), (u_24 1), (u_24 2), (u_24 3)]) 49), .ref ((lst [q_1, q_2, q_4, q_6, q_8, q_9, q_11, q_13, q_15, q_17, (u_3 0), (u_3 1), (u_3 2), (u_3 3), (u_3 4), (u_3 5), (u_3 6), (u_3 7), (u_3 8), 0, (u_5 0), (u_5 1), (u_5 2), (u_5 3), (u_5 4), (u_5 5), (u_5 6), (u_5 7), (u_5 8), 0, (u_7 0), (u_7 1), (u_7 2), (u_7 3), (u_10 0), (u_10 1), (u_10 2), (u_10 3), 0, 0, (u_12 0), (u_12 1), (u_12 2), (u_12 3), (u_12 4), (u_14 0), (u_16 0), (u_16 1), (u_16 2), (u_16 3), (u_16 4), (u_18 0), q_19, q_21, q_23, (u_20 0), (u_20 1), (u_20 2), (u_20 3), (u_22 0), (u_22 1), (u_22 2), (u_22 3), (u_24 0), (u_24 1), (u_24 2), (u_24 3)]) 50), .int 0])), (((lst [q_1, q_2, q_4, q_6, q_8, q_9, q_11, q_13, q_15, q_17, (u_3 0), (u_3 1), (u_3 2), (u_3 3), (u_3 4), (u_3 5), (u_3 6), (u_3 7), (u_3 8), 0, (u_5 0), (u_5 1), (u_5 2), (u_5 3), (u_5 4), (u_5 5), (u_5 6), (u_5 7), (u_5 8), 0, (u_7 0), (u_7 1), (u_7 2), (u_7 3), (u_10 0), (u_10 1), (u_10 2), (u_10 3), 0, 0, (u_12 0), (u_12 1), (u_12 2), (u_12 3), (u_12 4), (u_14 0), (u_16 0), (u_16 1), (u_16 2), (u_16 3), (u_16 4), (u_18 0), q_19, q_21, q_23, (u_20 0), (u_20 1), (u_20 2), (u_20 3), (u_22 0), (u_22 1), (u_22 2), (u_22 3), (u_24 0), (u_24 1), (u_24 2), (u_24 3)]) 49), .inl (cy 0, 6, .inl (fun _ => 0))), (((lst [q_1, q_2, q_4, q_6, q_8, q_9, q_11, q_13, q_15, q_17, (u_3 0), (u_3 1), (u_3 2), (u_3 3), (u_3 4), (u_3 5), (u_3 6), (u_3 7), (u_3 8), 0, (u_5 0), (u_5 1), (u_5 2), (u_5 3), (u_5 4), (u_5 5), (u_5 6), (u_5 7), (u_5 8), 0, (u_7 0), (u_7 1), (u_7 2), (u_7 3), (u_10 0), (u_10 1), (u_10 2), (u_10 3), 0, 0, (u_12 0), (u_12 1), (u_12 2), (u_12 3), (u_12 4), (u_14 0), (u_16 0), (u_16 1), (u_16 2), (u_16 3), (u_16 4), (u_18 0), q_19, q_21, q_23, (u_20 0), (u_20 1), (u_20 2), (u_20 3), (u_22 0), (u_22 1), (u_22 2), (u_22 3), (u_24 0), (u_24 1), (u_24 2), (u_24 3)]) 50), .inl (cy 0, 6, .inl (fun _ => 0))), (((lst [q_1, q_2, q_4, q_6, q_8, q_9, q_11, q_13, q_15, q_17, (u_3 0), (u_3 1), (u_3 2), (u_3 3), (u_3 4), (u_3 5), (u_3 6), (u_3 7), (u_3 8), 0, (u_5 0), (u_5 1), (u_5 2), (u_5 3), (u_5 4), (u_5 5), (u_5 6), (u_5 7), (u_5 8), 0, (u_7 0), (u_7 1), (u_7 2), (u_7 3), (u_10 0), (u_10 1), (u_10 2), (u_10 3), 0, 0, (u_12 0), (u_12 1), (u_12 2), (u_12 3), (u_12 4), (u_14 0), (u_16 0), (u_16 1), (u_16 2), (u_16 3), (u_16 4), (u_18 0), q_19, q_21, q_23, (u_20 0), (u_20 1), (u_20 2), (u_20 3), (u_22 0), (u_22 1), (u_22 2), (u_22 3), (u_24 0), (u_24 1), (u_24 2), (u_24 3)]) 9), .inr (0, [.ref ((lst [q_1, q_2, q_4, q_6, q_8, q_9, q_11, q_13, q_15, q_17, (u_3 0), (u_3 1), (u_3 2), (u_3 3), (u_3 4), (u_3 5), (u_3 6), (u_3 7), (u_3 8), 0, (u_5 0), (u_5 1), (u_5 2), (u_5 3), (u_5 4), (u_5 5), (u_5 6), (u_5 7), (u_5 8), 0, (u_7 0), (u_7 1), (u_7 2), (u_7 3), (u_10 0), (u_10 1), (u_10 2), (u_10 3), 0, 0, (u_12 0), (u_12 1), (u_12 2), (u_12 3), (u_12 4), (u_14 0), (u_16 0), (u_16 1), (u_16 2), (u_16 3), (u_16 4), (u_18 0), q_19, q_21, q_23, (u_20 0), (u_20 1), (u_20 2), (u_20 3), (u_22 0), (u_22 1), (u_22 2), (u_22 3), (u_24 0), (u_24 1), (u_24 2), (u_24 3)]) 51), .int 0])), (((lst [q_1, q_2, q_4, q_6, q_8, q_9, q_11, q_13, q_15, q_17, (u_3 0), (u_3 1), (u_3 2), (u_3 3), (u_3 4), (u_3 5), (u_3 6), (u_3 7), (u_3 8), 0, (u_5 0), (u_5 1), (u_5 2), (u_5 3), (u_5 4), (u_5 5), (u_5 6), (u_5 7), (u_5 8), 0, (u_7 0), (u_7 1), (u_7 2), (u_7 3), (u_10 0), (u_10 1), (u_10 2), (u_10 3), 0, 0, (u_12 0), (u_12 1), (u_12 2), (u_12 3), (u_12 4), (u_14 0), (u_16 0), (u_16 1), (u_16 2), (u_16 3), (u_16 4), (u_18 0), q_19, q_21, q_23, (u_20 0), (u_20 1), (u_20 2), (u_20 3), (u_22 0), (u_22 1), (u_22 2), (u_22 3), (u_24 0), (u_24 1), (u_24 2), (u_24 3)]) 52), .inr (7, [.ref ((lst [q_1, q_2, q_4, q_6, q_8, q_9, q_11, q_13, q_15, q_17, (u_3 0), (u_3 1), (u_3 2), (u_3 3), (u_3 4), (u_3 5), (u_3 6), (u_3 7), (u_3 8), 0, (u_5 0), (u_5 1), (u_5 2), (u_5 3), (u_5 4), (u_5 5), (u_5 6), (u_5 7), (u_5 8), 0, (u_7 0), (u_7 1), (u_7 2), (u_7 3), (u_10 0), (u_10 1), (u_10 2), (u_10 3), 0, 0, (u_12 0), (u_12 1), (u_12 2), (u_12 3), (u_12 4), (u_14 0), (u_16 0), (u_16 1), (u_16 2), (u_16 3), (u_16 4), (u_18 0), q_19, q_21, q_23, (u_20 0), (u_20 1), (u_20 2), (u_20 3), (u_22 0), (u_22 1), (u_22 2), (u_22 3), (u_24 0), (u_24 1), (u_24 2), (u_24 3)]) 55), .int 0, .int 0, .ref ((lst [q_1, q_2, q_4, q_6, q_8, q_9, q_11, q_13, q_15, q_17, (u_3 0), (u_3 1), (u_3 2), (u_3 3), (u_3 4), (u_3 5), (u_3 6), (u_3 7), (u_3 8), 0, (u_5 0), (u_5 1), (u_5 2), (u_5 3), (u_5 4), (u_5 5), (u_5 6), (u_5 7), (u_5 8), 0, (u_7 0), (u_7 1), (u_7 2), (u_7 3), (u_10 0), (u_10 1), (u_10 2), (u_10 3), 0, 0, (u_12 0), (u_12 1), (u_12 2), (u_12 3), (u_12 4), (u_14 0), (u_16 0), (u_16 1), (u_16 2), (u_16 3), (u_16 4), (u_18 0), q_19, q_21, q_23, (u_20 0), (u_20 1), (u_20 2), (u_20 3), (u_22 0), (u_22 1), (u_22 2), (u_22 3), (u_24 0), (u_24 1), (u_24 2), (u_24 3)]) 56), .int 0])), (((lst [q_1, q_2, q_4, q_6, q_8, q_9, q_11, q_13, q_15, q_17, (u_3 0), (u_3 1), (u_3 2), (u_3 3), (u_3 4), (u_3 5), (u_3 6), (u_3 7), (u_3 8), 0, (u_5 0), (u_5 1), (u_5 2), (u_5 3), (u_5 4), (u_5 5), (u_5 6), (u_5 7), (u_5 8), 0, (u_7 0), (u_7 1), (u_7 2), (u_7 3), (u_10 0), (u_10 1), (u_10 2), (u_10 3), 0, 0, (u_12 0), (u_12 1), (u_12 2), (u_12 3), (u_12 4), (u_14 0), (u_16 0), (u_16 1), (u_16 2), (u_16 3), (u_16 4), (u_18 0), q_19, q_21, q_23, (u_20 0), (u_20 1), (u_20 2), (u_20 3), (u_22 0), (u_22 1), (u_22 2), (u_22 3), (u_24 0), (u_24 1), (u_24 2), (u_24 3)]) 55), .inr (8, [.ref ((lst [q_1, q_2, q_4, q_6, q_8, q_9, q_11, q_13, q_15, q_17, (u_3 0), (u_3 1), (u_3 2), (u_3 3), (u_3 4), (u_3 5), (u_3 6), (u_3 7), (u_3 8), 0, (u_5 0), (u_5 1), (u_5 2), (u_5 3), (u_5 4), (u_5 5), (u_5 6), (u_5 7), (u_5 8), 0, (u_7 0), (u_7 1), (u_7 2), (u_7 3), (u_10 0), (u_10 1), (u_10 2), (u_10 3), 0, 0, (u_12 0), (u_12 1), (u_12 2), (u_12 3), (u_12 4), (u_14 0), (u_16 0), (u_16 1), (u_16 2), (u_16 3), (u_16 4), (u_18 0), q_19, q_21, q_23, (u_20 0), (u_20 1), (u_20 2), (u_20 3), (u_22 0), (u_22 1), (u_22 2), (u_22 3), (u_24 0), (u_24 1), (u_24 2), (u_24 3)]) 57), .ref ((lst [q_1, q_2, q_4, q_6, q_8, q_9, q_11, q_13, q_15, q_17, (u_3 0), (u_3 1), (u_3 2), (u_3 3), (u_3 4), (u_3 5), (u_3 6), (u_3 7), (u_3 8), 0, (u_5 0), (u_5 1), (u_5 2), (u_5 3), (u_5 4), (u_5 5), (u_5 6), (u_5 7), (u_5 8), 0, (u_7 0), (u_7 1), (u_7 2), (u_7 3), (u_10 0), (u_10 1), (u_10 2), (u_10 3), 0, 0, (u_12 0), (u_12 1), (u_12 2), (u_12 3), (u_12 4), (u_14 0), (u_16 0), (u_16 1), (u_16 2), (u_16 3), (u_16 4), (u_18 0), q_19, q_21, q_23, (u_20 0), (u_20 1), (u_20 2), (u_20 3), (u_22 0), (u_22 1), (u_22 2), (u_22 3), (u_24 0), (u_24 1), (u_24 2), (u_24 3)]) 58), .int 0])), (((lst [q_1, q_2, q_4, q_6, q_8, q_9, q_11, q_13, q_15, q_17, (u_3 0), (u_3 1), (u_3 2), (u_3 3), (u_3 4), (u_3 5), (u_3 6), (u_3 7), (u_3 8), 0, (u_5 0), (u_5 1), (u_5 2), (u_5 3), (u_5 4), (u_5 5), (u_5 6), (u_5 7), (u_5 8), 0, (u_7 0), (u_7 1), (u_7 2), (u_7 3), (u_10 0), (u_10 1), (u_10 2), (u_10 3), 0, 0, (u_12 0), (u_12 1), (u_12 2), (u_12 3), (u_12 4), (u_14 0), (u_16 0), (u_16 1), (u_16 2), (u_16 3), (u_16 4), (u_18 0), q_19, q_21, q_23, (u_20 0), (u_20 1), (u_20 2), (u_20 3), (u_22 0), (u_22 1), (u_22 2), (u_22 3), (u_24 0), (u_24 1), (u_24 2), (u_24 3)]) 57), .inl (cy 0, 40, .inl (fun _ => 0))), (((lst [q_1, q_2, q_4, q_6, q_8, q_9, q_11, q_13, q_15, q_17, (u_3 0), (u_3 1), (u_3 2), (u_3 3), (u_3 4), (u_3 5), (u_3 6), (u_3 7), (u_3 8), 0, (u_5 0), (u_5 1), (u_5 2), (u_5 3), (u_5 4), (u_5 5), (u_5 6), (u_5 7), (u_5 8), 0, (u_7 0), (u_7 1), (u_7 2), (u_7 3), (u_10 0), (u_10 1), (u_10 2), (u_10 3), 0, 0, (u_12 0), (u_12 1), (u_12 2), (u_12 3), (u_12 4), (u_14 0), (u_16 0), (u_16 1), (u_16 2), (u_16 3), (u_16 4), (u_18 0), q_19, q_21, q_23, (u_20 0), (u_20 1), (u_20 2), (u_20 3), (u_22 0), (u_22 1), (u_22 2), (u_22 3), (u_24 0), (u_24 1), (u_24 2), (u_24 3)]) 58), .inl (cy 0, 40, .inl (fun _ => 0))), (((lst [q_1, q_2, q_4, q_6, q_8, q_9, q_11, q_13, q_15, q_17, (u_3 0), (u_3 1), (u_3 2), (u_3 3), (u_3 4), (u_3 5), (u_3 6), (u_3 7), (u_3 8), 0, (u_5 0), (u_5 1), (u_5 2), (u_5 3), (u_5 4), (u_5 5), (u_5 6), (u_5 7), (u_5 8), 0, (u_7 0), (u_7 1), (u_7 2), (u_7 3), (u_10 0), (u_10 1), (u_10 2), (u_10 3), 0, 0, (u_12 0), (u_12 1), (u_12 2), (u_12 3), (u_12 4), (u_14 0), (u_16 0), (u_16 1), (u_16 2), (u_16 3), (u_16 4), (u_18 0), q_19, q_21, q_23, (u_20 0), (u_20 1), (u_20 2), (u_20 3), (u_22 0), (u_22 1), (u_22 2), (u_22 3), (u_24 0), (u_24 1), (u_24 2), (u_24 3)]) 56), .inl (cy 0, 8, .inl (fun _ => 0))), (((lst [q_1, q_2, q_4, q_6, q_8, q_9, q_11, q_13, q_15, q_17, (u_3 0), (u_3 1), (u_3 2), (u_3 3), (u_3 4), (u_3 5), (u_3 6), (u_3 7), (u_3 8), 0, (u_5 0), (u_5 1), (u_5 2), (u_5 3), (u_5 4), (u_5 5), (u_5 6), (u_5 7), (u_5 8), 0, (u_7 0), (u_7 1), (u_7 2), (u_7 3), (u_10 0), (u_10 1), (u_10 2), (u_10 3), 0, 0, (u_12 0), (u_12 1), (u_12 2), (u_12 3), (u_12 4), (u_14 0), (u_16 0), (u_16 1), (u_16 2), (u_16 3), (u_16 4), (u_18 0), q_19, q_21, q_23, (u_20 0), (u_20 1), (u_20 2), (u_20 3), (u_22 0), (u_22 1), (u_22 2), (u_22 3), (u_24 0), (u_24 1), (u_24 2), (u_24 3)]) 53), .inr (7, [.ref ((lst [q_1, q_2, q_4, q_6, q_8, q_9, q_11, q_13, q_15, q_17, (u_3 0), (u_3 1), (u_3 2), (u_3 3), (u_3 4), (u_3 5), (u_3 6), (u_3 7), (u_3 8), 0, (u_5 0), (u_5 1), (u_5 2), (u_5 3), (u_5 4), (u_5 5), (u_5 6), (u_5 7), (u_5 8), 0, (u_7 0), (u_7 1), (u_7 2), (u_7 3), (u_10 0), (u_10 1), (u_10 2), (u_10 3), 0, 0, (u_12 0), (u_12 1), (u_12 2), (u_12 3), (u_12 4), (u_14 0), (u_16 0), (u_16 1), (u_16 2), (u_16 3), (u_16 4), (u_18 0), q_19, q_21, q_23, (u_20 0), (u_20 1), (u_20 2), (u_20 3), (u_22 0), (u_22 1), (u_22 2), (u_22 3), (u_24 0), (u_24 1), (u_24 2), (u_24 3)]) 59), .int 0, .int 0, .ref ((lst [q_1, q_2, q_4, q_6, q_8, q_9, q_11, q_13, q_15, q_17, (u_3 0), (u_3 1), (u_3 2), (u_3 3), (u_3 4), (u_3 5), (u_3 6), (u_3 7), (u_3 8), 0, (u_5 0), (u_5 1), (u_5 2), (u_5 3), (u_5 4), (u_5 5), (u_5 6), (u_5 7), (u_5 8), 0, (u_7 0), (u_7 1), (u_7 2), (u_7 3), (u_10 0), (u_10 1), (u_10 2), (u_10 3), 0, 0, (u_12 0), (u_12 1), (u_12 2), (u_12 3), (u_12 4), (u_14 0), (u_16 0), (u_16 1), (u_16 2), (u_16 3), (u_16 4), (u_18 0), q_19, q_21, q_23, (u_20 0), (u_20 1), (u_20 2), (u_20 3), (u_22 0), (u_22 1), (u_22 2), (u_22 3), (u_24 0), (u_24 1), (u_24 2), (u_24 3)]) 60), .int 0])), (((lst [q_1, q_2, q_4, q_6, q_8, q_9, q_11, q_13, q_15, q_17, (u_3 0), (u_3 1), (u_3 2), (u_3 3), (u_3 4), (u_3 5), (u_3 6), (u_3 7), (u_3 8), 0, (u_5 0), (u_5 1), (u_5 2), (u_5 3), (u_5 4), (u_5 5), (u_5 6), (u_5 7), (u_5 8), 0, (u_7 0), (u_7 1), (u_7 2), (u_7 3), (u_10 0), (u_10 1), (u_10 2), (u_10 3), 0, 0, (u_12 0), (u_12 1), (u_12 2), (u_12 3), (u_12 4), (u_14 0), (u_16 0), (u_16 1), (u_16 2), (u_16 3), (u_16 4), (u_18 0), q_19, q_21, q_23, (u_20 0), (u_20 1), (u_20 2), (u_20 3), (u_22 0), (u_22 1), (u_22 2), (u_22 3), (u_24 0), (u_24 1), (u_24 2), (u_24 3)]) 59), .inr (8, [.ref ((lst [q_1, q_2, q_4, q_6, q_8, q_9, q_11, q_13, q_15, q_17, (u_3 0), (u_3 1), (u_3 2), (u_3 3), (u_3 4), (u_3 5), (u_3 6), (u_3 7), (u_3 8), 0, (u_5 0), (u_5 1), (u_5 2), (u_5 3), (u_5 4), (u_5 5), (u_5 6), (u_5 7), (u_5 8), 0, (u_7 0), (u_7 1), (u_7 2), (u_7 3), (u_10 0), (u_10 1), (u_10 2), (u_10 3), 0, 0, (u_12 0), (u_12 1), (u_12 2), (u_12 3), (u_12 4), (u_14 0), (u_16 0), (u_16 1), (u_16 2), (u_16 3), (u_16 4), (u_18 0), q_19, q_21, q_23, (u_20 0), (u_20 1), (u_20 2), (u_20 3), (u_22 0), (u_22 1), (u_22 2), (u_22 3), (u_24 0), (u_24 1), (u_24 2), (u_24 3)]) 61), .ref ((lst [q_1, q_2, q_4, q_6, q_8, q_9, q_11, q_13, q_15, q_17, (u_3 0), (u_3 1), (u_3 2), (u_3 3), (u_3 4), (u_3 5), (u_3 6), (u_3 7), (u_3 8), 0, (u_5 0), (u_5 1), (u_5 2), (u_5 3), (u_5 4), (u_5 5), (u_5 6), (u_5 7), (u_5 8), 0, (u_7 0), (u_7 1), (u_7 2), (u_7 3), (u_10 0), (u_10 1), (u_10 2), (u_10 3), 0, 0, (u_12 0), (u_12 1), (u_12 2), (u_12 3), (u_12 4), (u_14 0), (u_16 0), (u_16 1), (u_16 2), (u_16 3), (u_16 4), (u_18 0), q_19, q_21, q_23, (u_20 0), (u_20 1), (u_20 2), (u_20 3), (u_22 0), (u_22 1), (u_22 2), (u_22 3), (u_24 0), (u_24 1), (u_24 2), (u_24 3)]) 62), .int 0])), (((lst [q_1, q_2, q_4, q_6, q_8, q_9, q_11, q_13, q_15, q_17, (u_3 0), (u_3 1), (u_3 2), (u_3 3), (u_3 4), (u_3 5), (u_3 6), (u_3 7), (u_3 8), 0, (u_5 0), (u_5 1), (u_5 2), (u_5 3), (u_5 4), (u_5 5), (u_5 6), (u_5 7), (u_5 8), 0, (u_7 0), (u_7 1), (u_7 2), (u_7 3), (u_10 0), (u_10 1), (u_10 2), (u_10 3), 0, 0, (u_12 0), (u_12 1), (u_12 2), (u_12 3), (u_12 4), (u_14 0), (u_16 0), (u_16 1), (u_16 2), (u_16 3), (u_16 4), (u_18 0), q_19, q_21, q_23, (u_20 0), (u_20 1), (u_20 2), (u_20 3), (u_22 0), (u_22 1), (u_22 2), (u_22 3), (u_24 0), (u_24 1), (u_24 2), (u_24 3)]) 61), .inl (cy 0, 40, .inl (fun _ => 0))), (((lst [q_1, q_2, q_4, q_6, q_8, q_9, q_11, q_13, q_15, q_17, (u_3 0), (u_3 1), (u_3 2), (u_3 3), (u_3 4), (u_3 5), (u_3 6), (u_3 7), (u_3 8), 0, (u_5 0), (u_5 1), (u_5 2), (u_5 3), (u_5 4), (u_5 5), (u_5 6), (u_5 7), (u_5 8), 0, (u_7 0), (u_7 1), (u_7 2), (u_7 3), (u_10 0), (u_10 1), (u_10 2), (u_10 3), 0, 0, (u_12 0), (u_12 1), (u_12 2), (u_12 3), (u_12 4), (u_14 0), (u_16 0), (u_16 1), (u_16 2), (u_16 3), (u_16 4), (u_18 0), q_19, q_21, q_23, (u_20 0), (u_20 1), (u_20 2), (u_20 3), (u_22 0), (u_22 1), (u_22 2), (u_22 3), (u_24 0), (u_24 1), (u_24 2), (u_24 3)]) 62), .inl (cy 0, 40, .inl (fun _ => 0))), (((lst [q_1, q_2, q_4, q_6, q_8, q_9, q_11, q_13, q_15, q_17, (u_3 0), (u_3 1), (u_3 2), (u_3 3), (u_3 4), (u_3 5), (u_3 6), (u_3 7), (u_3 8), 0, (u_5 0), (u_5 1), (u_5 2), (u_5 3), (u_5 4), (u_5 5), (u_5 6), (u_5 7), (u_5 8), 0, (u_7 0), (u_7 1), (u_7 2), (u_7 3), (u_10 0), (u_10 1), (u_10 2), (u_10 3), 0, 0, (u_12 0), (u_12 1), (u_12 2), (u_12 3), (u_12 4), (u_14 0), (u_16 0), (u_16 1), (u_16 2), (u_16 3), (u_16 4), (u_18 0), q_19, q_21, q_23, (u_20 0), (u_20 1), (u_20 2), (u_20 3), (u_22 0), (u_22 1), (u_22 2), (u_22 3), (u_24 0), (u_24 1), (u_24 2), (u_24 3)]) 60), .inl (cy 0, 8, .inl (fun _ => 0))), (((lst [q_1, q_2, q_4, q_6, q_8, q_9, q_11, q_13, q_15, q_17, (u_3 0), (u_3 1), (u_3 2), (u_3 3), (u_3 4), (u_3 5), (u_3 6), (u_3 7), (u_3 8), 0, (u_5 0), (u_5 1), (u_5 2), (u_5 3), (u_5 4), (u_5 5), (u_5 6), (u_5 7), (u_5 8), 0, (u_7 0), (u_7 1), (u_7 2), (u_7 3), (u_10 0), (u_10 1), (u_10 2), (u_10 3), 0, 0, (u_12 0), (u_12 1), (u_12 2), (u_12 3), (u_12 4), (u_14 0), (u_16 0), (u_16 1), (u_16 2), (u_16 3), (u_16 4), (u_18 0), q_19, q_21, q_23, (u_20 0), (u_20 1), (u_20 2), (u_20 3), (u_22 0), (u_22 1), (u_22 2), (u_22 3), (u_24 0), (u_24 1), (u_24 2), (u_24 3)]) 54), .inr (7, [.ref ((lst [q_1, q_2, q_4, q_6, q_8, q_9, q_11, q_13, q_15, q_17, (u_3 0), (u_3 1), (u_3 2), (u_3 3), (u_3 4), (u_3 5), (u_3 6), (u_3 7), (u_3 8), 0, (u_5 0), (u_5 1), (u_5 2), (u_5 3), (u_5 4), (u_5 5), (u_5 6), (u_5 7), (u_5 8), 0, (u_7 0), (u_7 1), (u_7 2), (u_7 3), (u_10 0), (u_10 1), (u_10 2), (u_10 3), 0, 0, (u_12 0), (u_12 1), (u_12 2), (u_12 3), (u_12 4), (u_14 0), (u_16 0), (u_16 1), (u_16 2), (u_16 3), (u_16 4), (u_18 0), q_19, q_21, q_23, (u_20 0), (u_20 1), (u_20 2), (u_20 3), (u_22 0), (u_22 1), (u_22 2), (u_22 3), (u_24 0), (u_24 1), (u_24 2), (u_24 3)]) 63), .int 0, .int 0, .ref ((lst [q_1, q_2, q_4, q_6, q_8, q_9, q_11, q_13, q_15, q_17, (u_3 0), (u_3 1), (u_3 2), (u_3 3), (u_3 4), (u_3 5), (u_3 6), (u_3 7), (u_3 8), 0, (u_5 0), (u_5 1), (u_5 2), (u_5 3), (u_5 4), (u_5 5), (u_5 6), (u_5 7), (u_5 8), 0, (u_7 0), (u_7 1), (u_7 2), (u_7 3), (u_10 0), (u_10 1), (u_10 2), (u_10 3), 0, 0, (u_12 0), (u_12 1), (u_12 2), (u_12 3), (u_12 4), (u_14 0), (u_16 0), (u_16 1), (u_16 2), (u_16 3), (u_16 4), (u_18 0), q_19, q_21, q_23, (u_20 0), (u_20 1), (u_20 2), (u_20 3), (u_22 0), (u_22 1), (u_22 2), (u_22 3), (u_24 0), (u_24 1), (u_24 2), (u_24 3)]) 64), .int 0])), (((lst [q_1, q_2, q_4, q_6, q_8, q_9, q_11, q_13, q_15, q_17, (u_3 0), (u_3 1), (u_3 2), (u_3 3), (u_3 4), (u_3 5), (u_3 6), (u_3 7), (u_3 8), 0, (u_5 0), (u_5 1), (u_5 2), (u_5 3), (u_5 4), (u_5 5), (u_5 6), (u_5 7), (u_5 8), 0, (u_7 0), (u_7 1), (u_7 2), (u_7 3), (u_10 0), (u_10 1), (u_10 2), (u_10 3), 0, 0, (u_12 0), (u_12 1), (u_12 2), (u_12 3), (u_12 4), (u_14 0), (u_16 0), (u_16 1), (u_16 2), (u_16 3), (u_16 4), (u_18 0), q_19, q_21, q_23, (u_20 0), (u_20 1), (u_20 2), (u_20 3), (u_22 0), (u_22 1), (u_22 2), (u_22 3), (u_24 0), (u_24 1), (u_24 2), (u_24 3)]) 63), .inr (8, [.ref ((lst [q_1, q_2, q_4, q_6, q_8, q_9, q_11, q_13, q_15, q_17, (u_3 0), (u_3 1), (u_3 2), (u_3 3), (u_3 4), (u_3 5), (u_3 6), (u_3 7), (u_3 8), 0, (u_5 0), (u_5 1), (u_5 2), (u_5 3), (u_5 4), (u_5 5), (u_5 6), (u_5 7), (u_5 8), 0, (u_7 0), (u_7 1), (u_7 2), (u_7 3), (u_10 0), (u_10 1), (u_10 2), (u_10 3), 0, 0, (u_12 0), (u_12 1), (u_12 2), (u_12 3), (u_12 4), (u_14 0), (u_16 0), (u_16 1), (u_16 2), (u_16 3), (u_16 4), (u_18 0), q_19, q_21, q_23, (u_20 0), (u_20 1), (u_20 2), (u_20 3), (u_22 0), (u_22 1), (u_22 2), (u_22 3), (u_24 0), (u_24 1), (u_24 2), (u_24 3)]) 65), .ref ((lst [q_1, q_2, q_4, q_6, q_8, q_9, q_11, q_13, q_15, q_17, (u_3 0), (u_3 1), (u_3 2), (u_3 3), (u_3 4), (u_3 5), (u_3 6), (u_3 7), (u_3 8), 0, (u_5 0), (u_5 1), (u_5 2), (u_5 3), (u_5 4), (u_5 5), (u_5 6), (u_5 7), (u_5 8), 0, (u_7 0), (u_7 1), (u_7 2), (u_7 3), (u_10 0), (u_10 1), (u_10 2), (u_10 3), 0, 0, (u_12 0), (u_12 1), (u_12 2), (u_12 3), (u_12 4), (u_14 0), (u_16 0), (u_16 1), (u_16 2), (u_16 3), (u_16 4), (u_18 0), q_19, q_21, q_23, (u_20 0), (u_20 1), (u_20 2), (u_20 3), (u_22 0), (u_22 1), (u_22 2), (u_22 3), (u_24 0), (u_24 1), (u_24 2), (u_24 3)]) 66), .int 0])), (((lst [q_1, q_2, q_4, q_6, q_8, q_9, q_11, q_13, q_15, q_17, (u_3 0), (u_3 1), (u_3 2), (u_3 3), (u_3 4), (u_3 5), (u_3 6), (u_3 7), (u_3 8), 0, (u_5 0), (u_5 1), (u_5 2), (u_5 3), (u_5 4), (u_5 5), (u_5 6), (u_5 7), (u_5 8), 0, (u_7 0), (u_7 1), (u_7 2), (u_7 3), (u_10 0), (u_10 1), (u_10 2), (u_10 3), 0, 0, (u_12 0), (u_12 1), (u_12 2), (u_12 3), (u_12 4), (u_14 0), (u_16 0), (u_16 1), (u_16 2), (u_16 3), (u_16 4), (u_18 0), q_19, q_21, q_23, (u_20 0), (u_20 1), (u_20 2), (u_20 3), (u_22 0), (u_22 1), (u_22 2), (u_22 3), (u_24 0), (u_24 1), (u_24 2), (u_24 3)]) 65), .inl (cy 0, 40, .inl (fun _ => 0))), (((lst [q_1, q_2, q_4, q_6, q_8, q_9, q_11, q_13, q_15, q_17, (u_3 0), (u_3 1), (u_3 2), (u_3 3), (u_3 4), (u_3 5), (u_3 6), (u_3 7), (u_3 8), 0, (u_5 0), (u_5 1), (u_5 2), (u_5 3), (u_5 4), (u_5 5), (u_5 6), (u_5 7), (u_5 8), 0, (u_7 0), (u_7 1), (u_7 2), (u_7 3), (u_10 0), (u_10 1), (u_10 2), (u_10 3), 0, 0, (u_12 0), (u_12 1), (u_12 2), (u_12 3), (u_12 4), (u_14 0), (u_16 0), (u_16 1), (u_16 2), (u_16 3), (u_16 4), (u_18 0), q_19, q_21, q_23, (u_20 0), (u_20 1), (u_20 2), (u_20 3), (u_22 0), (u_22 1), (u_22 2), (u_22 3), (u_24 0), (u_24 1), (u_24 2), (u_24 3)]) 66), .inl (cy 0, 40, .inl (fun _ => 0))), (((lst [q_1, q_2, q_4, q_6, q_8, q_9, q_11, q_13, q_15, q_17, (u_3 0), (u_3 1), (u_3 2), (u_3 3), (u_3 4), (u_3 5), (u_3 6), (u_3 7), (u_3 8), 0, (u_5 0), (u_5 1), (u_5 2), (u_5 3), (u_5 4), (u_5 5), (u_5 6), (u_5 7), (u_5 8), 0, (u_7 0), (u_7 1), (u_7 2), (u_7 3), (u_10 0), (u_10 1), (u_10 2), (u_10 3), 0, 0, (u_12 0), (u_12 1), (u_12 2), (u_12 3), (u_12 4), (u_14 0), (u_16 0), (u_16 1), (u_16 2), (u_16 3), (u_16 4), (u_18 0), q_19, q_21, q_23, (u_20 0), (u_20 1), (u_20 2), (u_20 3), (u_22 0), (u_22 1), (u_22 2), (u_22 3), (u_24 0), (u_24 1), (u_24 2), (u_24 3)]) 64), .inl (cy 0, 8, .inl (fun _ => 0)))] := hD.sub [0, 1, 2, 3, 4, 5, 6, 7, 8, 9, 10, 11, 12, 13, 14, 15, 16, 17, 18, 19, 20, 21, 22, 23, 24, 25, 26, 27, 28, 29, 30, 31, 32, 33, 34, 35] (by decide) rfl
  exact W.vret hx hb hr (fun t ht9 hW => ⟨⟨(lst [q_1, q_2, q_4, q_6, q_8, q_9, q_11, q_13, q_15, q_17, (u_3 0), (u_3 1), (u_3 2), (u_3 3), (u_3 4), (u_3 5), (u_3 6), (u_3 7), (u_3 8), 0, (u_5 0), (u_5 1), (u_5 2), (u_5 3), (u_5 4), (u_5 5), (u_5 6), (u_5 7), (u_5 8), 0, (u_7 0), (u_7 1), (u_7 2), (u_7 3), (u_10 0), (u_10 1), (u_10 2), (u_10 3), 0, 0, (u_12 0), (u_12 1), (u_12 2), (u_12 3), (u_12 4), (u_14 0), (u_16 0), (u_16 1), (u_16 2), (u_16 3), (u_16 4), (u_18 0), q_19, q_21, q_23, (u_20 0), (u_20 1), (u_20 2), (u_20 3), (u_22 0), (u_22 1), (u_22 2), (u_22 3), (u_24 0), (u_24 1), (u_24 2), (u_24 3)]), rfl, trivial, ⟨by rw [ht9]; exact hP9, hD9⟩⟩, hS.F ht9⟩) hS.2.2 dX11_init_144
end
section
set_option maxHeartbeats 4000000 in
set_option maxRecDepth 100000 in
theorem c_hasLock (l : Launch) (G : va_G) (cy : Nat → ClassId) (sz : Nat) (h : Nat) (t : Int32) (v0 : Value) (v1 : Value) (v2 : Value) (v3 : Value) (v4 : Value) (v6 : Value) (v7 : Value) (v8 : Value)  : Met l yX9_hasLock (.code yX9_hasLock cX9_hasLock 2 (some .boolean) :: TBg) ({ frames := 1, cells := 0, slots := 0, locals := 64 }) (va_Pc [.ref h, .int t] (En G cy [(h, .inr (9, [v0, v1, v2, v3, v4, .int 0, v6, v7, v8]))] sz)) (va_Qi (fun (r : Int32) (_ : Unit) => r = 0 ∧ True) (fun _ _ => True) (va_A [] sz)) 0 0 (va_A [] sz) := by
  refine Met.ofW (cc := cX9_hasLock) (maxL := 2) (ret := (some .boolean)) (by decide) rfl ?_
  intro p e s m args below meth c s₁ B hml hv
  obtain ⟨rfl, hsz, hP, hK, hD0, hN⟩ := hv
  have hx := B.exec
  have hb := B.bytes
  have hr := B.returns
  have hts := atoms_spec (ws := .code yX9_hasLock cX9_hasLock 2 (some .boolean) :: TBg) B.pre
  have ht : ∀ w ∈ TBg, w.before _ s = true := fun w h => hts w (List.mem_cons_of_mem _ h)
  have hown : s.vm.findClass RX9 = some m.cls := findClass_of_methodNamed B.named
  have hlocks := B.notSynchronized
  subst hsz
  generalize hAe : va_A [] s.heap.size = A at ⊢
  have hA : ∀ q : Nat, s.heap.size ≤ q → A q := fun q h => by rw [← hAe]; exact Or.inr h
  have hS : va_S A s.heap s.heap [] := va_S.rf
  have hl := lv_entry ([.ref h, .int t]) (n := 2) (Nat.le_of_ble_eq_true rfl)
  rw [lg_entry_eq]
  generalize (lg_sl ([.ref h, .int t]) ++ List.replicate (2 - (lg_sl ([.ref h, .int t])).length) Slot.unset).toArray = ls at hl ⊢
  have hl : lv_has ls 2 [(0, .ref h), (1, .int t)] := hl
  refine lv_iload_n hx hb dX9_hasLock_0 rfl (lv_at hl 1 rfl) ?_
  refine lv_if_lt (tgt := 16) hx hb dX9_hasLock_1 (by decide) (fun c_1 => ?_) (fun c_1 => ?_)
  · skip
    refine lv_iconst (v := 0) hx hb dX9_hasLock_16 (by decide) ?_
    refine W.widen (k := 0) (n := 0) (Nat.le_of_ble_eq_true rfl) (Nat.le_of_ble_eq_true rfl) ?_
    exact W.zret (v := 0) hx hb hr (by first | rfl | decide) (fun t ht9 hW => ⟨⟨0, (), rfl, ⟨rfl, trivial⟩, trivial⟩, hS.F ht9⟩) hS.2.2 dX9_hasLock_17
  · skip
    refine lv_iload_n hx hb dX9_hasLock_4 rfl (lv_at hl 1 rfl) ?_
    refine lv_aload_n hx hb dX9_hasLock_5 rfl (lv_at hl 0 rfl) ?_
    refine va_get (ci := 9) (v := .int 0) (C := RX9) (T := TX9) (N := 9) hx hb ht iX9 hown hK hP 0 rfl rfl 5 (by decide) (ht _ k_118) (fun _ h9 => h9) rfl dX9_hasLock_6 ?_
    refine lv_icmp_ge (tgt := 16) hx hb dX9_hasLock_9 (by decide) (fun c_2 => ?_) (fun c_2 => ?_)
    · skip
      refine lv_iconst (v := 0) hx hb dX9_hasLock_16 (by decide) ?_
      refine W.widen (k := 0) (n := 0) (Nat.le_of_ble_eq_true rfl) (Nat.le_of_ble_eq_true rfl) ?_
      exact W.zret (v := 0) hx hb hr (by first | rfl | decide) (fun t ht9 hW => ⟨⟨0, (), rfl, ⟨rfl, trivial⟩, trivial⟩, hS.F ht9⟩) hS.2.2 dX9_hasLock_17
    · exfalso
      have z0 : (0 : Int32).toInt = 0 := (by decide); (try simp only [ow_lt, ow_le, ow_eq] at c_1 c_2); omega
set_option maxHeartbeats 4000000 in
set_option maxRecDepth 100000 in
theorem c_put0 (l : Launch) (G : va_G) (cy : Nat → ClassId) (sz : Nat) (x : Nat) (n : Int32) (tp : Nat) (f : Nat → Int32) (v2 : Value) (v3 : Value) (v4 : Value) (v5 : Value) (v6 : Value) (v7 : Value) (v8 : Value) (v9 : Value) (v10 : Value) (v11 : Value) (v12 : Value) (v13 : Value)  : Met l yX11_putNumber (.code yX11_putNumber cX11_putNumber 3 none :: TBg) ({ frames := 1, cells := 0, slots := 0, locals := 64 }) (va_Pc [.ref x, .int n] (En G cy [(x, .inr (11, [.ref tp, .int 0, v2, v3, v4, v5, v6, v7, v8, v9, v10, v11, v12, v13])), (tp, .inl (cy 1, 1700, .inl f))] sz)) (va_Qv (fun u : Nat → Nat → Int32 => True) (fun u t => Ex G (va_A [(x, .inr (11, [.ref tp, .int 0, v2, v3, v4, v5, v6, v7, v8, v9, v10, v11, v12, v13])), (tp, .inl (cy 1, 1700, .inl f))] sz) [(x, .inr (11, [.ref tp, .int 4, v2, v3, v4, v5, v6, v7, v8, v9, v10, v11, v12, v13])), (tp, .inl (cy 1, 1700, .inl (u 0)))] t) (va_A [(x, .inr (11, [.ref tp, .int 0, v2, v3, v4, v5, v6, v7, v8, v9, v10, v11, v12, v13])), (tp, .inl (cy 1, 1700, .inl f))] sz)) 0 0 (va_A [(x, .inr (11, [.ref tp, .int 0, v2, v3, v4, v5, v6, v7, v8, v9, v10, v11, v12, v13])), (tp, .inl (cy 1, 1700, .inl f))] sz) := by
  refine Met.ofW (cc := cX11_putNumber) (maxL := 3) (ret := none) (by decide) rfl ?_
  intro p e s m args below meth c s₁ B hml hv
  obtain ⟨rfl, hsz, hP, hK, hD0, hN⟩ := hv
  have hx := B.exec
  have hb := B.bytes
  have hr := B.returns
  have hts := atoms_spec (ws := .code yX11_putNumber cX11_putNumber 3 none :: TBg) B.pre
  have ht : ∀ w ∈ TBg, w.before _ s = true := fun w h => hts w (List.mem_cons_of_mem _ h)
  have hown : s.vm.findClass RX11 = some m.cls := findClass_of_methodNamed B.named
  have hlocks := B.notSynchronized
  subst hsz
  have hD := hD0.self (sz := s.heap.size)
  generalize hAe : va_A [(x, .inr (11, [.ref tp, .int 0, v2, v3, v4, v5, v6, v7, v8, v9, v10, v11, v12, v13])), (tp, .inl (cy 1, 1700, .inl f))] s.heap.size = A at hD ⊢
  have hA : ∀ q : Nat, s.heap.size ≤ q → A q := fun q h => by rw [← hAe]; exact Or.inr h
  have hS : va_S A s.heap s.heap [] := va_S.rf
  have hl := lv_entry ([.ref x, .int n]) (n := 3) (Nat.le_of_ble_eq_true rfl)
  rw [lg_entry_eq]
  generalize (lg_sl ([.ref x, .int n]) ++ List.replicate (3 - (lg_sl ([.ref x, .int n])).length) Slot.unset).toArray = ls at hl ⊢
  have hl : lv_has ls 3 [(0, .ref x), (1, .int n)] := hl
  refine lv_bipush (v := 24) hx hb dX11_putNumber_0 (by decide) ?_
  refine lv_istore_n (lv' := [(2, .int 24), (0, .ref x), (1, .int n)]) hx hb dX11_putNumber_2 rfl hl (by decide) rfl (fun ls hl => ?_)
  refine lv_iload_n hx hb dX11_putNumber_3 rfl (lv_at hl 0 rfl) ?_
  refine lv_if_lt (tgt := 48) hx hb dX11_putNumber_4 (by decide) (fun c9 => absurd c9 (by decide)) (fun _ => ?_)
  refine lv_aload_n hx hb dX11_putNumber_7 rfl (lv_at hl 1 rfl) ?_
  refine va_get (ci := 11) (v := .int 0) (C := RX11) (T := TX11) (N := 14) hx hb ht iX11 hown hK hP 0 rfl rfl 1 (by decide) (ht _ k_119) (fun _ h9 => h9) rfl dX11_putNumber_8 ?_
  refine lv_aload_n hx hb dX11_putNumber_11 rfl (lv_at hl 1 rfl) ?_
  refine va_get (ci := 11) (v := .ref tp) (C := RX11) (T := TX11) (N := 14) hx hb ht iX11 hown hK hP 0 rfl rfl 0 (by decide) (ht _ k_75) (fun _ h9 => h9) rfl dX11_putNumber_12 ?_
  refine va_alen (v := 1700) hx hb hK hP 1 1 rfl rfl rfl dX11_putNumber_15 ?_
  refine lv_icmp_ge (tgt := 42) hx hb dX11_putNumber_16 (by decide) (fun c9 => absurd c9 (by decide)) (fun _ => ?_)
  refine lv_aload_n hx hb dX11_putNumber_19 rfl (lv_at hl 1 rfl) ?_
  refine va_get (ci := 11) (v := .ref tp) (C := RX11) (T := TX11) (N := 14) hx hb ht iX11 hown hK hP 0 rfl rfl 0 (by decide) (ht _ k_75) (fun _ h9 => h9) rfl dX11_putNumber_20 ?_
  refine lv_aload_n hx hb dX11_putNumber_23 rfl (lv_at hl 1 rfl) ?_
  refine va_get (ci := 11) (v := .int 0) (C := RX11) (T := TX11) (N := 14) hx hb ht iX11 hown hK hP 0 rfl rfl 1 (by decide) (ht _ k_119) (fun _ h9 => h9) rfl dX11_putNumber_24 ?_
  refine lv_iload_n hx hb dX11_putNumber_27 rfl (lv_at hl 2 rfl) ?_
  refine lv_iload_n hx hb dX11_putNumber_28 rfl (lv_at hl 0 rfl) ?_
  refine lv_ishr hx hb dX11_putNumber_29 ?_
  refine lv_topi (fun v_1 ev_1 => ?_)
  refine lv_i2b hx hb dX11_putNumber_30 rfl ?_
  refine lv_topi (fun v_2 ev_2 => ?_)
  refine ow_bast hx hb hK hP hD hS 1 rfl (in_lit (by decide +kernel)) dX11_putNumber_31 (fun f_3 H locs hP hD hS => ?_)
  have hP : va_P G vwCl [(x, .inr (11, [.ref tp, .int 0, v2, v3, v4, v5, v6, v7, v8, v9, v10, v11, v12, v13])), (tp, .inl (cy 1, 1700, .inl f_3))] H := hP
  have hD : va_D A [(x, .inr (11, [.ref tp, .int 0, v2, v3, v4, v5, v6, v7, v8, v9, v10, v11, v12, v13])), (tp, .inl (cy 1, 1700, .inl f_3))] := hD
  refine lv_aload_n hx hb dX11_putNumber_32 rfl (lv_at hl 1 rfl) ?_
  refine lv_dup hx hb dX11_putNumber_33 rfl ?_
  refine va_get (ci := 11) (v := .int 0) (C := RX11) (T := TX11) (N := 14) hx hb ht iX11 hown hK hP 0 rfl rfl 1 (by decide) (ht _ k_119) (fun _ h9 => h9) rfl dX11_putNumber_34 ?_
  refine lv_iconst (v := 1) hx hb dX11_putNumber_37 (by decide) ?_
  refine lv_iadd hx hb dX11_putNumber_38 ?_
  refine ow_top 1 (by decide +kernel) ?_
  refine va_put (ci := 11) (v := .int 1) (ty := .int) (C := RX11) (T := TX11) (N := 14) hx hb ht iX11 tyX11 tyX11_ok nmX11 hown hK hP hD hS 0 rfl rfl 1 (by decide) (ht _ k_119) (fun _ h9 => h9) rfl (by decide +kernel) rfl rfl (Nat.le_of_ble_eq_true rfl) dX11_putNumber_39 (fun H locs hP hD hS => ?_)
  have hP : va_P G vwCl [(x, .inr (11, [.ref tp, .int 1, v2, v3, v4, v5, v6, v7, v8, v9, v10, v11, v12, v13])), (tp, .inl (cy 1, 1700, .inl f_3))] H := hP
  have hD : va_D A [(x, .inr (11, [.ref tp, .int 1, v2, v3, v4, v5, v6, v7, v8, v9, v10, v11, v12, v13])), (tp, .inl (cy 1, 1700, .inl f_3))] := hD
  refine lv_iinc (v := 16) (lv' := [(2, .int 16), (0, .ref x), (1, .int n)]) hx hb dX11_putNumber_42 hl (k := 0) rfl (by decide) (by decide) rfl (fun ls hl => ?_)
  refine lv_goto (tgt := 3) hx hb dX11_putNumber_45 (by decide) ?_
  refine lv_iload_n hx hb dX11_putNumber_3 rfl (lv_at hl 0 rfl) ?_
  refine lv_if_lt (tgt := 48) hx hb dX11_putNumber_4 (by decide) (fun c9 => absurd c9 (by decide)) (fun _ => ?_)
  refine lv_aload_n hx hb dX11_putNumber_7 rfl (lv_at hl 1 rfl) ?_
  refine va_get (ci := 11) (v := .int 1) (C := RX11) (T := TX11) (N := 14) hx hb ht iX11 hown hK hP 0 rfl rfl 1 (by decide) (ht _ k_119) (fun _ h9 => h9) rfl dX11_putNumber_8 ?_
  refine lv_aload_n hx hb dX11_putNumber_11 rfl (lv_at hl 1 rfl) ?_
  refine va_get (ci := 11) (v := .ref tp) (C := RX11) (T := TX11) (N := 14) hx hb ht iX11 hown hK hP 0 rfl rfl 0 (by decide) (ht _ k_75) (fun _ h9 => h9) rfl dX11_putNumber_12 ?_
  refine va_alen (v := 1700) hx hb hK hP 1 1 rfl rfl rfl dX11_putNumber_15 ?_
  refine lv_icmp_ge (tgt := 42) hx hb dX11_putNumber_16 (by decide) (fun c9 => absurd c9 (by decide)) (fun _ => ?_)
  refine lv_aload_n hx hb dX11_putNumber_19 rfl (lv_at hl 1 rfl) ?_
  refine va_get (ci := 11) (v := .ref tp) (C := RX11) (T := TX11) (N := 14) hx hb ht iX11 hown hK hP 0 rfl rfl 0 (by decide) (ht _ k_75) (fun _ h9 => h9) rfl dX11_putNumber_20 ?_
  refine lv_aload_n hx hb dX11_putNumber_23 rfl (lv_at hl 1 rfl) ?_
  refine va_get (ci := 11) (v := .int 1) (C := RX11) (T := TX11) (N := 14) hx hb ht iX11 hown hK hP 0 rfl rfl 1 (by decide) (ht _ k_119) (fun _ h9 => h9) rfl dX11_putNumber_24 ?_
  refine lv_iload_n hx hb dX11_putNumber_27 rfl (lv_at hl 2 rfl) ?_
  refine lv_iload_n hx hb dX11_putNumber_28 rfl (lv_at hl 0 rfl) ?_
  refine lv_ishr hx hb dX11_putNumber_29 ?_
  refine lv_topi (fun v_4 ev_4 => ?_)
  refine lv_i2b hx hb dX11_putNumber_30 rfl ?_
  refine lv_topi (fun v_5 ev_5 => ?_)
  refine ow_bast hx hb hK hP hD hS 1 rfl (in_lit (by decide +kernel)) dX11_putNumber_31 (fun f_6 H locs hP hD hS => ?_)
  have hP : va_P G vwCl [(x, .inr (11, [.ref tp, .int 1, v2, v3, v4, v5, v6, v7, v8, v9, v10, v11, v12, v13])), (tp, .inl (cy 1, 1700, .inl f_6))] H := hP
  have hD : va_D A [(x, .inr (11, [.ref tp, .int 1, v2, v3, v4, v5, v6, v7, v8, v9, v10, v11, v12, v13])), (tp, .inl (cy 1, 1700, .inl f_6))] := hD
  refine lv_aload_n hx hb dX11_putNumber_32 rfl (lv_at hl 1 rfl) ?_
  refine lv_dup hx hb dX11_putNumber_33 rfl ?_
  refine va_get (ci := 11) (v := .int 1) (C := RX11) (T := TX11) (N := 14) hx hb ht iX11 hown hK hP 0 rfl rfl 1 (by decide) (ht _ k_119) (fun _ h9 => h9) rfl dX11_putNumber_34 ?_
  refine lv_iconst (v := 1) hx hb dX11_putNumber_37 (by decide) ?_
  refine lv_iadd hx hb dX11_putNumber_38 ?_
  refine ow_top 2 (by decide +kernel) ?_
  refine va_put (ci := 11) (v := .int 2) (ty := .int) (C := RX11) (T := TX11) (N := 14) hx hb ht iX11 tyX11 tyX11_ok nmX11 hown hK hP hD hS 0 rfl rfl 1 (by decide) (ht _ k_119) (fun _ h9 => h9) rfl (by decide +kernel) rfl rfl (Nat.le_of_ble_eq_true rfl) dX11_putNumber_39 (fun H locs hP hD hS => ?_)
  have hP : va_P G vwCl [(x, .inr (11, [.ref tp, .int 2, v2, v3, v4, v5, v6, v7, v8, v9, v10, v11, v12, v13])), (tp, .inl (cy 1, 1700, .inl f_6))] H := hP
  have hD : va_D A [(x, .inr (11, [.ref tp, .int 2, v2, v3, v4, v5, v6, v7, v8, v9, v10, v11, v12, v13])), (tp, .inl (cy 1, 1700, .inl f_6))] := hD
  refine lv_iinc (v := 8) (lv' := [(2, .int 8), (0, .ref x), (1, .int n)]) hx hb dX11_putNumber_42 hl (k := 0) rfl (by decide) (by decide) rfl (fun ls hl => ?_)
  refine lv_goto (tgt := 3) hx hb dX11_putNumber_45 (by decide) ?_
  refine lv_iload_n hx hb dX11_putNumber_3 rfl (lv_at hl 0 rfl) ?_
  refine lv_if_lt (tgt := 48) hx hb dX11_putNumber_4 (by decide) (fun c9 => absurd c9 (by decide)) (fun _ => ?_)
  refine lv_aload_n hx hb dX11_putNumber_7 rfl (lv_at hl 1 rfl) ?_
  refine va_get (ci := 11) (v := .int 2) (C := RX11) (T := TX11) (N := 14) hx hb ht iX11 hown hK hP 0 rfl rfl 1 (by decide) (ht _ k_119) (fun _ h9 => h9) rfl dX11_putNumber_8 ?_
  refine lv_aload_n hx hb dX11_putNumber_11 rfl (lv_at hl 1 rfl) ?_
  refine va_get (ci := 11) (v := .ref tp) (C := RX11) (T := TX11) (N := 14) hx hb ht iX11 hown hK hP 0 rfl rfl 0 (by decide) (ht _ k_75) (fun _ h9 => h9) rfl dX11_putNumber_12 ?_
  refine va_alen (v := 1700) hx hb hK hP 1 1 rfl rfl rfl dX11_putNumber_15 ?_
  refine lv_icmp_ge (tgt := 42) hx hb dX11_putNumber_16 (by decide) (fun c9 => absurd c9 (by decide)) (fun _ => ?_)
  refine lv_aload_n hx hb dX11_putNumber_19 rfl (lv_at hl 1 rfl) ?_
  refine va_get (ci := 11) (v := .ref tp) (C := RX11) (T := TX11) (N := 14) hx hb ht iX11 hown hK hP 0 rfl rfl 0 (by decide) (ht _ k_75) (fun _ h9 => h9) rfl dX11_putNumber_20 ?_
  refine lv_aload_n hx hb dX11_putNumber_23 rfl (lv_at hl 1 rfl) ?_
  refine va_get (ci := 11) (v := .int 2) (C := RX11) (T := TX11) (N := 14) hx hb ht iX11 hown hK hP 0 rfl rfl 1 (by decide) (ht _ k_119) (fun _ h9 => h9) rfl dX11_putNumber_24 ?_
  refine lv_iload_n hx hb dX11_putNumber_27 rfl (lv_at hl 2 rfl) ?_
  refine lv_iload_n hx hb dX11_putNumber_28 rfl (lv_at hl 0 rfl) ?_
  refine lv_ishr hx hb dX11_putNumber_29 ?_
  refine lv_topi (fun v_7 ev_7 => ?_)
  refine lv_i2b hx hb dX11_putNumber_30 rfl ?_
  refine lv_topi (fun v_8 ev_8 => ?_)
  refine ow_bast hx hb hK hP hD hS 1 rfl (in_lit (by decide +kernel)) dX11_putNumber_31 (fun f_9 H locs hP hD hS => ?_)
  have hP : va_P G vwCl [(x, .inr (11, [.ref tp, .int 2, v2, v3, v4, v5, v6, v7, v8, v9, v10, v11, v12, v13])), (tp, .inl (cy 1, 1700, .inl f_9))] H := hP
  have hD : va_D A [(x, .inr (11, [.ref tp, .int 2, v2, v3, v4, v5, v6, v7, v8, v9, v10, v11, v12, v13])), (tp, .inl (cy 1, 1700, .inl f_9))] := hD
  refine lv_aload_n hx hb dX11_putNumber_32 rfl (lv_at hl 1 rfl) ?_
  refine lv_dup hx hb dX11_putNumber_33 rfl ?_
  refine va_get (ci := 11) (v := .int 2) (C := RX11) (T := TX11) (N := 14) hx hb ht iX11 hown hK hP 0 rfl rfl 1 (by decide) (ht _ k_119) (fun _ h9 => h9) rfl dX11_putNumber_34 ?_
  refine lv_iconst (v := 1) hx hb dX11_putNumber_37 (by decide) ?_
  refine lv_iadd hx hb dX11_putNumber_38 ?_
  refine ow_top 3 (by decide +kernel) ?_
  refine va_put (ci := 11) (v := .int 3) (ty := .int) (C := RX11) (T := TX11) (N := 14) hx hb ht iX11 tyX11 tyX11_ok nmX11 hown hK hP hD hS 0 rfl rfl 1 (by decide) (ht _ k_119) (fun _ h9 => h9) rfl (by decide +kernel) rfl rfl (Nat.le_of_ble_eq_true rfl) dX11_putNumber_39 (fun H locs hP hD hS => ?_)
  have hP : va_P G vwCl [(x, .inr (11, [.ref tp, .int 3, v2, v3, v4, v5, v6, v7, v8, v9, v10, v11, v12, v13])), (tp, .inl (cy 1, 1700, .inl f_9))] H := hP
  have hD : va_D A [(x, .inr (11, [.ref tp, .int 3, v2, v3, v4, v5, v6, v7, v8, v9, v10, v11, v12, v13])), (tp, .inl (cy 1, 1700, .inl f_9))] := hD
  refine lv_iinc (v := 0) (lv' := [(2, .int 0), (0, .ref x), (1, .int n)]) hx hb dX11_putNumber_42 hl (k := 0) rfl (by decide) (by decide) rfl (fun ls hl => ?_)
  refine lv_goto (tgt := 3) hx hb dX11_putNumber_45 (by decide) ?_
  refine lv_iload_n hx hb dX11_putNumber_3 rfl (lv_at hl 0 rfl) ?_
  refine lv_if_lt (tgt := 48) hx hb dX11_putNumber_4 (by decide) (fun c9 => absurd c9 (by decide)) (fun _ => ?_)
  refine lv_aload_n hx hb dX11_putNumber_7 rfl (lv_at hl 1 rfl) ?_
  refine va_get (ci := 11) (v := .int 3) (C := RX11) (T := TX11) (N := 14) hx hb ht iX11 hown hK hP 0 rfl rfl 1 (by decide) (ht _ k_119) (fun _ h9 => h9) rfl dX11_putNumber_8 ?_
  refine lv_aload_n hx hb dX11_putNumber_11 rfl (lv_at hl 1 rfl) ?_
  refine va_get (ci := 11) (v := .ref tp) (C := RX11) (T := TX11) (N := 14) hx hb ht iX11 hown hK hP 0 rfl rfl 0 (by decide) (ht _ k_75) (fun _ h9 => h9) rfl dX11_putNumber_12 ?_
  refine va_alen (v := 1700) hx hb hK hP 1 1 rfl rfl rfl dX11_putNumber_15 ?_
  refine lv_icmp_ge (tgt := 42) hx hb dX11_putNumber_16 (by decide) (fun c9 => absurd c9 (by decide)) (fun _ => ?_)
  refine lv_aload_n hx hb dX11_putNumber_19 rfl (lv_at hl 1 rfl) ?_
  refine va_get (ci := 11) (v := .ref tp) (C := RX11) (T := TX11) (N := 14) hx hb ht iX11 hown hK hP 0 rfl rfl 0 (by decide) (ht _ k_75) (fun _ h9 => h9) rfl dX11_putNumber_20 ?_
  refine lv_aload_n hx hb dX11_putNumber_23 rfl (lv_at hl 1 rfl) ?_
  refine va_get (ci := 11) (v := .int 3) (C := RX11) (T := TX11) (N := 14) hx hb ht iX11 hown hK hP 0 rfl rfl 1 (by decide) (ht _ k_119) (fun _ h9 => h9) rfl dX11_putNumber_24 ?_
  refine lv_iload_n hx hb dX11_putNumber_27 rfl (lv_at hl 2 rfl) ?_
  refine lv_iload_n hx hb dX11_putNumber_28 rfl (lv_at hl 0 rfl) ?_
  refine lv_ishr hx hb dX11_putNumber_29 ?_
  refine lv_topi (fun v_10 ev_10 => ?_)
  refine lv_i2b hx hb dX11_putNumber_30 rfl ?_
  refine lv_topi (fun v_11 ev_11 => ?_)
  refine ow_bast hx hb hK hP hD hS 1 rfl (in_lit (by decide +kernel)) dX11_putNumber_31 (fun f_12 H locs hP hD hS => ?_)
  have hP : va_P G vwCl [(x, .inr (11, [.ref tp, .int 3, v2, v3, v4, v5, v6, v7, v8, v9, v10, v11, v12, v13])), (tp, .inl (cy 1, 1700, .inl f_12))] H := hP
  have hD : va_D A [(x, .inr (11, [.ref tp, .int 3, v2, v3, v4, v5, v6, v7, v8, v9, v10, v11, v12, v13])), (tp, .inl (cy 1, 1700, .inl f_12))] := hD
  refine lv_aload_n hx hb dX11_putNumber_32 rfl (lv_at hl 1 rfl) ?_
  refine lv_dup hx hb dX11_putNumber_33 rfl ?_
  refine va_get (ci := 11) (v := .int 3) (C := RX11) (T := TX11) (N := 14) hx hb ht iX11 hown hK hP 0 rfl rfl 1 (by decide) (ht _ k_119) (fun _ h9 => h9) rfl dX11_putNumber_34 ?_
  refine lv_iconst (v := 1) hx hb dX11_putNumber_37 (by decide) ?_
  refine lv_iadd hx hb dX11_putNumber_38 ?_
  refine ow_top 4 (by decide +kernel) ?_
  refine va_put (ci := 11) (v := .int 4) (ty := .int) (C := RX11) (T := TX11) (N := 14) hx hb ht iX11 tyX11 tyX11_ok nmX11 hown hK hP hD hS 0 rfl rfl 1 (by decide) (ht _ k_119) (fun _ h9 => h9) rfl (by decide +kernel) rfl rfl (Nat.le_of_ble_eq_true rfl) dX11_putNumber_39 (fun H locs hP hD hS => ?_)
  have hP : va_P G vwCl [(x, .inr (11, [.ref tp, .int 4, v2, v3, v4, v5, v6, v7, v8, v9, v10, v11, v12, v13])), (tp, .inl (cy 1, 1700, .inl f_12))] H := hP
  have hD : va_D A [(x, .inr (11, [.ref tp, .int 4, v2, v3, v4, v5, v6, v7, v8, v9, v10, v11, v12, v13])), (tp, .inl (cy 1, 1700, .inl f_12))] := hD
  refine lv_iinc (v := (-8)) (lv' := [(2, .int (-8)), (0, .ref x), (1, .int n)]) hx hb dX11_putNumber_42 hl (k := 0) rfl (by decide) (by decide) rfl (fun ls hl => ?_)
  refine lv_goto (tgt := 3) hx hb dX11_putNumber_45 (by decide) ?_
  refine lv_iload_n hx hb dX11_putNumber_3 rfl (lv_at hl 0 rfl) ?_
  refine lv_if_lt (tgt := 48) hx hb dX11_putNumber_4 (by decide) (fun _ => ?_) (fun c9 => absurd (by decide) c9)
  refine W.widen (k := 0) (n := 0) (Nat.le_of_ble_eq_true rfl) (Nat.le_of_ble_eq_true rfl) ?_
  have hP9 : va_P G vwCl [(x, .inr (11, [.ref tp, .int 4, v2, v3, v4, v5, v6, v7, v8, v9, v10, v11, v12, v13])), (tp, .inl (cy 1, 1700, .inl ((lsf [f_12]) 0)))] _ := hP.sub [0, 1] rfl
  have hD9 : va_D A [(x, .inr (11, [.ref tp, .int 4, v2, v3, v4, v5, v6, v7, v8, v9, v10, v11, v12, v13])), (tp, .inl (cy 1, 1700, .inl ((lsf [f_12]) 0)))] := hD.sub [0, 1] (by decide) rfl
  exact W.vret hx hb hr (fun t ht9 hW => ⟨⟨(lsf [f_12]), rfl, trivial, ⟨by rw [ht9]; exact hP9, hD9⟩⟩, hS.F ht9⟩) hS.2.2 dX11_putNumber_48
set_option maxHeartbeats 4000000 in
set_option maxRecDepth 100000 in
theorem c_put4 (l : Launch) (G : va_G) (cy : Nat → ClassId) (sz : Nat) (x : Nat) (n : Int32) (tp : Nat) (f : Nat → Int32) (v2 : Value) (v3 : Value) (v4 : Value) (v5 : Value) (v6 : Value) (v7 : Value) (v8 : Value) (v9 : Value) (v10 : Value) (v11 : Value) (v12 : Value) (v13 : Value)  : Met l yX11_putNumber (.code yX11_putNumber cX11_putNumber 3 none :: TBg) ({ frames := 1, cells := 0, slots := 0, locals := 64 }) (va_Pc [.ref x, .int n] (En G cy [(x, .inr (11, [.ref tp, .int 4, v2, v3, v4, v5, v6, v7, v8, v9, v10, v11, v12, v13])), (tp, .inl (cy 1, 1700, .inl f))] sz)) (va_Qv (fun u : Nat → Nat → Int32 => True) (fun u t => Ex G (va_A [(x, .inr (11, [.ref tp, .int 4, v2, v3, v4, v5, v6, v7, v8, v9, v10, v11, v12, v13])), (tp, .inl (cy 1, 1700, .inl f))] sz) [(x, .inr (11, [.ref tp, .int 8, v2, v3, v4, v5, v6, v7, v8, v9, v10, v11, v12, v13])), (tp, .inl (cy 1, 1700, .inl (u 0)))] t) (va_A [(x, .inr (11, [.ref tp, .int 4, v2, v3, v4, v5, v6, v7, v8, v9, v10, v11, v12, v13])), (tp, .inl (cy 1, 1700, .inl f))] sz)) 0 0 (va_A [(x, .inr (11, [.ref tp, .int 4, v2, v3, v4, v5, v6, v7, v8, v9, v10, v11, v12, v13])), (tp, .inl (cy 1, 1700, .inl f))] sz) := by
  refine Met.ofW (cc := cX11_putNumber) (maxL := 3) (ret := none) (by decide) rfl ?_
  intro p e s m args below meth c s₁ B hml hv
  obtain ⟨rfl, hsz, hP, hK, hD0, hN⟩ := hv
  have hx := B.exec
  have hb := B.bytes
  have hr := B.returns
  have hts := atoms_spec (ws := .code yX11_putNumber cX11_putNumber 3 none :: TBg) B.pre
  have ht : ∀ w ∈ TBg, w.before _ s = true := fun w h => hts w (List.mem_cons_of_mem _ h)
  have hown : s.vm.findClass RX11 = some m.cls := findClass_of_methodNamed B.named
  have hlocks := B.notSynchronized
  subst hsz
  have hD := hD0.self (sz := s.heap.size)
  generalize hAe : va_A [(x, .inr (11, [.ref tp, .int 4, v2, v3, v4, v5, v6, v7, v8, v9, v10, v11, v12, v13])), (tp, .inl (cy 1, 1700, .inl f))] s.heap.size = A at hD ⊢
  have hA : ∀ q : Nat, s.heap.size ≤ q → A q := fun q h => by rw [← hAe]; exact Or.inr h
  have hS : va_S A s.heap s.heap [] := va_S.rf
  have hl := lv_entry ([.ref x, .int n]) (n := 3) (Nat.le_of_ble_eq_true rfl)
  rw [lg_entry_eq]
  generalize (lg_sl ([.ref x, .int n]) ++ List.replicate (3 - (lg_sl ([.ref x, .int n])).length) Slot.unset).toArray = ls at hl ⊢
  have hl : lv_has ls 3 [(0, .ref x), (1, .int n)] := hl
  refine lv_bipush (v := 24) hx hb dX11_putNumber_0 (by decide) ?_
  refine lv_istore_n (lv' := [(2, .int 24), (0, .ref x), (1, .int n)]) hx hb dX11_putNumber_2 rfl hl (by decide) rfl (fun ls hl => ?_)
  refine lv_iload_n hx hb dX11_putNumber_3 rfl (lv_at hl 0 rfl) ?_
  refine lv_if_lt (tgt := 48) hx hb dX11_putNumber_4 (by decide) (fun c9 => absurd c9 (by decide)) (fun _ => ?_)
  refine lv_aload_n hx hb dX11_putNumber_7 rfl (lv_at hl 1 rfl) ?_
  refine va_get (ci := 11) (v := .int 4) (C := RX11) (T := TX11) (N := 14) hx hb ht iX11 hown hK hP 0 rfl rfl 1 (by decide) (ht _ k_119) (fun _ h9 => h9) rfl dX11_putNumber_8 ?_
  refine lv_aload_n hx hb dX11_putNumber_11 rfl (lv_at hl 1 rfl) ?_
  refine va_get (ci := 11) (v := .ref tp) (C := RX11) (T := TX11) (N := 14) hx hb ht iX11 hown hK hP 0 rfl rfl 0 (by decide) (ht _ k_75) (fun _ h9 => h9) rfl dX11_putNumber_12 ?_
  refine va_alen (v := 1700) hx hb hK hP 1 1 rfl rfl rfl dX11_putNumber_15 ?_
  refine lv_icmp_ge (tgt := 42) hx hb dX11_putNumber_16 (by decide) (fun c9 => absurd c9 (by decide)) (fun _ => ?_)
  refine lv_aload_n hx hb dX11_putNumber_19 rfl (lv_at hl 1 rfl) ?_
  refine va_get (ci := 11) (v := .ref tp) (C := RX11) (T := TX11) (N := 14) hx hb ht iX11 hown hK hP 0 rfl rfl 0 (by decide) (ht _ k_75) (fun _ h9 => h9) rfl dX11_putNumber_20 ?_
  refine lv_aload_n hx hb dX11_putNumber_23 rfl (lv_at hl 1 rfl) ?_
  refine va_get (ci := 11) (v := .int 4) (C := RX11) (T := TX11) (N := 14) hx hb ht iX11 hown hK hP 0 rfl rfl 1 (by decide) (ht _ k_119) (fun _ h9 => h9) rfl dX11_putNumber_24 ?_
  refine lv_iload_n hx hb dX11_putNumber_27 rfl (lv_at hl 2 rfl) ?_
  refine lv_iload_n hx hb dX11_putNumber_28 rfl (lv_at hl 0 rfl) ?_
  refine lv_ishr hx hb dX11_putNumber_29 ?_
  refine lv_topi (fun v_1 ev_1 => ?_)
  refine lv_i2b hx hb dX11_putNumber_30 rfl ?_
  refine lv_topi (fun v_2 ev_2 => ?_)
  refine ow_bast hx hb hK hP hD hS 1 rfl (in_lit (by decide +kernel)) dX11_putNumber_31 (fun f_3 H locs hP hD hS => ?_)
  have hP : va_P G vwCl [(x, .inr (11, [.ref tp, .int 4, v2, v3, v4, v5, v6, v7, v8, v9, v10, v11, v12, v13])), (tp, .inl (cy 1, 1700, .inl f_3))] H := hP
  have hD : va_D A [(x, .inr (11, [.ref tp, .int 4, v2, v3, v4, v5, v6, v7, v8, v9, v10, v11, v12, v13])), (tp, .inl (cy 1, 1700, .inl f_3))] := hD
  refine lv_aload_n hx hb dX11_putNumber_32 rfl (lv_at hl 1 rfl) ?_
  refine lv_dup hx hb dX11_putNumber_33 rfl ?_
  refine va_get (ci := 11) (v := .int 4) (C := RX11) (T := TX11) (N := 14) hx hb ht iX11 hown hK hP 0 rfl rfl 1 (by decide) (ht _ k_119) (fun _ h9 => h9) rfl dX11_putNumber_34 ?_
  refine lv_iconst (v := 1) hx hb dX11_putNumber_37 (by decide) ?_
  refine lv_iadd hx hb dX11_putNumber_38 ?_
  refine ow_top 5 (by decide +kernel) ?_
  refine va_put (ci := 11) (v := .int 5) (ty := .int) (C := RX11) (T := TX11) (N := 14) hx hb ht iX11 tyX11 tyX11_ok nmX11 hown hK hP hD hS 0 rfl rfl 1 (by decide) (ht _ k_119) (fun _ h9 => h9) rfl (by decide +kernel) rfl rfl (Nat.le_of_ble_eq_true rfl) dX11_putNumber_39 (fun H locs hP hD hS => ?_)
  have hP : va_P G vwCl [(x, .inr (11, [.ref tp, .int 5, v2, v3, v4, v5, v6, v7, v8, v9, v10, v11, v12, v13])), (tp, .inl (cy 1, 1700, .inl f_3))] H := hP
  have hD : va_D A [(x, .inr (11, [.ref tp, .int 5, v2, v3, v4, v5, v6, v7, v8, v9, v10, v11, v12, v13])), (tp, .inl (cy 1, 1700, .inl f_3))] := hD
  refine lv_iinc (v := 16) (lv' := [(2, .int 16), (0, .ref x), (1, .int n)]) hx hb dX11_putNumber_42 hl (k := 0) rfl (by decide) (by decide) rfl (fun ls hl => ?_)
  refine lv_goto (tgt := 3) hx hb dX11_putNumber_45 (by decide) ?_
  refine lv_iload_n hx hb dX11_putNumber_3 rfl (lv_at hl 0 rfl) ?_
  refine lv_if_lt (tgt := 48) hx hb dX11_putNumber_4 (by decide) (fun c9 => absurd c9 (by decide)) (fun _ => ?_)
  refine lv_aload_n hx hb dX11_putNumber_7 rfl (lv_at hl 1 rfl) ?_
  refine va_get (ci := 11) (v := .int 5) (C := RX11) (T := TX11) (N := 14) hx hb ht iX11 hown hK hP 0 rfl rfl 1 (by decide) (ht _ k_119) (fun _ h9 => h9) rfl dX11_putNumber_8 ?_
  refine lv_aload_n hx hb dX11_putNumber_11 rfl (lv_at hl 1 rfl) ?_
  refine va_get (ci := 11) (v := .ref tp) (C := RX11) (T := TX11) (N := 14) hx hb ht iX11 hown hK hP 0 rfl rfl 0 (by decide) (ht _ k_75) (fun _ h9 => h9) rfl dX11_putNumber_12 ?_
  refine va_alen (v := 1700) hx hb hK hP 1 1 rfl rfl rfl dX11_putNumber_15 ?_
  refine lv_icmp_ge (tgt := 42) hx hb dX11_putNumber_16 (by decide) (fun c9 => absurd c9 (by decide)) (fun _ => ?_)
  refine lv_aload_n hx hb dX11_putNumber_19 rfl (lv_at hl 1 rfl) ?_
  refine va_get (ci := 11) (v := .ref tp) (C := RX11) (T := TX11) (N := 14) hx hb ht iX11 hown hK hP 0 rfl rfl 0 (by decide) (ht _ k_75) (fun _ h9 => h9) rfl dX11_putNumber_20 ?_
  refine lv_aload_n hx hb dX11_putNumber_23 rfl (lv_at hl 1 rfl) ?_
  refine va_get (ci := 11) (v := .int 5) (C := RX11) (T := TX11) (N := 14) hx hb ht iX11 hown hK hP 0 rfl rfl 1 (by decide) (ht _ k_119) (fun _ h9 => h9) rfl dX11_putNumber_24 ?_
  refine lv_iload_n hx hb dX11_putNumber_27 rfl (lv_at hl 2 rfl) ?_
  refine lv_iload_n hx hb dX11_putNumber_28 rfl (lv_at hl 0 rfl) ?_
  refine lv_ishr hx hb dX11_putNumber_29 ?_
  refine lv_topi (fun v_4 ev_4 => ?_)
  refine lv_i2b hx hb dX11_putNumber_30 rfl ?_
  refine lv_topi (fun v_5 ev_5 => ?_)
  refine ow_bast hx hb hK hP hD hS 1 rfl (in_lit (by decide +kernel)) dX11_putNumber_31 (fun f_6 H locs hP hD hS => ?_)
  have hP : va_P G vwCl [(x, .inr (11, [.ref tp, .int 5, v2, v3, v4, v5, v6, v7, v8, v9, v10, v11, v12, v13])), (tp, .inl (cy 1, 1700, .inl f_6))] H := hP
  have hD : va_D A [(x, .inr (11, [.ref tp, .int 5, v2, v3, v4, v5, v6, v7, v8, v9, v10, v11, v12, v13])), (tp, .inl (cy 1, 1700, .inl f_6))] := hD
  refine lv_aload_n hx hb dX11_putNumber_32 rfl (lv_at hl 1 rfl) ?_
  refine lv_dup hx hb dX11_putNumber_33 rfl ?_
  refine va_get (ci := 11) (v := .int 5) (C := RX11) (T := TX11) (N := 14) hx hb ht iX11 hown hK hP 0 rfl rfl 1 (by decide) (ht _ k_119) (fun _ h9 => h9) rfl dX11_putNumber_34 ?_
  refine lv_iconst (v := 1) hx hb dX11_putNumber_37 (by decide) ?_
  refine lv_iadd hx hb dX11_putNumber_38 ?_
  refine ow_top 6 (by decide +kernel) ?_
  refine va_put (ci := 11) (v := .int 6) (ty := .int) (C := RX11) (T := TX11) (N := 14) hx hb ht iX11 tyX11 tyX11_ok nmX11 hown hK hP hD hS 0 rfl rfl 1 (by decide) (ht _ k_119) (fun _ h9 => h9) rfl (by decide +kernel) rfl rfl (Nat.le_of_ble_eq_true rfl) dX11_putNumber_39 (fun H locs hP hD hS => ?_)
  have hP : va_P G vwCl [(x, .inr (11, [.ref tp, .int 6, v2, v3, v4, v5, v6, v7, v8, v9, v10, v11, v12, v13])), (tp, .inl (cy 1, 1700, .inl f_6))] H := hP
  have hD : va_D A [(x, .inr (11, [.ref tp, .int 6, v2, v3, v4, v5, v6, v7, v8, v9, v10, v11, v12, v13])), (tp, .inl (cy 1, 1700, .inl f_6))] := hD
  refine lv_iinc (v := 8) (lv' := [(2, .int 8), (0, .ref x), (1, .int n)]) hx hb dX11_putNumber_42 hl (k := 0) rfl (by decide) (by decide) rfl (fun ls hl => ?_)
  refine lv_goto (tgt := 3) hx hb dX11_putNumber_45 (by decide) ?_
  refine lv_iload_n hx hb dX11_putNumber_3 rfl (lv_at hl 0 rfl) ?_
  refine lv_if_lt (tgt := 48) hx hb dX11_putNumber_4 (by decide) (fun c9 => absurd c9 (by decide)) (fun _ => ?_)
  refine lv_aload_n hx hb dX11_putNumber_7 rfl (lv_at hl 1 rfl) ?_
  refine va_get (ci := 11) (v := .int 6) (C := RX11) (T := TX11) (N := 14) hx hb ht iX11 hown hK hP 0 rfl rfl 1 (by decide) (ht _ k_119) (fun _ h9 => h9) rfl dX11_putNumber_8 ?_
  refine lv_aload_n hx hb dX11_putNumber_11 rfl (lv_at hl 1 rfl) ?_
  refine va_get (ci := 11) (v := .ref tp) (C := RX11) (T := TX11) (N := 14) hx hb ht iX11 hown hK hP 0 rfl rfl 0 (by decide) (ht _ k_75) (fun _ h9 => h9) rfl dX11_putNumber_12 ?_
  refine va_alen (v := 1700) hx hb hK hP 1 1 rfl rfl rfl dX11_putNumber_15 ?_
  refine lv_icmp_ge (tgt := 42) hx hb dX11_putNumber_16 (by decide) (fun c9 => absurd c9 (by decide)) (fun _ => ?_)
  refine lv_aload_n hx hb dX11_putNumber_19 rfl (lv_at hl 1 rfl) ?_
  refine va_get (ci := 11) (v := .ref tp) (C := RX11) (T := TX11) (N := 14) hx hb ht iX11 hown hK hP 0 rfl rfl 0 (by decide) (ht _ k_75) (fun _ h9 => h9) rfl dX11_putNumber_20 ?_
  refine lv_aload_n hx hb dX11_putNumber_23 rfl (lv_at hl 1 rfl) ?_
  refine va_get (ci := 11) (v := .int 6) (C := RX11) (T := TX11) (N := 14) hx hb ht iX11 hown hK hP 0 rfl rfl 1 (by decide) (ht _ k_119) (fun _ h9 => h9) rfl dX11_putNumber_24 ?_
  refine lv_iload_n hx hb dX11_putNumber_27 rfl (lv_at hl 2 rfl) ?_
  refine lv_iload_n hx hb dX11_putNumber_28 rfl (lv_at hl 0 rfl) ?_
  refine lv_ishr hx hb dX11_putNumber_29 ?_
  refine lv_topi (fun v_7 ev_7 => ?_)
  refine lv_i2b hx hb dX11_putNumber_30 rfl ?_
  refine lv_topi (fun v_8 ev_8 => ?_)
  refine ow_bast hx hb hK hP hD hS 1 rfl (in_lit (by decide +kernel)) dX11_putNumber_31 (fun f_9 H locs hP hD hS => ?_)
  have hP : va_P G vwCl [(x, .inr (11, [.ref tp, .int 6, v2, v3, v4, v5, v6, v7, v8, v9, v10, v11, v12, v13])), (tp, .inl (cy 1, 1700, .inl f_9))] H := hP
  have hD : va_D A [(x, .inr (11, [.ref tp, .int 6, v2, v3, v4, v5, v6, v7, v8, v9, v10, v11, v12, v13])), (tp, .inl (cy 1, 1700, .inl f_9))] := hD
  refine lv_aload_n hx hb dX11_putNumber_32 rfl (lv_at hl 1 rfl) ?_
  refine lv_dup hx hb dX11_putNumber_33 rfl ?_
  refine va_get (ci := 11) (v := .int 6) (C := RX11) (T := TX11) (N := 14) hx hb ht iX11 hown hK hP 0 rfl rfl 1 (by decide) (ht _ k_119) (fun _ h9 => h9) rfl dX11_putNumber_34 ?_
  refine lv_iconst (v := 1) hx hb dX11_putNumber_37 (by decide) ?_
  refine lv_iadd hx hb dX11_putNumber_38 ?_
  refine ow_top 7 (by decide +kernel) ?_
  refine va_put (ci := 11) (v := .int 7) (ty := .int) (C := RX11) (T := TX11) (N := 14) hx hb ht iX11 tyX11 tyX11_ok nmX11 hown hK hP hD hS 0 rfl rfl 1 (by decide) (ht _ k_119) (fun _ h9 => h9) rfl (by decide +kernel) rfl rfl (Nat.le_of_ble_eq_true rfl) dX11_putNumber_39 (fun H locs hP hD hS => ?_)
  have hP : va_P G vwCl [(x, .inr (11, [.ref tp, .int 7, v2, v3, v4, v5, v6, v7, v8, v9, v10, v11, v12, v13])), (tp, .inl (cy 1, 1700, .inl f_9))] H := hP
  have hD : va_D A [(x, .inr (11, [.ref tp, .int 7, v2, v3, v4, v5, v6, v7, v8, v9, v10, v11, v12, v13])), (tp, .inl (cy 1, 1700, .inl f_9))] := hD
  refine lv_iinc (v := 0) (lv' := [(2, .int 0), (0, .ref x), (1, .int n)]) hx hb dX11_putNumber_42 hl (k := 0) rfl (by decide) (by decide) rfl (fun ls hl => ?_)
  refine lv_goto (tgt := 3) hx hb dX11_putNumber_45 (by decide) ?_
  refine lv_iload_n hx hb dX11_putNumber_3 rfl (lv_at hl 0 rfl) ?_
  refine lv_if_lt (tgt := 48) hx hb dX11_putNumber_4 (by decide) (fun c9 => absurd c9 (by decide)) (fun _ => ?_)
  refine lv_aload_n hx hb dX11_putNumber_7 rfl (lv_at hl 1 rfl) ?_
  refine va_get (ci := 11) (v := .int 7) (C := RX11) (T := TX11) (N := 14) hx hb ht iX11 hown hK hP 0 rfl rfl 1 (by decide) (ht _ k_119) (fun _ h9 => h9) rfl dX11_putNumber_8 ?_
  refine lv_aload_n hx hb dX11_putNumber_11 rfl (lv_at hl 1 rfl) ?_
  refine va_get (ci := 11) (v := .ref tp) (C := RX11) (T := TX11) (N := 14) hx hb ht iX11 hown hK hP 0 rfl rfl 0 (by decide) (ht _ k_75) (fun _ h9 => h9) rfl dX11_putNumber_12 ?_
  refine va_alen (v := 1700) hx hb hK hP 1 1 rfl rfl rfl dX11_putNumber_15 ?_
  refine lv_icmp_ge (tgt := 42) hx hb dX11_putNumber_16 (by decide) (fun c9 => absurd c9 (by decide)) (fun _ => ?_)
  refine lv_aload_n hx hb dX11_putNumber_19 rfl (lv_at hl 1 rfl) ?_
  refine va_get (ci := 11) (v := .ref tp) (C := RX11) (T := TX11) (N := 14) hx hb ht iX11 hown hK hP 0 rfl rfl 0 (by decide) (ht _ k_75) (fun _ h9 => h9) rfl dX11_putNumber_20 ?_
  refine lv_aload_n hx hb dX11_putNumber_23 rfl (lv_at hl 1 rfl) ?_
  refine va_get (ci := 11) (v := .int 7) (C := RX11) (T := TX11) (N := 14) hx hb ht iX11 hown hK hP 0 rfl rfl 1 (by decide) (ht _ k_119) (fun _ h9 => h9) rfl dX11_putNumber_24 ?_
  refine lv_iload_n hx hb dX11_putNumber_27 rfl (lv_at hl 2 rfl) ?_
  refine lv_iload_n hx hb dX11_putNumber_28 rfl (lv_at hl 0 rfl) ?_
  refine lv_ishr hx hb dX11_putNumber_29 ?_
  refine lv_topi (fun v_10 ev_10 => ?_)
  refine lv_i2b hx hb dX11_putNumber_30 rfl ?_
  refine lv_topi (fun v_11 ev_11 => ?_)
  refine ow_bast hx hb hK hP hD hS 1 rfl (in_lit (by decide +kernel)) dX11_putNumber_31 (fun f_12 H locs hP hD hS => ?_)
  have hP : va_P G vwCl [(x, .inr (11, [.ref tp, .int 7, v2, v3, v4, v5, v6, v7, v8, v9, v10, v11, v12, v13])), (tp, .inl (cy 1, 1700, .inl f_12))] H := hP
  have hD : va_D A [(x, .inr (11, [.ref tp, .int 7, v2, v3, v4, v5, v6, v7, v8, v9, v10, v11, v12, v13])), (tp, .inl (cy 1, 1700, .inl f_12))] := hD
  refine lv_aload_n hx hb dX11_putNumber_32 rfl (lv_at hl 1 rfl) ?_
  refine lv_dup hx hb dX11_putNumber_33 rfl ?_
  refine va_get (ci := 11) (v := .int 7) (C := RX11) (T := TX11) (N := 14) hx hb ht iX11 hown hK hP 0 rfl rfl 1 (by decide) (ht _ k_119) (fun _ h9 => h9) rfl dX11_putNumber_34 ?_
  refine lv_iconst (v := 1) hx hb dX11_putNumber_37 (by decide) ?_
  refine lv_iadd hx hb dX11_putNumber_38 ?_
  refine ow_top 8 (by decide +kernel) ?_
  refine va_put (ci := 11) (v := .int 8) (ty := .int) (C := RX11) (T := TX11) (N := 14) hx hb ht iX11 tyX11 tyX11_ok nmX11 hown hK hP hD hS 0 rfl rfl 1 (by decide) (ht _ k_119) (fun _ h9 => h9) rfl (by decide +kernel) rfl rfl (Nat.le_of_ble_eq_true rfl) dX11_putNumber_39 (fun H locs hP hD hS => ?_)
  have hP : va_P G vwCl [(x, .inr (11, [.ref tp, .int 8, v2, v3, v4, v5, v6, v7, v8, v9, v10, v11, v12, v13])), (tp, .inl (cy 1, 1700, .inl f_12))] H := hP
  have hD : va_D A [(x, .inr (11, [.ref tp, .int 8, v2, v3, v4, v5, v6, v7, v8, v9, v10, v11, v12, v13])), (tp, .inl (cy 1, 1700, .inl f_12))] := hD
  refine lv_iinc (v := (-8)) (lv' := [(2, .int (-8)), (0, .ref x), (1, .int n)]) hx hb dX11_putNumber_42 hl (k := 0) rfl (by decide) (by decide) rfl (fun ls hl => ?_)
  refine lv_goto (tgt := 3) hx hb dX11_putNumber_45 (by decide) ?_
  refine lv_iload_n hx hb dX11_putNumber_3 rfl (lv_at hl 0 rfl) ?_
  refine lv_if_lt (tgt := 48) hx hb dX11_putNumber_4 (by decide) (fun _ => ?_) (fun c9 => absurd (by decide) c9)
  refine W.widen (k := 0) (n := 0) (Nat.le_of_ble_eq_true rfl) (Nat.le_of_ble_eq_true rfl) ?_
  have hP9 : va_P G vwCl [(x, .inr (11, [.ref tp, .int 8, v2, v3, v4, v5, v6, v7, v8, v9, v10, v11, v12, v13])), (tp, .inl (cy 1, 1700, .inl ((lsf [f_12]) 0)))] _ := hP.sub [0, 1] rfl
  have hD9 : va_D A [(x, .inr (11, [.ref tp, .int 8, v2, v3, v4, v5, v6, v7, v8, v9, v10, v11, v12, v13])), (tp, .inl (cy 1, 1700, .inl ((lsf [f_12]) 0)))] := hD.sub [0, 1] (by decide) rfl
  exact W.vret hx hb hr (fun t ht9 hW => ⟨⟨(lsf [f_12]), rfl, trivial, ⟨by rw [ht9]; exact hP9, hD9⟩⟩, hS.F ht9⟩) hS.2.2 dX11_putNumber_48
set_option maxHeartbeats 4000000 in
set_option maxRecDepth 100000 in
theorem c_put8 (l : Launch) (G : va_G) (cy : Nat → ClassId) (sz : Nat) (x : Nat) (n : Int32) (tp : Nat) (f : Nat → Int32) (v2 : Value) (v3 : Value) (v4 : Value) (v5 : Value) (v6 : Value) (v7 : Value) (v8 : Value) (v9 : Value) (v10 : Value) (v11 : Value) (v12 : Value) (v13 : Value)  : Met l yX11_putNumber (.code yX11_putNumber cX11_putNumber 3 none :: TBg) ({ frames := 1, cells := 0, slots := 0, locals := 64 }) (va_Pc [.ref x, .int n] (En G cy [(x, .inr (11, [.ref tp, .int 8, v2, v3, v4, v5, v6, v7, v8, v9, v10, v11, v12, v13])), (tp, .inl (cy 1, 1700, .inl f))] sz)) (va_Qv (fun u : Nat → Nat → Int32 => True) (fun u t => Ex G (va_A [(x, .inr (11, [.ref tp, .int 8, v2, v3, v4, v5, v6, v7, v8, v9, v10, v11, v12, v13])), (tp, .inl (cy 1, 1700, .inl f))] sz) [(x, .inr (11, [.ref tp, .int 12, v2, v3, v4, v5, v6, v7, v8, v9, v10, v11, v12, v13])), (tp, .inl (cy 1, 1700, .inl (u 0)))] t) (va_A [(x, .inr (11, [.ref tp, .int 8, v2, v3, v4, v5, v6, v7, v8, v9, v10, v11, v12, v13])), (tp, .inl (cy 1, 1700, .inl f))] sz)) 0 0 (va_A [(x, .inr (11, [.ref tp, .int 8, v2, v3, v4, v5, v6, v7, v8, v9, v10, v11, v12, v13])), (tp, .inl (cy 1, 1700, .inl f))] sz) := by
  refine Met.ofW (cc := cX11_putNumber) (maxL := 3) (ret := none) (by decide) rfl ?_
  intro p e s m args below meth c s₁ B hml hv
  obtain ⟨rfl, hsz, hP, hK, hD0, hN⟩ := hv
  have hx := B.exec
  have hb := B.bytes
  have hr := B.returns
  have hts := atoms_spec (ws := .code yX11_putNumber cX11_putNumber 3 none :: TBg) B.pre
  have ht : ∀ w ∈ TBg, w.before _ s = true := fun w h => hts w (List.mem_cons_of_mem _ h)
  have hown : s.vm.findClass RX11 = some m.cls := findClass_of_methodNamed B.named
  have hlocks := B.notSynchronized
  subst hsz
  have hD := hD0.self (sz := s.heap.size)
  generalize hAe : va_A [(x, .inr (11, [.ref tp, .int 8, v2, v3, v4, v5, v6, v7, v8, v9, v10, v11, v12, v13])), (tp, .inl (cy 1, 1700, .inl f))] s.heap.size = A at hD ⊢
  have hA : ∀ q : Nat, s.heap.size ≤ q → A q := fun q h => by rw [← hAe]; exact Or.inr h
  have hS : va_S A s.heap s.heap [] := va_S.rf
  have hl := lv_entry ([.ref x, .int n]) (n := 3) (Nat.le_of_ble_eq_true rfl)
  rw [lg_entry_eq]
  generalize (lg_sl ([.ref x, .int n]) ++ List.replicate (3 - (lg_sl ([.ref x, .int n])).length) Slot.unset).toArray = ls at hl ⊢
  have hl : lv_has ls 3 [(0, .ref x), (1, .int n)] := hl
  refine lv_bipush (v := 24) hx hb dX11_putNumber_0 (by decide) ?_
  refine lv_istore_n (lv' := [(2, .int 24), (0, .ref x), (1, .int n)]) hx hb dX11_putNumber_2 rfl hl (by decide) rfl (fun ls hl => ?_)
  refine lv_iload_n hx hb dX11_putNumber_3 rfl (lv_at hl 0 rfl) ?_
  refine lv_if_lt (tgt := 48) hx hb dX11_putNumber_4 (by decide) (fun c9 => absurd c9 (by decide)) (fun _ => ?_)
  refine lv_aload_n hx hb dX11_putNumber_7 rfl (lv_at hl 1 rfl) ?_
  refine va_get (ci := 11) (v := .int 8) (C := RX11) (T := TX11) (N := 14) hx hb ht iX11 hown hK hP 0 rfl rfl 1 (by decide) (ht _ k_119) (fun _ h9 => h9) rfl dX11_putNumber_8 ?_
  refine lv_aload_n hx hb dX11_putNumber_11 rfl (lv_at hl 1 rfl) ?_
  refine va_get (ci := 11) (v := .ref tp) (C := RX11) (T := TX11) (N := 14) hx hb ht iX11 hown hK hP 0 rfl rfl 0 (by decide) (ht _ k_75) (fun _ h9 => h9) rfl dX11_putNumber_12 ?_
  refine va_alen (v := 1700) hx hb hK hP 1 1 rfl rfl rfl dX11_putNumber_15 ?_
  refine lv_icmp_ge (tgt := 42) hx hb dX11_putNumber_16 (by decide) (fun c9 => absurd c9 (by decide)) (fun _ => ?_)
  refine lv_aload_n hx hb dX11_putNumber_19 rfl (lv_at hl 1 rfl) ?_
  refine va_get (ci := 11) (v := .ref tp) (C := RX11) (T := TX11) (N := 14) hx hb ht iX11 hown hK hP 0 rfl rfl 0 (by decide) (ht _ k_75) (fun _ h9 => h9) rfl dX11_putNumber_20 ?_
  refine lv_aload_n hx hb dX11_putNumber_23 rfl (lv_at hl 1 rfl) ?_
  refine va_get (ci := 11) (v := .int 8) (C := RX11) (T := TX11) (N := 14) hx hb ht iX11 hown hK hP 0 rfl rfl 1 (by decide) (ht _ k_119) (fun _ h9 => h9) rfl dX11_putNumber_24 ?_
  refine lv_iload_n hx hb dX11_putNumber_27 rfl (lv_at hl 2 rfl) ?_
  refine lv_iload_n hx hb dX11_putNumber_28 rfl (lv_at hl 0 rfl) ?_
  refine lv_ishr hx hb dX11_putNumber_29 ?_
  refine lv_topi (fun v_1 ev_1 => ?_)
  refine lv_i2b hx hb dX11_putNumber_30 rfl ?_
  refine lv_topi (fun v_2 ev_2 => ?_)
  refine ow_bast hx hb hK hP hD hS 1 rfl (in_lit (by decide +kernel)) dX11_putNumber_31 (fun f_3 H locs hP hD hS => ?_)
  have hP : va_P G vwCl [(x, .inr (11, [.ref tp, .int 8, v2, v3, v4, v5, v6, v7, v8, v9, v10, v11, v12, v13])), (tp, .inl (cy 1, 1700, .inl f_3))] H := hP
  have hD : va_D A [(x, .inr (11, [.ref tp, .int 8, v2, v3, v4, v5, v6, v7, v8, v9, v10, v11, v12, v13])), (tp, .inl (cy 1, 1700, .inl f_3))] := hD
  refine lv_aload_n hx hb dX11_putNumber_32 rfl (lv_at hl 1 rfl) ?_
  refine lv_dup hx hb dX11_putNumber_33 rfl ?_
  refine va_get (ci := 11) (v := .int 8) (C := RX11) (T := TX11) (N := 14) hx hb ht iX11 hown hK hP 0 rfl rfl 1 (by decide) (ht _ k_119) (fun _ h9 => h9) rfl dX11_putNumber_34 ?_
  refine lv_iconst (v := 1) hx hb dX11_putNumber_37 (by decide) ?_
  refine lv_iadd hx hb dX11_putNumber_38 ?_
  refine ow_top 9 (by decide +kernel) ?_
  refine va_put (ci := 11) (v := .int 9) (ty := .int) (C := RX11) (T := TX11) (N := 14) hx hb ht iX11 tyX11 tyX11_ok nmX11 hown hK hP hD hS 0 rfl rfl 1 (by decide) (ht _ k_119) (fun _ h9 => h9) rfl (by decide +kernel) rfl rfl (Nat.le_of_ble_eq_true rfl) dX11_putNumber_39 (fun H locs hP hD hS => ?_)
  have hP : va_P G vwCl [(x, .inr (11, [.ref tp, .int 9, v2, v3, v4, v5, v6, v7, v8, v9, v10, v11, v12, v13])), (tp, .inl (cy 1, 1700, .inl f_3))] H := hP
  have hD : va_D A [(x, .inr (11, [.ref tp, .int 9, v2, v3, v4, v5, v6, v7, v8, v9, v10, v11, v12, v13])), (tp, .inl (cy 1, 1700, .inl f_3))] := hD
  refine lv_iinc (v := 16) (lv' := [(2, .int 16), (0, .ref x), (1, .int n)]) hx hb dX11_putNumber_42 hl (k := 0) rfl (by decide) (by decide) rfl (fun ls hl => ?_)
  refine lv_goto (tgt := 3) hx hb dX11_putNumber_45 (by decide) ?_
  refine lv_iload_n hx hb dX11_putNumber_3 rfl (lv_at hl 0 rfl) ?_
  refine lv_if_lt (tgt := 48) hx hb dX11_putNumber_4 (by decide) (fun c9 => absurd c9 (by decide)) (fun _ => ?_)
  refine lv_aload_n hx hb dX11_putNumber_7 rfl (lv_at hl 1 rfl) ?_
  refine va_get (ci := 11) (v := .int 9) (C := RX11) (T := TX11) (N := 14) hx hb ht iX11 hown hK hP 0 rfl rfl 1 (by decide) (ht _ k_119) (fun _ h9 => h9) rfl dX11_putNumber_8 ?_
  refine lv_aload_n hx hb dX11_putNumber_11 rfl (lv_at hl 1 rfl) ?_
  refine va_get (ci := 11) (v := .ref tp) (C := RX11) (T := TX11) (N := 14) hx hb ht iX11 hown hK hP 0 rfl rfl 0 (by decide) (ht _ k_75) (fun _ h9 => h9) rfl dX11_putNumber_12 ?_
  refine va_alen (v := 1700) hx hb hK hP 1 1 rfl rfl rfl dX11_putNumber_15 ?_
  refine lv_icmp_ge (tgt := 42) hx hb dX11_putNumber_16 (by decide) (fun c9 => absurd c9 (by decide)) (fun _ => ?_)
  refine lv_aload_n hx hb dX11_putNumber_19 rfl (lv_at hl 1 rfl) ?_
  refine va_get (ci := 11) (v := .ref tp) (C := RX11) (T := TX11) (N := 14) hx hb ht iX11 hown hK hP 0 rfl rfl 0 (by decide) (ht _ k_75) (fun _ h9 => h9) rfl dX11_putNumber_20 ?_
  refine lv_aload_n hx hb dX11_putNumber_23 rfl (lv_at hl 1 rfl) ?_
  refine va_get (ci := 11) (v := .int 9) (C := RX11) (T := TX11) (N := 14) hx hb ht iX11 hown hK hP 0 rfl rfl 1 (by decide) (ht _ k_119) (fun _ h9 => h9) rfl dX11_putNumber_24 ?_
  refine lv_iload_n hx hb dX11_putNumber_27 rfl (lv_at hl 2 rfl) ?_
  refine lv_iload_n hx hb dX11_putNumber_28 rfl (lv_at hl 0 rfl) ?_
  refine lv_ishr hx hb dX11_putNumber_29 ?_
  refine lv_topi (fun v_4 ev_4 => ?_)
  refine lv_i2b hx hb dX11_putNumber_30 rfl ?_
  refine lv_topi (fun v_5 ev_5 => ?_)
  refine ow_bast hx hb hK hP hD hS 1 rfl (in_lit (by decide +kernel)) dX11_putNumber_31 (fun f_6 H locs hP hD hS => ?_)
  have hP : va_P G vwCl [(x, .inr (11, [.ref tp, .int 9, v2, v3, v4, v5, v6, v7, v8, v9, v10, v11, v12, v13])), (tp, .inl (cy 1, 1700, .inl f_6))] H := hP
  have hD : va_D A [(x, .inr (11, [.ref tp, .int 9, v2, v3, v4, v5, v6, v7, v8, v9, v10, v11, v12, v13])), (tp, .inl (cy 1, 1700, .inl f_6))] := hD
  refine lv_aload_n hx hb dX11_putNumber_32 rfl (lv_at hl 1 rfl) ?_
  refine lv_dup hx hb dX11_putNumber_33 rfl ?_
  refine va_get (ci := 11) (v := .int 9) (C := RX11) (T := TX11) (N := 14) hx hb ht iX11 hown hK hP 0 rfl rfl 1 (by decide) (ht _ k_119) (fun _ h9 => h9) rfl dX11_putNumber_34 ?_
  refine lv_iconst (v := 1) hx hb dX11_putNumber_37 (by decide) ?_
  refine lv_iadd hx hb dX11_putNumber_38 ?_
  refine ow_top 10 (by decide +kernel) ?_
  refine va_put (ci := 11) (v := .int 10) (ty := .int) (C := RX11) (T := TX11) (N := 14) hx hb ht iX11 tyX11 tyX11_ok nmX11 hown hK hP hD hS 0 rfl rfl 1 (by decide) (ht _ k_119) (fun _ h9 => h9) rfl (by decide +kernel) rfl rfl (Nat.le_of_ble_eq_true rfl) dX11_putNumber_39 (fun H locs hP hD hS => ?_)
  have hP : va_P G vwCl [(x, .inr (11, [.ref tp, .int 10, v2, v3, v4, v5, v6, v7, v8, v9, v10, v11, v12, v13])), (tp, .inl (cy 1, 1700, .inl f_6))] H := hP
  have hD : va_D A [(x, .inr (11, [.ref tp, .int 10, v2, v3, v4, v5, v6, v7, v8, v9, v10, v11, v12, v13])), (tp, .inl (cy 1, 1700, .inl f_6))] := hD
  refine lv_iinc (v := 8) (lv' := [(2, .int 8), (0, .ref x), (1, .int n)]) hx hb dX11_putNumber_42 hl (k := 0) rfl (by decide) (by decide) rfl (fun ls hl => ?_)
  refine lv_goto (tgt := 3) hx hb dX11_putNumber_45 (by decide) ?_
  refine lv_iload_n hx hb dX11_putNumber_3 rfl (lv_at hl 0 rfl) ?_
  refine lv_if_lt (tgt := 48) hx hb dX11_putNumber_4 (by decide) (fun c9 => absurd c9 (by decide)) (fun _ => ?_)
  refine lv_aload_n hx hb dX11_putNumber_7 rfl (lv_at hl 1 rfl) ?_
  refine va_get (ci := 11) (v := .int 10) (C := RX11) (T := TX11) (N := 14) hx hb ht iX11 hown hK hP 0 rfl rfl 1 (by decide) (ht _ k_119) (fun _ h9 => h9) rfl dX11_putNumber_8 ?_
  refine lv_aload_n hx hb dX11_putNumber_11 rfl (lv_at hl 1 rfl) ?_
  refine va_get (ci := 11) (v := .ref tp) (C := RX11) (T := TX11) (N := 14) hx hb ht iX11 hown hK hP 0 rfl rfl 0 (by decide) (ht _ k_75) (fun _ h9 => h9) rfl dX11_putNumber_12 ?_
  refine va_alen (v := 1700) hx hb hK hP 1 1 rfl rfl rfl dX11_putNumber_15 ?_
  refine lv_icmp_ge (tgt := 42) hx hb dX11_putNumber_16 (by decide) (fun c9 => absurd c9 (by decide)) (fun _ => ?_)
  refine lv_aload_n hx hb dX11_putNumber_19 rfl (lv_at hl 1 rfl) ?_
  refine va_get (ci := 11) (v := .ref tp) (C := RX11) (T := TX11) (N := 14) hx hb ht iX11 hown hK hP 0 rfl rfl 0 (by decide) (ht _ k_75) (fun _ h9 => h9) rfl dX11_putNumber_20 ?_
  refine lv_aload_n hx hb dX11_putNumber_23 rfl (lv_at hl 1 rfl) ?_
  refine va_get (ci := 11) (v := .int 10) (C := RX11) (T := TX11) (N := 14) hx hb ht iX11 hown hK hP 0 rfl rfl 1 (by decide) (ht _ k_119) (fun _ h9 => h9) rfl dX11_putNumber_24 ?_
  refine lv_iload_n hx hb dX11_putNumber_27 rfl (lv_at hl 2 rfl) ?_
  refine lv_iload_n hx hb dX11_putNumber_28 rfl (lv_at hl 0 rfl) ?_
  refine lv_ishr hx hb dX11_putNumber_29 ?_
  refine lv_topi (fun v_7 ev_7 => ?_)
  refine lv_i2b hx hb dX11_putNumber_30 rfl ?_
  refine lv_topi (fun v_8 ev_8 => ?_)
  refine ow_bast hx hb hK hP hD hS 1 rfl (in_lit (by decide +kernel)) dX11_putNumber_31 (fun f_9 H locs hP hD hS => ?_)
  have hP : va_P G vwCl [(x, .inr (11, [.ref tp, .int 10, v2, v3, v4, v5, v6, v7, v8, v9, v10, v11, v12, v13])), (tp, .inl (cy 1, 1700, .inl f_9))] H := hP
  have hD : va_D A [(x, .inr (11, [.ref tp, .int 10, v2, v3, v4, v5, v6, v7, v8, v9, v10, v11, v12, v13])), (tp, .inl (cy 1, 1700, .inl f_9))] := hD
  refine lv_aload_n hx hb dX11_putNumber_32 rfl (lv_at hl 1 rfl) ?_
  refine lv_dup hx hb dX11_putNumber_33 rfl ?_
  refine va_get (ci := 11) (v := .int 10) (C := RX11) (T := TX11) (N := 14) hx hb ht iX11 hown hK hP 0 rfl rfl 1 (by decide) (ht _ k_119) (fun _ h9 => h9) rfl dX11_putNumber_34 ?_
  refine lv_iconst (v := 1) hx hb dX11_putNumber_37 (by decide) ?_
  refine lv_iadd hx hb dX11_putNumber_38 ?_
  refine ow_top 11 (by decide +kernel) ?_
  refine va_put (ci := 11) (v := .int 11) (ty := .int) (C := RX11) (T := TX11) (N := 14) hx hb ht iX11 tyX11 tyX11_ok nmX11 hown hK hP hD hS 0 rfl rfl 1 (by decide) (ht _ k_119) (fun _ h9 => h9) rfl (by decide +kernel) rfl rfl (Nat.le_of_ble_eq_true rfl) dX11_putNumber_39 (fun H locs hP hD hS => ?_)
  have hP : va_P G vwCl [(x, .inr (11, [.ref tp, .int 11, v2, v3, v4, v5, v6, v7, v8, v9, v10, v11, v12, v13])), (tp, .inl (cy 1, 1700, .inl f_9))] H := hP
  have hD : va_D A [(x, .inr (11, [.ref tp, .int 11, v2, v3, v4, v5, v6, v7, v8, v9, v10, v11, v12, v13])), (tp, .inl (cy 1, 1700, .inl f_9))] := hD
  refine lv_iinc (v := 0) (lv' := [(2, .int 0), (0, .ref x), (1, .int n)]) hx hb dX11_putNumber_42 hl (k := 0) rfl (by decide) (by decide) rfl (fun ls hl => ?_)
  refine lv_goto (tgt := 3) hx hb dX11_putNumber_45 (by decide) ?_
  refine lv_iload_n hx hb dX11_putNumber_3 rfl (lv_at hl 0 rfl) ?_
  refine lv_if_lt (tgt := 48) hx hb dX11_putNumber_4 (by decide) (fun c9 => absurd c9 (by decide)) (fun _ => ?_)
  refine lv_aload_n hx hb dX11_putNumber_7 rfl (lv_at hl 1 rfl) ?_
  refine va_get (ci := 11) (v := .int 11) (C := RX11) (T := TX11) (N := 14) hx hb ht iX11 hown hK hP 0 rfl rfl 1 (by decide) (ht _ k_119) (fun _ h9 => h9) rfl dX11_putNumber_8 ?_
  refine lv_aload_n hx hb dX11_putNumber_11 rfl (lv_at hl 1 rfl) ?_
  refine va_get (ci := 11) (v := .ref tp) (C := RX11) (T := TX11) (N := 14) hx hb ht iX11 hown hK hP 0 rfl rfl 0 (by decide) (ht _ k_75) (fun _ h9 => h9) rfl dX11_putNumber_12 ?_
  refine va_alen (v := 1700) hx hb hK hP 1 1 rfl rfl rfl dX11_putNumber_15 ?_
  refine lv_icmp_ge (tgt := 42) hx hb dX11_putNumber_16 (by decide) (fun c9 => absurd c9 (by decide)) (fun _ => ?_)
  refine lv_aload_n hx hb dX11_putNumber_19 rfl (lv_at hl 1 rfl) ?_
  refine va_get (ci := 11) (v := .ref tp) (C := RX11) (T := TX11) (N := 14) hx hb ht iX11 hown hK hP 0 rfl rfl 0 (by decide) (ht _ k_75) (fun _ h9 => h9) rfl dX11_putNumber_20 ?_
  refine lv_aload_n hx hb dX11_putNumber_23 rfl (lv_at hl 1 rfl) ?_
  refine va_get (ci := 11) (v := .int 11) (C := RX11) (T := TX11) (N := 14) hx hb ht iX11 hown hK hP 0 rfl rfl 1 (by decide) (ht _ k_119) (fun _ h9 => h9) rfl dX11_putNumber_24 ?_
  refine lv_iload_n hx hb dX11_putNumber_27 rfl (lv_at hl 2 rfl) ?_
  refine lv_iload_n hx hb dX11_putNumber_28 rfl (lv_at hl 0 rfl) ?_
  refine lv_ishr hx hb dX11_putNumber_29 ?_
  refine lv_topi (fun v_10 ev_10 => ?_)
  refine lv_i2b hx hb dX11_putNumber_30 rfl ?_
  refine lv_topi (fun v_11 ev_11 => ?_)
  refine ow_bast hx hb hK hP hD hS 1 rfl (in_lit (by decide +kernel)) dX11_putNumber_31 (fun f_12 H locs hP hD hS => ?_)
  have hP : va_P G vwCl [(x, .inr (11, [.ref tp, .int 11, v2, v3, v4, v5, v6, v7, v8, v9, v10, v11, v12, v13])), (tp, .inl (cy 1, 1700, .inl f_12))] H := hP
  have hD : va_D A [(x, .inr (11, [.ref tp, .int 11, v2, v3, v4, v5, v6, v7, v8, v9, v10, v11, v12, v13])), (tp, .inl (cy 1, 1700, .inl f_12))] := hD
  refine lv_aload_n hx hb dX11_putNumber_32 rfl (lv_at hl 1 rfl) ?_
  refine lv_dup hx hb dX11_putNumber_33 rfl ?_
  refine va_get (ci := 11) (v := .int 11) (C := RX11) (T := TX11) (N := 14) hx hb ht iX11 hown hK hP 0 rfl rfl 1 (by decide) (ht _ k_119) (fun _ h9 => h9) rfl dX11_putNumber_34 ?_
  refine lv_iconst (v := 1) hx hb dX11_putNumber_37 (by decide) ?_
  refine lv_iadd hx hb dX11_putNumber_38 ?_
  refine ow_top 12 (by decide +kernel) ?_
  refine va_put (ci := 11) (v := .int 12) (ty := .int) (C := RX11) (T := TX11) (N := 14) hx hb ht iX11 tyX11 tyX11_ok nmX11 hown hK hP hD hS 0 rfl rfl 1 (by decide) (ht _ k_119) (fun _ h9 => h9) rfl (by decide +kernel) rfl rfl (Nat.le_of_ble_eq_true rfl) dX11_putNumber_39 (fun H locs hP hD hS => ?_)
  have hP : va_P G vwCl [(x, .inr (11, [.ref tp, .int 12, v2, v3, v4, v5, v6, v7, v8, v9, v10, v11, v12, v13])), (tp, .inl (cy 1, 1700, .inl f_12))] H := hP
  have hD : va_D A [(x, .inr (11, [.ref tp, .int 12, v2, v3, v4, v5, v6, v7, v8, v9, v10, v11, v12, v13])), (tp, .inl (cy 1, 1700, .inl f_12))] := hD
  refine lv_iinc (v := (-8)) (lv' := [(2, .int (-8)), (0, .ref x), (1, .int n)]) hx hb dX11_putNumber_42 hl (k := 0) rfl (by decide) (by decide) rfl (fun ls hl => ?_)
  refine lv_goto (tgt := 3) hx hb dX11_putNumber_45 (by decide) ?_
  refine lv_iload_n hx hb dX11_putNumber_3 rfl (lv_at hl 0 rfl) ?_
  refine lv_if_lt (tgt := 48) hx hb dX11_putNumber_4 (by decide) (fun _ => ?_) (fun c9 => absurd (by decide) c9)
  refine W.widen (k := 0) (n := 0) (Nat.le_of_ble_eq_true rfl) (Nat.le_of_ble_eq_true rfl) ?_
  have hP9 : va_P G vwCl [(x, .inr (11, [.ref tp, .int 12, v2, v3, v4, v5, v6, v7, v8, v9, v10, v11, v12, v13])), (tp, .inl (cy 1, 1700, .inl ((lsf [f_12]) 0)))] _ := hP.sub [0, 1] rfl
  have hD9 : va_D A [(x, .inr (11, [.ref tp, .int 12, v2, v3, v4, v5, v6, v7, v8, v9, v10, v11, v12, v13])), (tp, .inl (cy 1, 1700, .inl ((lsf [f_12]) 0)))] := hD.sub [0, 1] (by decide) rfl
  exact W.vret hx hb hr (fun t ht9 hW => ⟨⟨(lsf [f_12]), rfl, trivial, ⟨by rw [ht9]; exact hP9, hD9⟩⟩, hS.F ht9⟩) hS.2.2 dX11_putNumber_48
set_option maxHeartbeats 4000000 in
set_option maxRecDepth 100000 in
theorem c_put12 (l : Launch) (G : va_G) (cy : Nat → ClassId) (sz : Nat) (x : Nat) (n : Int32) (tp : Nat) (f : Nat → Int32) (v2 : Value) (v3 : Value) (v4 : Value) (v5 : Value) (v6 : Value) (v7 : Value) (v8 : Value) (v9 : Value) (v10 : Value) (v11 : Value) (v12 : Value) (v13 : Value)  : Met l yX11_putNumber (.code yX11_putNumber cX11_putNumber 3 none :: TBg) ({ frames := 1, cells := 0, slots := 0, locals := 64 }) (va_Pc [.ref x, .int n] (En G cy [(x, .inr (11, [.ref tp, .int 12, v2, v3, v4, v5, v6, v7, v8, v9, v10, v11, v12, v13])), (tp, .inl (cy 1, 1700, .inl f))] sz)) (va_Qv (fun u : Nat → Nat → Int32 => True) (fun u t => Ex G (va_A [(x, .inr (11, [.ref tp, .int 12, v2, v3, v4, v5, v6, v7, v8, v9, v10, v11, v12, v13])), (tp, .inl (cy 1, 1700, .inl f))] sz) [(x, .inr (11, [.ref tp, .int 16, v2, v3, v4, v5, v6, v7, v8, v9, v10, v11, v12, v13])), (tp, .inl (cy 1, 1700, .inl (u 0)))] t) (va_A [(x, .inr (11, [.ref tp, .int 12, v2, v3, v4, v5, v6, v7, v8, v9, v10, v11, v12, v13])), (tp, .inl (cy 1, 1700, .inl f))] sz)) 0 0 (va_A [(x, .inr (11, [.ref tp, .int 12, v2, v3, v4, v5, v6, v7, v8, v9, v10, v11, v12, v13])), (tp, .inl (cy 1, 1700, .inl f))] sz) := by
  refine Met.ofW (cc := cX11_putNumber) (maxL := 3) (ret := none) (by decide) rfl ?_
  intro p e s m args below meth c s₁ B hml hv
  obtain ⟨rfl, hsz, hP, hK, hD0, hN⟩ := hv
  have hx := B.exec
  have hb := B.bytes
  have hr := B.returns
  have hts := atoms_spec (ws := .code yX11_putNumber cX11_putNumber 3 none :: TBg) B.pre
  have ht : ∀ w ∈ TBg, w.before _ s = true := fun w h => hts w (List.mem_cons_of_mem _ h)
  have hown : s.vm.findClass RX11 = some m.cls := findClass_of_methodNamed B.named
  have hlocks := B.notSynchronized
  subst hsz
  have hD := hD0.self (sz := s.heap.size)
  generalize hAe : va_A [(x, .inr (11, [.ref tp, .int 12, v2, v3, v4, v5, v6, v7, v8, v9, v10, v11, v12, v13])), (tp, .inl (cy 1, 1700, .inl f))] s.heap.size = A at hD ⊢
  have hA : ∀ q : Nat, s.heap.size ≤ q → A q := fun q h => by rw [← hAe]; exact Or.inr h
  have hS : va_S A s.heap s.heap [] := va_S.rf
  have hl := lv_entry ([.ref x, .int n]) (n := 3) (Nat.le_of_ble_eq_true rfl)
  rw [lg_entry_eq]
  generalize (lg_sl ([.ref x, .int n]) ++ List.replicate (3 - (lg_sl ([.ref x, .int n])).length) Slot.unset).toArray = ls at hl ⊢
  have hl : lv_has ls 3 [(0, .ref x), (1, .int n)] := hl
  refine lv_bipush (v := 24) hx hb dX11_putNumber_0 (by decide) ?_
  refine lv_istore_n (lv' := [(2, .int 24), (0, .ref x), (1, .int n)]) hx hb dX11_putNumber_2 rfl hl (by decide) rfl (fun ls hl => ?_)
  refine lv_iload_n hx hb dX11_putNumber_3 rfl (lv_at hl 0 rfl) ?_
  refine lv_if_lt (tgt := 48) hx hb dX11_putNumber_4 (by decide) (fun c9 => absurd c9 (by decide)) (fun _ => ?_)
  refine lv_aload_n hx hb dX11_putNumber_7 rfl (lv_at hl 1 rfl) ?_
  refine va_get (ci := 11) (v := .int 12) (C := RX11) (T := TX11) (N := 14) hx hb ht iX11 hown hK hP 0 rfl rfl 1 (by decide) (ht _ k_119) (fun _ h9 => h9) rfl dX11_putNumber_8 ?_
  refine lv_aload_n hx hb dX11_putNumber_11 rfl (lv_at hl 1 rfl) ?_
  refine va_get (ci := 11) (v := .ref tp) (C := RX11) (T := TX11) (N := 14) hx hb ht iX11 hown hK hP 0 rfl rfl 0 (by decide) (ht _ k_75) (fun _ h9 => h9) rfl dX11_putNumber_12 ?_
  refine va_alen (v := 1700) hx hb hK hP 1 1 rfl rfl rfl dX11_putNumber_15 ?_
  refine lv_icmp_ge (tgt := 42) hx hb dX11_putNumber_16 (by decide) (fun c9 => absurd c9 (by decide)) (fun _ => ?_)
  refine lv_aload_n hx hb dX11_putNumber_19 rfl (lv_at hl 1 rfl) ?_
  refine va_get (ci := 11) (v := .ref tp) (C := RX11) (T := TX11) (N := 14) hx hb ht iX11 hown hK hP 0 rfl rfl 0 (by decide) (ht _ k_75) (fun _ h9 => h9) rfl dX11_putNumber_20 ?_
  refine lv_aload_n hx hb dX11_putNumber_23 rfl (lv_at hl 1 rfl) ?_
  refine va_get (ci := 11) (v := .int 12) (C := RX11) (T := TX11) (N := 14) hx hb ht iX11 hown hK hP 0 rfl rfl 1 (by decide) (ht _ k_119) (fun _ h9 => h9) rfl dX11_putNumber_24 ?_
  refine lv_iload_n hx hb dX11_putNumber_27 rfl (lv_at hl 2 rfl) ?_
  refine lv_iload_n hx hb dX11_putNumber_28 rfl (lv_at hl 0 rfl) ?_
  refine lv_ishr hx hb dX11_putNumber_29 ?_
  refine lv_topi (fun v_1 ev_1 => ?_)
  refine lv_i2b hx hb dX11_putNumber_30 rfl ?_
  refine lv_topi (fun v_2 ev_2 => ?_)
  refine ow_bast hx hb hK hP hD hS 1 rfl (in_lit (by decide +kernel)) dX11_putNumber_31 (fun f_3 H locs hP hD hS => ?_)
  have hP : va_P G vwCl [(x, .inr (11, [.ref tp, .int 12, v2, v3, v4, v5, v6, v7, v8, v9, v10, v11, v12, v13])), (tp, .inl (cy 1, 1700, .inl f_3))] H := hP
  have hD : va_D A [(x, .inr (11, [.ref tp, .int 12, v2, v3, v4, v5, v6, v7, v8, v9, v10, v11, v12, v13])), (tp, .inl (cy 1, 1700, .inl f_3))] := hD
  refine lv_aload_n hx hb dX11_putNumber_32 rfl (lv_at hl 1 rfl) ?_
  refine lv_dup hx hb dX11_putNumber_33 rfl ?_
  refine va_get (ci := 11) (v := .int 12) (C := RX11) (T := TX11) (N := 14) hx hb ht iX11 hown hK hP 0 rfl rfl 1 (by decide) (ht _ k_119) (fun _ h9 => h9) rfl dX11_putNumber_34 ?_
  refine lv_iconst (v := 1) hx hb dX11_putNumber_37 (by decide) ?_
  refine lv_iadd hx hb dX11_putNumber_38 ?_
  refine ow_top 13 (by decide +kernel) ?_
  refine va_put (ci := 11) (v := .int 13) (ty := .int) (C := RX11) (T := TX11) (N := 14) hx hb ht iX11 tyX11 tyX11_ok nmX11 hown hK hP hD hS 0 rfl rfl 1 (by decide) (ht _ k_119) (fun _ h9 => h9) rfl (by decide +kernel) rfl rfl (Nat.le_of_ble_eq_true rfl) dX11_putNumber_39 (fun H locs hP hD hS => ?_)
  have hP : va_P G vwCl [(x, .inr (11, [.ref tp, .int 13, v2, v3, v4, v5, v6, v7, v8, v9, v10, v11, v12, v13])), (tp, .inl (cy 1, 1700, .inl f_3))] H := hP
  have hD : va_D A [(x, .inr (11, [.ref tp, .int 13, v2, v3, v4, v5, v6, v7, v8, v9, v10, v11, v12, v13])), (tp, .inl (cy 1, 1700, .inl f_3))] := hD
  refine lv_iinc (v := 16) (lv' := [(2, .int 16), (0, .ref x), (1, .int n)]) hx hb dX11_putNumber_42 hl (k := 0) rfl (by decide) (by decide) rfl (fun ls hl => ?_)
  refine lv_goto (tgt := 3) hx hb dX11_putNumber_45 (by decide) ?_
  refine lv_iload_n hx hb dX11_putNumber_3 rfl (lv_at hl 0 rfl) ?_
  refine lv_if_lt (tgt := 48) hx hb dX11_putNumber_4 (by decide) (fun c9 => absurd c9 (by decide)) (fun _ => ?_)
  refine lv_aload_n hx hb dX11_putNumber_7 rfl (lv_at hl 1 rfl) ?_
  refine va_get (ci := 11) (v := .int 13) (C := RX11) (T := TX11) (N := 14) hx hb ht iX11 hown hK hP 0 rfl rfl 1 (by decide) (ht _ k_119) (fun _ h9 => h9) rfl dX11_putNumber_8 ?_
  refine lv_aload_n hx hb dX11_putNumber_11 rfl (lv_at hl 1 rfl) ?_
  refine va_get (ci := 11) (v := .ref tp) (C := RX11) (T := TX11) (N := 14) hx hb ht iX11 hown hK hP 0 rfl rfl 0 (by decide) (ht _ k_75) (fun _ h9 => h9) rfl dX11_putNumber_12 ?_
  refine va_alen (v := 1700) hx hb hK hP 1 1 rfl rfl rfl dX11_putNumber_15 ?_
  refine lv_icmp_ge (tgt := 42) hx hb dX11_putNumber_16 (by decide) (fun c9 => absurd c9 (by decide)) (fun _ => ?_)
  refine lv_aload_n hx hb dX11_putNumber_19 rfl (lv_at hl 1 rfl) ?_
  refine va_get (ci := 11) (v := .ref tp) (C := RX11) (T := TX11) (N := 14) hx hb ht iX11 hown hK hP 0 rfl rfl 0 (by decide) (ht _ k_75) (fun _ h9 => h9) rfl dX11_putNumber_20 ?_
  refine lv_aload_n hx hb dX11_putNumber_23 rfl (lv_at hl 1 rfl) ?_
  refine va_get (ci := 11) (v := .int 13) (C := RX11) (T := TX11) (N := 14) hx hb ht iX11 hown hK hP 0 rfl rfl 1 (by decide) (ht _ k_119) (fun _ h9 => h9) rfl dX11_putNumber_24 ?_
  refine lv_iload_n hx hb dX11_putNumber_27 rfl (lv_at hl 2 rfl) ?_
  refine lv_iload_n hx hb dX11_putNumber_28 rfl (lv_at hl 0 rfl) ?_
  refine lv_ishr hx hb dX11_putNumber_29 ?_
  refine lv_topi (fun v_4 ev_4 => ?_)
  refine lv_i2b hx hb dX11_putNumber_30 rfl ?_
  refine lv_topi (fun v_5 ev_5 => ?_)
  refine ow_bast hx hb hK hP hD hS 1 rfl (in_lit (by decide +kernel)) dX11_putNumber_31 (fun f_6 H locs hP hD hS => ?_)
  have hP : va_P G vwCl [(x, .inr (11, [.ref tp, .int 13, v2, v3, v4, v5, v6, v7, v8, v9, v10, v11, v12, v13])), (tp, .inl (cy 1, 1700, .inl f_6))] H := hP
  have hD : va_D A [(x, .inr (11, [.ref tp, .int 13, v2, v3, v4, v5, v6, v7, v8, v9, v10, v11, v12, v13])), (tp, .inl (cy 1, 1700, .inl f_6))] := hD
  refine lv_aload_n hx hb dX11_putNumber_32 rfl (lv_at hl 1 rfl) ?_
  refine lv_dup hx hb dX11_putNumber_33 rfl ?_
  refine va_get (ci := 11) (v := .int 13) (C := RX11) (T := TX11) (N := 14) hx hb ht iX11 hown hK hP 0 rfl rfl 1 (by decide) (ht _ k_119) (fun _ h9 => h9) rfl dX11_putNumber_34 ?_
  refine lv_iconst (v := 1) hx hb dX11_putNumber_37 (by decide) ?_
  refine lv_iadd hx hb dX11_putNumber_38 ?_
  refine ow_top 14 (by decide +kernel) ?_
  refine va_put (ci := 11) (v := .int 14) (ty := .int) (C := RX11) (T := TX11) (N := 14) hx hb ht iX11 tyX11 tyX11_ok nmX11 hown hK hP hD hS 0 rfl rfl 1 (by decide) (ht _ k_119) (fun _ h9 => h9) rfl (by decide +kernel) rfl rfl (Nat.le_of_ble_eq_true rfl) dX11_putNumber_39 (fun H locs hP hD hS => ?_)
  have hP : va_P G vwCl [(x, .inr (11, [.ref tp, .int 14, v2, v3, v4, v5, v6, v7, v8, v9, v10, v11, v12, v13])), (tp, .inl (cy 1, 1700, .inl f_6))] H := hP
  have hD : va_D A [(x, .inr (11, [.ref tp, .int 14, v2, v3, v4, v5, v6, v7, v8, v9, v10, v11, v12, v13])), (tp, .inl (cy 1, 1700, .inl f_6))] := hD
  refine lv_iinc (v := 8) (lv' := [(2, .int 8), (0, .ref x), (1, .int n)]) hx hb dX11_putNumber_42 hl (k := 0) rfl (by decide) (by decide) rfl (fun ls hl => ?_)
  refine lv_goto (tgt := 3) hx hb dX11_putNumber_45 (by decide) ?_
  refine lv_iload_n hx hb dX11_putNumber_3 rfl (lv_at hl 0 rfl) ?_
  refine lv_if_lt (tgt := 48) hx hb dX11_putNumber_4 (by decide) (fun c9 => absurd c9 (by decide)) (fun _ => ?_)
  refine lv_aload_n hx hb dX11_putNumber_7 rfl (lv_at hl 1 rfl) ?_
  refine va_get (ci := 11) (v := .int 14) (C := RX11) (T := TX11) (N := 14) hx hb ht iX11 hown hK hP 0 rfl rfl 1 (by decide) (ht _ k_119) (fun _ h9 => h9) rfl dX11_putNumber_8 ?_
  refine lv_aload_n hx hb dX11_putNumber_11 rfl (lv_at hl 1 rfl) ?_
  refine va_get (ci := 11) (v := .ref tp) (C := RX11) (T := TX11) (N := 14) hx hb ht iX11 hown hK hP 0 rfl rfl 0 (by decide) (ht _ k_75) (fun _ h9 => h9) rfl dX11_putNumber_12 ?_
  refine va_alen (v := 1700) hx hb hK hP 1 1 rfl rfl rfl dX11_putNumber_15 ?_
  refine lv_icmp_ge (tgt := 42) hx hb dX11_putNumber_16 (by decide) (fun c9 => absurd c9 (by decide)) (fun _ => ?_)
  refine lv_aload_n hx hb dX11_putNumber_19 rfl (lv_at hl 1 rfl) ?_
  refine va_get (ci := 11) (v := .ref tp) (C := RX11) (T := TX11) (N := 14) hx hb ht iX11 hown hK hP 0 rfl rfl 0 (by decide) (ht _ k_75) (fun _ h9 => h9) rfl dX11_putNumber_20 ?_
  refine lv_aload_n hx hb dX11_putNumber_23 rfl (lv_at hl 1 rfl) ?_
  refine va_get (ci := 11) (v := .int 14) (C := RX11) (T := TX11) (N := 14) hx hb ht iX11 hown hK hP 0 rfl rfl 1 (by decide) (ht _ k_119) (fun _ h9 => h9) rfl dX11_putNumber_24 ?_
  refine lv_iload_n hx hb dX11_putNumber_27 rfl (lv_at hl 2 rfl) ?_
  refine lv_iload_n hx hb dX11_putNumber_28 rfl (lv_at hl 0 rfl) ?_
  refine lv_ishr hx hb dX11_putNumber_29 ?_
  refine lv_topi (fun v_7 ev_7 => ?_)
  refine lv_i2b hx hb dX11_putNumber_30 rfl ?_
  refine lv_topi (fun v_8 ev_8 => ?_)
  refine ow_bast hx hb hK hP hD hS 1 rfl (in_lit (by decide +kernel)) dX11_putNumber_31 (fun f_9 H locs hP hD hS => ?_)
  have hP : va_P G vwCl [(x, .inr (11, [.ref tp, .int 14, v2, v3, v4, v5, v6, v7, v8, v9, v10, v11, v12, v13])), (tp, .inl (cy 1, 1700, .inl f_9))] H := hP
  have hD : va_D A [(x, .inr (11, [.ref tp, .int 14, v2, v3, v4, v5, v6, v7, v8, v9, v10, v11, v12, v13])), (tp, .inl (cy 1, 1700, .inl f_9))] := hD
  refine lv_aload_n hx hb dX11_putNumber_32 rfl (lv_at hl 1 rfl) ?_
  refine lv_dup hx hb dX11_putNumber_33 rfl ?_
  refine va_get (ci := 11) (v := .int 14) (C := RX11) (T := TX11) (N := 14) hx hb ht iX11 hown hK hP 0 rfl rfl 1 (by decide) (ht _ k_119) (fun _ h9 => h9) rfl dX11_putNumber_34 ?_
  refine lv_iconst (v := 1) hx hb dX11_putNumber_37 (by decide) ?_
  refine lv_iadd hx hb dX11_putNumber_38 ?_
  refine ow_top 15 (by decide +kernel) ?_
  refine va_put (ci := 11) (v := .int 15) (ty := .int) (C := RX11) (T := TX11) (N := 14) hx hb ht iX11 tyX11 tyX11_ok nmX11 hown hK hP hD hS 0 rfl rfl 1 (by decide) (ht _ k_119) (fun _ h9 => h9) rfl (by decide +kernel) rfl rfl (Nat.le_of_ble_eq_true rfl) dX11_putNumber_39 (fun H locs hP hD hS => ?_)
  have hP : va_P G vwCl [(x, .inr (11, [.ref tp, .int 15, v2, v3, v4, v5, v6, v7, v8, v9, v10, v11, v12, v13])), (tp, .inl (cy 1, 1700, .inl f_9))] H := hP
  have hD : va_D A [(x, .inr (11, [.ref tp, .int 15, v2, v3, v4, v5, v6, v7, v8, v9, v10, v11, v12, v13])), (tp, .inl (cy 1, 1700, .inl f_9))] := hD
  refine lv_iinc (v := 0) (lv' := [(2, .int 0), (0, .ref x), (1, .int n)]) hx hb dX11_putNumber_42 hl (k := 0) rfl (by decide) (by decide) rfl (fun ls hl => ?_)
  refine lv_goto (tgt := 3) hx hb dX11_putNumber_45 (by decide) ?_
  refine lv_iload_n hx hb dX11_putNumber_3 rfl (lv_at hl 0 rfl) ?_
  refine lv_if_lt (tgt := 48) hx hb dX11_putNumber_4 (by decide) (fun c9 => absurd c9 (by decide)) (fun _ => ?_)
  refine lv_aload_n hx hb dX11_putNumber_7 rfl (lv_at hl 1 rfl) ?_
  refine va_get (ci := 11) (v := .int 15) (C := RX11) (T := TX11) (N := 14) hx hb ht iX11 hown hK hP 0 rfl rfl 1 (by decide) (ht _ k_119) (fun _ h9 => h9) rfl dX11_putNumber_8 ?_
  refine lv_aload_n hx hb dX11_putNumber_11 rfl (lv_at hl 1 rfl) ?_
  refine va_get (ci := 11) (v := .ref tp) (C := RX11) (T := TX11) (N := 14) hx hb ht iX11 hown hK hP 0 rfl rfl 0 (by decide) (ht _ k_75) (fun _ h9 => h9) rfl dX11_putNumber_12 ?_
  refine va_alen (v := 1700) hx hb hK hP 1 1 rfl rfl rfl dX11_putNumber_15 ?_
  refine lv_icmp_ge (tgt := 42) hx hb dX11_putNumber_16 (by decide) (fun c9 => absurd c9 (by decide)) (fun _ => ?_)
  refine lv_aload_n hx hb dX11_putNumber_19 rfl (lv_at hl 1 rfl) ?_
  refine va_get (ci := 11) (v := .ref tp) (C := RX11) (T := TX11) (N := 14) hx hb ht iX11 hown hK hP 0 rfl rfl 0 (by decide) (ht _ k_75) (fun _ h9 => h9) rfl dX11_putNumber_20 ?_
  refine lv_aload_n hx hb dX11_putNumber_23 rfl (lv_at hl 1 rfl) ?_
  refine va_get (ci := 11) (v := .int 15) (C := RX11) (T := TX11) (N := 14) hx hb ht iX11 hown hK hP 0 rfl rfl 1 (by decide) (ht _ k_119) (fun _ h9 => h9) rfl dX11_putNumber_24 ?_
  refine lv_iload_n hx hb dX11_putNumber_27 rfl (lv_at hl 2 rfl) ?_
  refine lv_iload_n hx hb dX11_putNumber_28 rfl (lv_at hl 0 rfl) ?_
  refine lv_ishr hx hb dX11_putNumber_29 ?_
  refine lv_topi (fun v_10 ev_10 => ?_)
  refine lv_i2b hx hb dX11_putNumber_30 rfl ?_
  refine lv_topi (fun v_11 ev_11 => ?_)
  refine ow_bast hx hb hK hP hD hS 1 rfl (in_lit (by decide +kernel)) dX11_putNumber_31 (fun f_12 H locs hP hD hS => ?_)
  have hP : va_P G vwCl [(x, .inr (11, [.ref tp, .int 15, v2, v3, v4, v5, v6, v7, v8, v9, v10, v11, v12, v13])), (tp, .inl (cy 1, 1700, .inl f_12))] H := hP
  have hD : va_D A [(x, .inr (11, [.ref tp, .int 15, v2, v3, v4, v5, v6, v7, v8, v9, v10, v11, v12, v13])), (tp, .inl (cy 1, 1700, .inl f_12))] := hD
  refine lv_aload_n hx hb dX11_putNumber_32 rfl (lv_at hl 1 rfl) ?_
  refine lv_dup hx hb dX11_putNumber_33 rfl ?_
  refine va_get (ci := 11) (v := .int 15) (C := RX11) (T := TX11) (N := 14) hx hb ht iX11 hown hK hP 0 rfl rfl 1 (by decide) (ht _ k_119) (fun _ h9 => h9) rfl dX11_putNumber_34 ?_
  refine lv_iconst (v := 1) hx hb dX11_putNumber_37 (by decide) ?_
  refine lv_iadd hx hb dX11_putNumber_38 ?_
  refine ow_top 16 (by decide +kernel) ?_
  refine va_put (ci := 11) (v := .int 16) (ty := .int) (C := RX11) (T := TX11) (N := 14) hx hb ht iX11 tyX11 tyX11_ok nmX11 hown hK hP hD hS 0 rfl rfl 1 (by decide) (ht _ k_119) (fun _ h9 => h9) rfl (by decide +kernel) rfl rfl (Nat.le_of_ble_eq_true rfl) dX11_putNumber_39 (fun H locs hP hD hS => ?_)
  have hP : va_P G vwCl [(x, .inr (11, [.ref tp, .int 16, v2, v3, v4, v5, v6, v7, v8, v9, v10, v11, v12, v13])), (tp, .inl (cy 1, 1700, .inl f_12))] H := hP
  have hD : va_D A [(x, .inr (11, [.ref tp, .int 16, v2, v3, v4, v5, v6, v7, v8, v9, v10, v11, v12, v13])), (tp, .inl (cy 1, 1700, .inl f_12))] := hD
  refine lv_iinc (v := (-8)) (lv' := [(2, .int (-8)), (0, .ref x), (1, .int n)]) hx hb dX11_putNumber_42 hl (k := 0) rfl (by decide) (by decide) rfl (fun ls hl => ?_)
  refine lv_goto (tgt := 3) hx hb dX11_putNumber_45 (by decide) ?_
  refine lv_iload_n hx hb dX11_putNumber_3 rfl (lv_at hl 0 rfl) ?_
  refine lv_if_lt (tgt := 48) hx hb dX11_putNumber_4 (by decide) (fun _ => ?_) (fun c9 => absurd (by decide) c9)
  refine W.widen (k := 0) (n := 0) (Nat.le_of_ble_eq_true rfl) (Nat.le_of_ble_eq_true rfl) ?_
  have hP9 : va_P G vwCl [(x, .inr (11, [.ref tp, .int 16, v2, v3, v4, v5, v6, v7, v8, v9, v10, v11, v12, v13])), (tp, .inl (cy 1, 1700, .inl ((lsf [f_12]) 0)))] _ := hP.sub [0, 1] rfl
  have hD9 : va_D A [(x, .inr (11, [.ref tp, .int 16, v2, v3, v4, v5, v6, v7, v8, v9, v10, v11, v12, v13])), (tp, .inl (cy 1, 1700, .inl ((lsf [f_12]) 0)))] := hD.sub [0, 1] (by decide) rfl
  exact W.vret hx hb hr (fun t ht9 hW => ⟨⟨(lsf [f_12]), rfl, trivial, ⟨by rw [ht9]; exact hP9, hD9⟩⟩, hS.F ht9⟩) hS.2.2 dX11_putNumber_48
set_option maxHeartbeats 4000000 in
set_option maxRecDepth 100000 in
theorem c_put16 (l : Launch) (G : va_G) (cy : Nat → ClassId) (sz : Nat) (x : Nat) (n : Int32) (tp : Nat) (f : Nat → Int32) (v2 : Value) (v3 : Value) (v4 : Value) (v5 : Value) (v6 : Value) (v7 : Value) (v8 : Value) (v9 : Value) (v10 : Value) (v11 : Value) (v12 : Value) (v13 : Value)  : Met l yX11_putNumber (.code yX11_putNumber cX11_putNumber 3 none :: TBg) ({ frames := 1, cells := 0, slots := 0, locals := 64 }) (va_Pc [.ref x, .int n] (En G cy [(x, .inr (11, [.ref tp, .int 16, v2, v3, v4, v5, v6, v7, v8, v9, v10, v11, v12, v13])), (tp, .inl (cy 1, 1700, .inl f))] sz)) (va_Qv (fun u : Nat → Nat → Int32 => True) (fun u t => Ex G (va_A [(x, .inr (11, [.ref tp, .int 16, v2, v3, v4, v5, v6, v7, v8, v9, v10, v11, v12, v13])), (tp, .inl (cy 1, 1700, .inl f))] sz) [(x, .inr (11, [.ref tp, .int 20, v2, v3, v4, v5, v6, v7, v8, v9, v10, v11, v12, v13])), (tp, .inl (cy 1, 1700, .inl (u 0)))] t) (va_A [(x, .inr (11, [.ref tp, .int 16, v2, v3, v4, v5, v6, v7, v8, v9, v10, v11, v12, v13])), (tp, .inl (cy 1, 1700, .inl f))] sz)) 0 0 (va_A [(x, .inr (11, [.ref tp, .int 16, v2, v3, v4, v5, v6, v7, v8, v9, v10, v11, v12, v13])), (tp, .inl (cy 1, 1700, .inl f))] sz) := by
  refine Met.ofW (cc := cX11_putNumber) (maxL := 3) (ret := none) (by decide) rfl ?_
  intro p e s m args below meth c s₁ B hml hv
  obtain ⟨rfl, hsz, hP, hK, hD0, hN⟩ := hv
  have hx := B.exec
  have hb := B.bytes
  have hr := B.returns
  have hts := atoms_spec (ws := .code yX11_putNumber cX11_putNumber 3 none :: TBg) B.pre
  have ht : ∀ w ∈ TBg, w.before _ s = true := fun w h => hts w (List.mem_cons_of_mem _ h)
  have hown : s.vm.findClass RX11 = some m.cls := findClass_of_methodNamed B.named
  have hlocks := B.notSynchronized
  subst hsz
  have hD := hD0.self (sz := s.heap.size)
  generalize hAe : va_A [(x, .inr (11, [.ref tp, .int 16, v2, v3, v4, v5, v6, v7, v8, v9, v10, v11, v12, v13])), (tp, .inl (cy 1, 1700, .inl f))] s.heap.size = A at hD ⊢
  have hA : ∀ q : Nat, s.heap.size ≤ q → A q := fun q h => by rw [← hAe]; exact Or.inr h
  have hS : va_S A s.heap s.heap [] := va_S.rf
  have hl := lv_entry ([.ref x, .int n]) (n := 3) (Nat.le_of_ble_eq_true rfl)
  rw [lg_entry_eq]
  generalize (lg_sl ([.ref x, .int n]) ++ List.replicate (3 - (lg_sl ([.ref x, .int n])).length) Slot.unset).toArray = ls at hl ⊢
  have hl : lv_has ls 3 [(0, .ref x), (1, .int n)] := hl
  refine lv_bipush (v := 24) hx hb dX11_putNumber_0 (by decide) ?_
  refine lv_istore_n (lv' := [(2, .int 24), (0, .ref x), (1, .int n)]) hx hb dX11_putNumber_2 rfl hl (by decide) rfl (fun ls hl => ?_)
  refine lv_iload_n hx hb dX11_putNumber_3 rfl (lv_at hl 0 rfl) ?_
  refine lv_if_lt (tgt := 48) hx hb dX11_putNumber_4 (by decide) (fun c9 => absurd c9 (by decide)) (fun _ => ?_)
  refine lv_aload_n hx hb dX11_putNumber_7 rfl (lv_at hl 1 rfl) ?_
  refine va_get (ci := 11) (v := .int 16) (C := RX11) (T := TX11) (N := 14) hx hb ht iX11 hown hK hP 0 rfl rfl 1 (by decide) (ht _ k_119) (fun _ h9 => h9) rfl dX11_putNumber_8 ?_
  refine lv_aload_n hx hb dX11_putNumber_11 rfl (lv_at hl 1 rfl) ?_
  refine va_get (ci := 11) (v := .ref tp) (C := RX11) (T := TX11) (N := 14) hx hb ht iX11 hown hK hP 0 rfl rfl 0 (by decide) (ht _ k_75) (fun _ h9 => h9) rfl dX11_putNumber_12 ?_
  refine va_alen (v := 1700) hx hb hK hP 1 1 rfl rfl rfl dX11_putNumber_15 ?_
  refine lv_icmp_ge (tgt := 42) hx hb dX11_putNumber_16 (by decide) (fun c9 => absurd c9 (by decide)) (fun _ => ?_)
  refine lv_aload_n hx hb dX11_putNumber_19 rfl (lv_at hl 1 rfl) ?_
  refine va_get (ci := 11) (v := .ref tp) (C := RX11) (T := TX11) (N := 14) hx hb ht iX11 hown hK hP 0 rfl rfl 0 (by decide) (ht _ k_75) (fun _ h9 => h9) rfl dX11_putNumber_20 ?_
  refine lv_aload_n hx hb dX11_putNumber_23 rfl (lv_at hl 1 rfl) ?_
  refine va_get (ci := 11) (v := .int 16) (C := RX11) (T := TX11) (N := 14) hx hb ht iX11 hown hK hP 0 rfl rfl 1 (by decide) (ht _ k_119) (fun _ h9 => h9) rfl dX11_putNumber_24 ?_
  refine lv_iload_n hx hb dX11_putNumber_27 rfl (lv_at hl 2 rfl) ?_
  refine lv_iload_n hx hb dX11_putNumber_28 rfl (lv_at hl 0 rfl) ?_
  refine lv_ishr hx hb dX11_putNumber_29 ?_
  refine lv_topi (fun v_1 ev_1 => ?_)
  refine lv_i2b hx hb dX11_putNumber_30 rfl ?_
  refine lv_topi (fun v_2 ev_2 => ?_)
  refine ow_bast hx hb hK hP hD hS 1 rfl (in_lit (by decide +kernel)) dX11_putNumber_31 (fun f_3 H locs hP hD hS => ?_)
  have hP : va_P G vwCl [(x, .inr (11, [.ref tp, .int 16, v2, v3, v4, v5, v6, v7, v8, v9, v10, v11, v12, v13])), (tp, .inl (cy 1, 1700, .inl f_3))] H := hP
  have hD : va_D A [(x, .inr (11, [.ref tp, .int 16, v2, v3, v4, v5, v6, v7, v8, v9, v10, v11, v12, v13])), (tp, .inl (cy 1, 1700, .inl f_3))] := hD
  refine lv_aload_n hx hb dX11_putNumber_32 rfl (lv_at hl 1 rfl) ?_
  refine lv_dup hx hb dX11_putNumber_33 rfl ?_
  refine va_get (ci := 11) (v := .int 16) (C := RX11) (T := TX11) (N := 14) hx hb ht iX11 hown hK hP 0 rfl rfl 1 (by decide) (ht _ k_119) (fun _ h9 => h9) rfl dX11_putNumber_34 ?_
  refine lv_iconst (v := 1) hx hb dX11_putNumber_37 (by decide) ?_
  refine lv_iadd hx hb dX11_putNumber_38 ?_
  refine ow_top 17 (by decide +kernel) ?_
  refine va_put (ci := 11) (v := .int 17) (ty := .int) (C := RX11) (T := TX11) (N := 14) hx hb ht iX11 tyX11 tyX11_ok nmX11 hown hK hP hD hS 0 rfl rfl 1 (by decide) (ht _ k_119) (fun _ h9 => h9) rfl (by decide +kernel) rfl rfl (Nat.le_of_ble_eq_true rfl) dX11_putNumber_39 (fun H locs hP hD hS => ?_)
  have hP : va_P G vwCl [(x, .inr (11, [.ref tp, .int 17, v2, v3, v4, v5, v6, v7, v8, v9, v10, v11, v12, v13])), (tp, .inl (cy 1, 1700, .inl f_3))] H := hP
  have hD : va_D A [(x, .inr (11, [.ref tp, .int 17, v2, v3, v4, v5, v6, v7, v8, v9, v10, v11, v12, v13])), (tp, .inl (cy 1, 1700, .inl f_3))] := hD
  refine lv_iinc (v := 16) (lv' := [(2, .int 16), (0, .ref x), (1, .int n)]) hx hb dX11_putNumber_42 hl (k := 0) rfl (by decide) (by decide) rfl (fun ls hl => ?_)
  refine lv_goto (tgt := 3) hx hb dX11_putNumber_45 (by decide) ?_
  refine lv_iload_n hx hb dX11_putNumber_3 rfl (lv_at hl 0 rfl) ?_
  refine lv_if_lt (tgt := 48) hx hb dX11_putNumber_4 (by decide) (fun c9 => absurd c9 (by decide)) (fun _ => ?_)
  refine lv_aload_n hx hb dX11_putNumber_7 rfl (lv_at hl 1 rfl) ?_
  refine va_get (ci := 11) (v := .int 17) (C := RX11) (T := TX11) (N := 14) hx hb ht iX11 hown hK hP 0 rfl rfl 1 (by decide) (ht _ k_119) (fun _ h9 => h9) rfl dX11_putNumber_8 ?_
  refine lv_aload_n hx hb dX11_putNumber_11 rfl (lv_at hl 1 rfl) ?_
  refine va_get (ci := 11) (v := .ref tp) (C := RX11) (T := TX11) (N := 14) hx hb ht iX11 hown hK hP 0 rfl rfl 0 (by decide) (ht _ k_75) (fun _ h9 => h9) rfl dX11_putNumber_12 ?_
  refine va_alen (v := 1700) hx hb hK hP 1 1 rfl rfl rfl dX11_putNumber_15 ?_
  refine lv_icmp_ge (tgt := 42) hx hb dX11_putNumber_16 (by decide) (fun c9 => absurd c9 (by decide)) (fun _ => ?_)
  refine lv_aload_n hx hb dX11_putNumber_19 rfl (lv_at hl 1 rfl) ?_
  refine va_get (ci := 11) (v := .ref tp) (C := RX11) (T := TX11) (N := 14) hx hb ht iX11 hown hK hP 0 rfl rfl 0 (by decide) (ht _ k_75) (fun _ h9 => h9) rfl dX11_putNumber_20 ?_
  refine lv_aload_n hx hb dX11_putNumber_23 rfl (lv_at hl 1 rfl) ?_
  refine va_get (ci := 11) (v := .int 17) (C := RX11) (T := TX11) (N := 14) hx hb ht iX11 hown hK hP 0 rfl rfl 1 (by decide) (ht _ k_119) (fun _ h9 => h9) rfl dX11_putNumber_24 ?_
  refine lv_iload_n hx hb dX11_putNumber_27 rfl (lv_at hl 2 rfl) ?_
  refine lv_iload_n hx hb dX11_putNumber_28 rfl (lv_at hl 0 rfl) ?_
  refine lv_ishr hx hb dX11_putNumber_29 ?_
  refine lv_topi (fun v_4 ev_4 => ?_)
  refine lv_i2b hx hb dX11_putNumber_30 rfl ?_
  refine lv_topi (fun v_5 ev_5 => ?_)
  refine ow_bast hx hb hK hP hD hS 1 rfl (in_lit (by decide +kernel)) dX11_putNumber_31 (fun f_6 H locs hP hD hS => ?_)
  have hP : va_P G vwCl [(x, .inr (11, [.ref tp, .int 17, v2, v3, v4, v5, v6, v7, v8, v9, v10, v11, v12, v13])), (tp, .inl (cy 1, 1700, .inl f_6))] H := hP
  have hD : va_D A [(x, .inr (11, [.ref tp, .int 17, v2, v3, v4, v5, v6, v7, v8, v9, v10, v11, v12, v13])), (tp, .inl (cy 1, 1700, .inl f_6))] := hD
  refine lv_aload_n hx hb dX11_putNumber_32 rfl (lv_at hl 1 rfl) ?_
  refine lv_dup hx hb dX11_putNumber_33 rfl ?_
  refine va_get (ci := 11) (v := .int 17) (C := RX11) (T := TX11) (N := 14) hx hb ht iX11 hown hK hP 0 rfl rfl 1 (by decide) (ht _ k_119) (fun _ h9 => h9) rfl dX11_putNumber_34 ?_
  refine lv_iconst (v := 1) hx hb dX11_putNumber_37 (by decide) ?_
  refine lv_iadd hx hb dX11_putNumber_38 ?_
  refine ow_top 18 (by decide +kernel) ?_
  refine va_put (ci := 11) (v := .int 18) (ty := .int) (C := RX11) (T := TX11) (N := 14) hx hb ht iX11 tyX11 tyX11_ok nmX11 hown hK hP hD hS 0 rfl rfl 1 (by decide) (ht _ k_119) (fun _ h9 => h9) rfl (by decide +kernel) rfl rfl (Nat.le_of_ble_eq_true rfl) dX11_putNumber_39 (fun H locs hP hD hS => ?_)
  have hP : va_P G vwCl [(x, .inr (11, [.ref tp, .int 18, v2, v3, v4, v5, v6, v7, v8, v9, v10, v11, v12, v13])), (tp, .inl (cy 1, 1700, .inl f_6))] H := hP
  have hD : va_D A [(x, .inr (11, [.ref tp, .int 18, v2, v3, v4, v5, v6, v7, v8, v9, v10, v11, v12, v13])), (tp, .inl (cy 1, 1700, .inl f_6))] := hD
  refine lv_iinc (v := 8) (lv' := [(2, .int 8), (0, .ref x), (1, .int n)]) hx hb dX11_putNumber_42 hl (k := 0) rfl (by decide) (by decide) rfl (fun ls hl => ?_)
  refine lv_goto (tgt := 3) hx hb dX11_putNumber_45 (by decide) ?_
  refine lv_iload_n hx hb dX11_putNumber_3 rfl (lv_at hl 0 rfl) ?_
  refine lv_if_lt (tgt := 48) hx hb dX11_putNumber_4 (by decide) (fun c9 => absurd c9 (by decide)) (fun _ => ?_)
  refine lv_aload_n hx hb dX11_putNumber_7 rfl (lv_at hl 1 rfl) ?_
  refine va_get (ci := 11) (v := .int 18) (C := RX11) (T := TX11) (N := 14) hx hb ht iX11 hown hK hP 0 rfl rfl 1 (by decide) (ht _ k_119) (fun _ h9 => h9) rfl dX11_putNumber_8 ?_
  refine lv_aload_n hx hb dX11_putNumber_11 rfl (lv_at hl 1 rfl) ?_
  refine va_get (ci := 11) (v := .ref tp) (C := RX11) (T := TX11) (N := 14) hx hb ht iX11 hown hK hP 0 rfl rfl 0 (by decide) (ht _ k_75) (fun _ h9 => h9) rfl dX11_putNumber_12 ?_
  refine va_alen (v := 1700) hx hb hK hP 1 1 rfl rfl rfl dX11_putNumber_15 ?_
  refine lv_icmp_ge (tgt := 42) hx hb dX11_putNumber_16 (by decide) (fun c9 => absurd c9 (by decide)) (fun _ => ?_)
  refine lv_aload_n hx hb dX11_putNumber_19 rfl (lv_at hl 1 rfl) ?_
  refine va_get (ci := 11) (v := .ref tp) (C := RX11) (T := TX11) (N := 14) hx hb ht iX11 hown hK hP 0 rfl rfl 0 (by decide) (ht _ k_75) (fun _ h9 => h9) rfl dX11_putNumber_20 ?_
  refine lv_aload_n hx hb dX11_putNumber_23 rfl (lv_at hl 1 rfl) ?_
  refine va_get (ci := 11) (v := .int 18) (C := RX11) (T := TX11) (N := 14) hx hb ht iX11 hown hK hP 0 rfl rfl 1 (by decide) (ht _ k_119) (fun _ h9 => h9) rfl dX11_putNumber_24 ?_
  refine lv_iload_n hx hb dX11_putNumber_27 rfl (lv_at hl 2 rfl) ?_
  refine lv_iload_n hx hb dX11_putNumber_28 rfl (lv_at hl 0 rfl) ?_
  refine lv_ishr hx hb dX11_putNumber_29 ?_
  refine lv_topi (fun v_7 ev_7 => ?_)
  refine lv_i2b hx hb dX11_putNumber_30 rfl ?_
  refine lv_topi (fun v_8 ev_8 => ?_)
  refine ow_bast hx hb hK hP hD hS 1 rfl (in_lit (by decide +kernel)) dX11_putNumber_31 (fun f_9 H locs hP hD hS => ?_)
  have hP : va_P G vwCl [(x, .inr (11, [.ref tp, .int 18, v2, v3, v4, v5, v6, v7, v8, v9, v10, v11, v12, v13])), (tp, .inl (cy 1, 1700, .inl f_9))] H := hP
  have hD : va_D A [(x, .inr (11, [.ref tp, .int 18, v2, v3, v4, v5, v6, v7, v8, v9, v10, v11, v12, v13])), (tp, .inl (cy 1, 1700, .inl f_9))] := hD
  refine lv_aload_n hx hb dX11_putNumber_32 rfl (lv_at hl 1 rfl) ?_
  refine lv_dup hx hb dX11_putNumber_33 rfl ?_
  refine va_get (ci := 11) (v := .int 18) (C := RX11) (T := TX11) (N := 14) hx hb ht iX11 hown hK hP 0 rfl rfl 1 (by decide) (ht _ k_119) (fun _ h9 => h9) rfl dX11_putNumber_34 ?_
  refine lv_iconst (v := 1) hx hb dX11_putNumber_37 (by decide) ?_
  refine lv_iadd hx hb dX11_putNumber_38 ?_
  refine ow_top 19 (by decide +kernel) ?_
  refine va_put (ci := 11) (v := .int 19) (ty := .int) (C := RX11) (T := TX11) (N := 14) hx hb ht iX11 tyX11 tyX11_ok nmX11 hown hK hP hD hS 0 rfl rfl 1 (by decide) (ht _ k_119) (fun _ h9 => h9) rfl (by decide +kernel) rfl rfl (Nat.le_of_ble_eq_true rfl) dX11_putNumber_39 (fun H locs hP hD hS => ?_)
  have hP : va_P G vwCl [(x, .inr (11, [.ref tp, .int 19, v2, v3, v4, v5, v6, v7, v8, v9, v10, v11, v12, v13])), (tp, .inl (cy 1, 1700, .inl f_9))] H := hP
  have hD : va_D A [(x, .inr (11, [.ref tp, .int 19, v2, v3, v4, v5, v6, v7, v8, v9, v10, v11, v12, v13])), (tp, .inl (cy 1, 1700, .inl f_9))] := hD
  refine lv_iinc (v := 0) (lv' := [(2, .int 0), (0, .ref x), (1, .int n)]) hx hb dX11_putNumber_42 hl (k := 0) rfl (by decide) (by decide) rfl (fun ls hl => ?_)
  refine lv_goto (tgt := 3) hx hb dX11_putNumber_45 (by decide) ?_
  refine lv_iload_n hx hb dX11_putNumber_3 rfl (lv_at hl 0 rfl) ?_
  refine lv_if_lt (tgt := 48) hx hb dX11_putNumber_4 (by decide) (fun c9 => absurd c9 (by decide)) (fun _ => ?_)
  refine lv_aload_n hx hb dX11_putNumber_7 rfl (lv_at hl 1 rfl) ?_
  refine va_get (ci := 11) (v := .int 19) (C := RX11) (T := TX11) (N := 14) hx hb ht iX11 hown hK hP 0 rfl rfl 1 (by decide) (ht _ k_119) (fun _ h9 => h9) rfl dX11_putNumber_8 ?_
  refine lv_aload_n hx hb dX11_putNumber_11 rfl (lv_at hl 1 rfl) ?_
  refine va_get (ci := 11) (v := .ref tp) (C := RX11) (T := TX11) (N := 14) hx hb ht iX11 hown hK hP 0 rfl rfl 0 (by decide) (ht _ k_75) (fun _ h9 => h9) rfl dX11_putNumber_12 ?_
  refine va_alen (v := 1700) hx hb hK hP 1 1 rfl rfl rfl dX11_putNumber_15 ?_
  refine lv_icmp_ge (tgt := 42) hx hb dX11_putNumber_16 (by decide) (fun c9 => absurd c9 (by decide)) (fun _ => ?_)
  refine lv_aload_n hx hb dX11_putNumber_19 rfl (lv_at hl 1 rfl) ?_
  refine va_get (ci := 11) (v := .ref tp) (C := RX11) (T := TX11) (N := 14) hx hb ht iX11 hown hK hP 0 rfl rfl 0 (by decide) (ht _ k_75) (fun _ h9 => h9) rfl dX11_putNumber_20 ?_
  refine lv_aload_n hx hb dX11_putNumber_23 rfl (lv_at hl 1 rfl) ?_
  refine va_get (ci := 11) (v := .int 19) (C := RX11) (T := TX11) (N := 14) hx hb ht iX11 hown hK hP 0 rfl rfl 1 (by decide) (ht _ k_119) (fun _ h9 => h9) rfl dX11_putNumber_24 ?_
  refine lv_iload_n hx hb dX11_putNumber_27 rfl (lv_at hl 2 rfl) ?_
  refine lv_iload_n hx hb dX11_putNumber_28 rfl (lv_at hl 0 rfl) ?_
  refine lv_ishr hx hb dX11_putNumber_29 ?_
  refine lv_topi (fun v_10 ev_10 => ?_)
  refine lv_i2b hx hb dX11_putNumber_30 rfl ?_
  refine lv_topi (fun v_11 ev_11 => ?_)
  refine ow_bast hx hb hK hP hD hS 1 rfl (in_lit (by decide +kernel)) dX11_putNumber_31 (fun f_12 H locs hP hD hS => ?_)
  have hP : va_P G vwCl [(x, .inr (11, [.ref tp, .int 19, v2, v3, v4, v5, v6, v7, v8, v9, v10, v11, v12, v13])), (tp, .inl (cy 1, 1700, .inl f_12))] H := hP
  have hD : va_D A [(x, .inr (11, [.ref tp, .int 19, v2, v3, v4, v5, v6, v7, v8, v9, v10, v11, v12, v13])), (tp, .inl (cy 1, 1700, .inl f_12))] := hD
  refine lv_aload_n hx hb dX11_putNumber_32 rfl (lv_at hl 1 rfl) ?_
  refine lv_dup hx hb dX11_putNumber_33 rfl ?_
  refine va_get (ci := 11) (v := .int 19) (C := RX11) (T := TX11) (N := 14) hx hb ht iX11 hown hK hP 0 rfl rfl 1 (by decide) (ht _ k_119) (fun _ h9 => h9) rfl dX11_putNumber_34 ?_
  refine lv_iconst (v := 1) hx hb dX11_putNumber_37 (by decide) ?_
  refine lv_iadd hx hb dX11_putNumber_38 ?_
  refine ow_top 20 (by decide +kernel) ?_
  refine va_put (ci := 11) (v := .int 20) (ty := .int) (C := RX11) (T := TX11) (N := 14) hx hb ht iX11 tyX11 tyX11_ok nmX11 hown hK hP hD hS 0 rfl rfl 1 (by decide) (ht _ k_119) (fun _ h9 => h9) rfl (by decide +kernel) rfl rfl (Nat.le_of_ble_eq_true rfl) dX11_putNumber_39 (fun H locs hP hD hS => ?_)
  have hP : va_P G vwCl [(x, .inr (11, [.ref tp, .int 20, v2, v3, v4, v5, v6, v7, v8, v9, v10, v11, v12, v13])), (tp, .inl (cy 1, 1700, .inl f_12))] H := hP
  have hD : va_D A [(x, .inr (11, [.ref tp, .int 20, v2, v3, v4, v5, v6, v7, v8, v9, v10, v11, v12, v13])), (tp, .inl (cy 1, 1700, .inl f_12))] := hD
  refine lv_iinc (v := (-8)) (lv' := [(2, .int (-8)), (0, .ref x), (1, .int n)]) hx hb dX11_putNumber_42 hl (k := 0) rfl (by decide) (by decide) rfl (fun ls hl => ?_)
  refine lv_goto (tgt := 3) hx hb dX11_putNumber_45 (by decide) ?_
  refine lv_iload_n hx hb dX11_putNumber_3 rfl (lv_at hl 0 rfl) ?_
  refine lv_if_lt (tgt := 48) hx hb dX11_putNumber_4 (by decide) (fun _ => ?_) (fun c9 => absurd (by decide) c9)
  refine W.widen (k := 0) (n := 0) (Nat.le_of_ble_eq_true rfl) (Nat.le_of_ble_eq_true rfl) ?_
  have hP9 : va_P G vwCl [(x, .inr (11, [.ref tp, .int 20, v2, v3, v4, v5, v6, v7, v8, v9, v10, v11, v12, v13])), (tp, .inl (cy 1, 1700, .inl ((lsf [f_12]) 0)))] _ := hP.sub [0, 1] rfl
  have hD9 : va_D A [(x, .inr (11, [.ref tp, .int 20, v2, v3, v4, v5, v6, v7, v8, v9, v10, v11, v12, v13])), (tp, .inl (cy 1, 1700, .inl ((lsf [f_12]) 0)))] := hD.sub [0, 1] (by decide) rfl
  exact W.vret hx hb hr (fun t ht9 hW => ⟨⟨(lsf [f_12]), rfl, trivial, ⟨by rw [ht9]; exact hP9, hD9⟩⟩, hS.F ht9⟩) hS.2.2 dX11_putNumber_48
set_option maxHeartbeats 4000000 in
set_option maxRecDepth 100000 in
theorem c_add (l : Launch) (G : va_G) (cy : Nat → ClassId) (sz : Nat) (h : Nat) (x : Int32) (y : Int32) (a : Nat) (b : Nat) (f : Nat → Int32) (g : Nat → Int32)  : Met l yX8_add (.code yX8_add cX8_add 3 none :: TBg) ({ frames := 1, cells := 0, slots := 0, locals := 64 }) (va_Pc [.ref h, .int x, .int y] (En G cy [(h, .inr (8, [.ref a, .ref b, .int 0])), (a, .inl (cy 0, 40, .inl f)), (b, .inl (cy 0, 40, .inl g))] sz)) (va_Qv (fun u : Nat → Nat → Int32 => True) (fun u t => Ex G (va_A [(h, .inr (8, [.ref a, .ref b, .int 0])), (a, .inl (cy 0, 40, .inl f)), (b, .inl (cy 0, 40, .inl g))] sz) [(h, .inr (8, [.ref a, .ref b, .int 1])), (a, .inl (cy 0, 40, .inl (u 0))), (b, .inl (cy 0, 40, .inl (u 1)))] t) (va_A [(h, .inr (8, [.ref a, .ref b, .int 0])), (a, .inl (cy 0, 40, .inl f)), (b, .inl (cy 0, 40, .inl g))] sz)) 0 0 (va_A [(h, .inr (8, [.ref a, .ref b, .int 0])), (a, .inl (cy 0, 40, .inl f)), (b, .inl (cy 0, 40, .inl g))] sz) := by
  refine Met.ofW (cc := cX8_add) (maxL := 3) (ret := none) (by decide) rfl ?_
  intro p e s m args below meth c s₁ B hml hv
  obtain ⟨rfl, hsz, hP, hK, hD0, hN⟩ := hv
  have hx := B.exec
  have hb := B.bytes
  have hr := B.returns
  have hts := atoms_spec (ws := .code yX8_add cX8_add 3 none :: TBg) B.pre
  have ht : ∀ w ∈ TBg, w.before _ s = true := fun w h => hts w (List.mem_cons_of_mem _ h)
  have hown : s.vm.findClass RX8 = some m.cls := findClass_of_methodNamed B.named
  have hlocks := B.notSynchronized
  subst hsz
  have hD := hD0.self (sz := s.heap.size)
  generalize hAe : va_A [(h, .inr (8, [.ref a, .ref b, .int 0])), (a, .inl (cy 0, 40, .inl f)), (b, .inl (cy 0, 40, .inl g))] s.heap.size = A at hD ⊢
  have hA : ∀ q : Nat, s.heap.size ≤ q → A q := fun q h => by rw [← hAe]; exact Or.inr h
  have hS : va_S A s.heap s.heap [] := va_S.rf
  have hl := lv_entry ([.ref h, .int x, .int y]) (n := 3) (Nat.le_of_ble_eq_true rfl)
  rw [lg_entry_eq]
  generalize (lg_sl ([.ref h, .int x, .int y]) ++ List.replicate (3 - (lg_sl ([.ref h, .int x, .int y])).length) Slot.unset).toArray = ls at hl ⊢
  have hl : lv_has ls 3 [(0, .ref h), (1, .int x), (2, .int y)] := hl
  refine lv_aload_n hx hb dX8_add_0 rfl (lv_at hl 0 rfl) ?_
  refine va_get (ci := 8) (v := .int 0) (C := RX8) (T := TX8) (N := 3) hx hb ht iX8 hown hK hP 0 rfl rfl 2 (by decide) (ht _ k_120) (fun _ h9 => h9) rfl dX8_add_1 ?_
  refine lv_aload_n hx hb dX8_add_4 rfl (lv_at hl 0 rfl) ?_
  refine va_get (ci := 8) (v := .ref a) (C := RX8) (T := TX8) (N := 3) hx hb ht iX8 hown hK hP 0 rfl rfl 0 (by decide) (ht _ k_29) (fun _ h9 => h9) rfl dX8_add_5 ?_
  refine va_alen (v := 40) hx hb hK hP 1 0 rfl rfl rfl dX8_add_8 ?_
  refine lv_icmp_ge (tgt := 42) hx hb dX8_add_9 (by decide) (fun c9 => absurd c9 (by decide)) (fun _ => ?_)
  refine lv_aload_n hx hb dX8_add_12 rfl (lv_at hl 0 rfl) ?_
  refine va_get (ci := 8) (v := .ref a) (C := RX8) (T := TX8) (N := 3) hx hb ht iX8 hown hK hP 0 rfl rfl 0 (by decide) (ht _ k_29) (fun _ h9 => h9) rfl dX8_add_13 ?_
  refine lv_aload_n hx hb dX8_add_16 rfl (lv_at hl 0 rfl) ?_
  refine va_get (ci := 8) (v := .int 0) (C := RX8) (T := TX8) (N := 3) hx hb ht iX8 hown hK hP 0 rfl rfl 2 (by decide) (ht _ k_120) (fun _ h9 => h9) rfl dX8_add_17 ?_
  refine lv_iload_n hx hb dX8_add_20 rfl (lv_at hl 1 rfl) ?_
  refine ow_iast hx hb hK hP hD hS 1 rfl (in_lit (by decide +kernel)) dX8_add_21 (fun f_1 H locs hP hD hS => ?_)
  have hP : va_P G vwCl [(h, .inr (8, [.ref a, .ref b, .int 0])), (a, .inl (cy 0, 40, .inl f_1)), (b, .inl (cy 0, 40, .inl g))] H := hP
  have hD : va_D A [(h, .inr (8, [.ref a, .ref b, .int 0])), (a, .inl (cy 0, 40, .inl f_1)), (b, .inl (cy 0, 40, .inl g))] := hD
  refine lv_aload_n hx hb dX8_add_22 rfl (lv_at hl 0 rfl) ?_
  refine va_get (ci := 8) (v := .ref b) (C := RX8) (T := TX8) (N := 3) hx hb ht iX8 hown hK hP 0 rfl rfl 1 (by decide) (ht _ k_30) (fun _ h9 => h9) rfl dX8_add_23 ?_
  refine lv_aload_n hx hb dX8_add_26 rfl (lv_at hl 0 rfl) ?_
  refine va_get (ci := 8) (v := .int 0) (C := RX8) (T := TX8) (N := 3) hx hb ht iX8 hown hK hP 0 rfl rfl 2 (by decide) (ht _ k_120) (fun _ h9 => h9) rfl dX8_add_27 ?_
  refine lv_iload_n hx hb dX8_add_30 rfl (lv_at hl 2 rfl) ?_
  refine ow_iast hx hb hK hP hD hS 2 rfl (in_lit (by decide +kernel)) dX8_add_31 (fun f_2 H locs hP hD hS => ?_)
  have hP : va_P G vwCl [(h, .inr (8, [.ref a, .ref b, .int 0])), (a, .inl (cy 0, 40, .inl f_1)), (b, .inl (cy 0, 40, .inl f_2))] H := hP
  have hD : va_D A [(h, .inr (8, [.ref a, .ref b, .int 0])), (a, .inl (cy 0, 40, .inl f_1)), (b, .inl (cy 0, 40, .inl f_2))] := hD
  refine lv_aload_n hx hb dX8_add_32 rfl (lv_at hl 0 rfl) ?_
  refine lv_dup hx hb dX8_add_33 rfl ?_
  refine va_get (ci := 8) (v := .int 0) (C := RX8) (T := TX8) (N := 3) hx hb ht iX8 hown hK hP 0 rfl rfl 2 (by decide) (ht _ k_120) (fun _ h9 => h9) rfl dX8_add_34 ?_
  refine lv_iconst (v := 1) hx hb dX8_add_37 (by decide) ?_
  refine lv_iadd hx hb dX8_add_38 ?_
  refine ow_top 1 (by decide +kernel) ?_
  refine va_put (ci := 8) (v := .int 1) (ty := .int) (C := RX8) (T := TX8) (N := 3) hx hb ht iX8 tyX8 tyX8_ok nmX8 hown hK hP hD hS 0 rfl rfl 2 (by decide) (ht _ k_120) (fun _ h9 => h9) rfl (by decide +kernel) rfl rfl (Nat.le_of_ble_eq_true rfl) dX8_add_39 (fun H locs hP hD hS => ?_)
  have hP : va_P G vwCl [(h, .inr (8, [.ref a, .ref b, .int 1])), (a, .inl (cy 0, 40, .inl f_1)), (b, .inl (cy 0, 40, .inl f_2))] H := hP
  have hD : va_D A [(h, .inr (8, [.ref a, .ref b, .int 1])), (a, .inl (cy 0, 40, .inl f_1)), (b, .inl (cy 0, 40, .inl f_2))] := hD
  refine W.widen (k := 0) (n := 0) (Nat.le_of_ble_eq_true rfl) (Nat.le_of_ble_eq_true rfl) ?_
  have hP9 : va_P G vwCl [(h, .inr (8, [.ref a, .ref b, .int 1])), (a, .inl (cy 0, 40, .inl ((lsf [f_1, f_2]) 0))), (b, .inl (cy 0, 40, .inl ((lsf [f_1, f_2]) 1)))] _ := hP.sub [0, 1, 2] rfl
  have hD9 : va_D A [(h, .inr (8, [.ref a, .ref b, .int 1])), (a, .inl (cy 0, 40, .inl ((lsf [f_1, f_2]) 0))), (b, .inl (cy 0, 40, .inl ((lsf [f_1, f_2]) 1)))] := hD.sub [0, 1, 2] (by decide) rfl
  exact W.vret hx hb hr (fun t ht9 hW => ⟨⟨(lsf [f_1, f_2]), rfl, trivial, ⟨by rw [ht9]; exact hP9, hD9⟩⟩, hS.F ht9⟩) hS.2.2 dX8_add_42
set_option maxHeartbeats 4000000 in
set_option maxRecDepth 100000 in
theorem c_songLike (l : Launch) (G : va_G) (cy : Nat → ClassId) (sz : Nat) (h : Nat) (o : Nat) (v0 : Value) (v1 : Value) (w0 : Value) (w1 : Value)  : Met l yX8_becomeLike (.code yX8_becomeLike cX8_becomeLike 3 none :: TBg) ({ frames := 1, cells := 0, slots := 0, locals := 64 }) (va_Pc [.ref h, .ref o] (En G cy [(h, .inr (8, [v0, v1, .int 0])), (o, .inr (8, [w0, w1, .int 0]))] sz)) (va_Qv (fun u : Unit => True) (fun u t => Ex G (va_A [(h, .inr (8, [v0, v1, .int 0])), (o, .inr (8, [w0, w1, .int 0]))] sz) [(h, .inr (8, [v0, v1, .int 0])), (o, .inr (8, [w0, w1, .int 0]))] t) (va_A [(h, .inr (8, [v0, v1, .int 0])), (o, .inr (8, [w0, w1, .int 0]))] sz)) 0 0 (va_A [(h, .inr (8, [v0, v1, .int 0])), (o, .inr (8, [w0, w1, .int 0]))] sz) := by
  refine Met.ofW (cc := cX8_becomeLike) (maxL := 3) (ret := none) (by decide) rfl ?_
  intro p e s m args below meth c s₁ B hml hv
  obtain ⟨rfl, hsz, hP, hK, hD0, hN⟩ := hv
  have hx := B.exec
  have hb := B.bytes
  have hr := B.returns
  have hts := atoms_spec (ws := .code yX8_becomeLike cX8_becomeLike 3 none :: TBg) B.pre
  have ht : ∀ w ∈ TBg, w.before _ s = true := fun w h => hts w (List.mem_cons_of_mem _ h)
  have hown : s.vm.findClass RX8 = some m.cls := findClass_of_methodNamed B.named
  have hlocks := B.notSynchronized
  subst hsz
  have hD := hD0.self (sz := s.heap.size)
  generalize hAe : va_A [(h, .inr (8, [v0, v1, .int 0])), (o, .inr (8, [w0, w1, .int 0]))] s.heap.size = A at hD ⊢
  have hA : ∀ q : Nat, s.heap.size ≤ q → A q := fun q h => by rw [← hAe]; exact Or.inr h
  have hS : va_S A s.heap s.heap [] := va_S.rf
  have hl := lv_entry ([.ref h, .ref o]) (n := 3) (Nat.le_of_ble_eq_true rfl)
  rw [lg_entry_eq]
  generalize (lg_sl ([.ref h, .ref o]) ++ List.replicate (3 - (lg_sl ([.ref h, .ref o])).length) Slot.unset).toArray = ls at hl ⊢
  have hl : lv_has ls 3 [(0, .ref h), (1, .ref o)] := hl
  refine lv_aload_n hx hb dX8_becomeLike_0 rfl (lv_at hl 0 rfl) ?_
  refine lv_iconst (v := 0) hx hb dX8_becomeLike_1 (by decide) ?_
  refine va_put (ci := 8) (v := .int 0) (ty := .int) (C := RX8) (T := TX8) (N := 3) hx hb ht iX8 tyX8 tyX8_ok nmX8 hown hK hP hD hS 0 rfl rfl 2 (by decide) (ht _ k_120) (fun _ h9 => h9) rfl (by decide +kernel) rfl rfl (Nat.le_of_ble_eq_true rfl) dX8_becomeLike_2 (fun H locs hP hD hS => ?_)
  have hP : va_P G vwCl [(h, .inr (8, [v0, v1, .int 0])), (o, .inr (8, [w0, w1, .int 0]))] H := hP
  have hD : va_D A [(h, .inr (8, [v0, v1, .int 0])), (o, .inr (8, [w0, w1, .int 0]))] := hD
  refine lv_iconst (v := 0) hx hb dX8_becomeLike_5 (by decide) ?_
  refine lv_istore_n (lv' := [(2, .int 0), (0, .ref h), (1, .ref o)]) hx hb dX8_becomeLike_6 rfl hl (by decide) rfl (fun ls hl => ?_)
  refine lv_iload_n hx hb dX8_becomeLike_7 rfl (lv_at hl 0 rfl) ?_
  refine lv_aload_n hx hb dX8_becomeLike_8 rfl (lv_at hl 2 rfl) ?_
  refine va_get (ci := 8) (v := .int 0) (C := RX8) (T := TX8) (N := 3) hx hb ht iX8 hown hK hP 1 rfl rfl 2 (by decide) (ht _ k_120) (fun _ h9 => h9) rfl dX8_becomeLike_9 ?_
  refine lv_icmp_ge (tgt := 37) hx hb dX8_becomeLike_12 (by decide) (fun _ => ?_) (fun c9 => absurd (by decide) c9)
  refine W.widen (k := 0) (n := 0) (Nat.le_of_ble_eq_true rfl) (Nat.le_of_ble_eq_true rfl) ?_
  have hP9 : va_P G vwCl [(h, .inr (8, [v0, v1, .int 0])), (o, .inr (8, [w0, w1, .int 0]))] _ := hP.sub [0, 1] rfl
  have hD9 : va_D A [(h, .inr (8, [v0, v1, .int 0])), (o, .inr (8, [w0, w1, .int 0]))] := hD.sub [0, 1] (by decide) rfl
  exact W.vret hx hb hr (fun t ht9 hW => ⟨⟨(), rfl, trivial, ⟨by rw [ht9]; exact hP9, hD9⟩⟩, hS.F ht9⟩) hS.2.2 dX8_becomeLike_37
set_option maxHeartbeats 4000000 in
set_option maxRecDepth 100000 in
theorem c_fill (l : Launch) (G : va_G) (cy : Nat → ClassId) (sz : Nat) (a : Nat) (f : Nat → Int32)  : Met l yJ7_fill_53178 (.code yJ7_fill_53178 cJ7_fill_53178 4 none :: TBg) ({ frames := 1, cells := 0, slots := 0, locals := 64 }) (va_Pc [.ref a, .int 0] (En G cy [(a, .inl (cy 0, 8, .inl f))] sz)) (va_Qv (fun u : Nat → Nat → Int32 => True) (fun u t => Ex G (va_A [(a, .inl (cy 0, 8, .inl f))] sz) [(a, .inl (cy 0, 8, .inl (u 0)))] t) (va_A [(a, .inl (cy 0, 8, .inl f))] sz)) 0 0 (va_A [(a, .inl (cy 0, 8, .inl f))] sz) := by
  refine Met.ofW (cc := cJ7_fill_53178) (maxL := 4) (ret := none) (by decide) rfl ?_
  intro p e s m args below meth c s₁ B hml hv
  obtain ⟨rfl, hsz, hP, hK, hD0, hN⟩ := hv
  have hx := B.exec
  have hb := B.bytes
  have hr := B.returns
  have hts := atoms_spec (ws := .code yJ7_fill_53178 cJ7_fill_53178 4 none :: TBg) B.pre
  have ht : ∀ w ∈ TBg, w.before _ s = true := fun w h => hts w (List.mem_cons_of_mem _ h)
  have hown : s.vm.findClass RJ7 = some m.cls := findClass_of_methodNamed B.named
  have hlocks := B.notSynchronized
  subst hsz
  have hD := hD0.self (sz := s.heap.size)
  generalize hAe : va_A [(a, .inl (cy 0, 8, .inl f))] s.heap.size = A at hD ⊢
  have hA : ∀ q : Nat, s.heap.size ≤ q → A q := fun q h => by rw [← hAe]; exact Or.inr h
  have hS : va_S A s.heap s.heap [] := va_S.rf
  have hl := lv_entry ([.ref a, .int 0]) (n := 4) (Nat.le_of_ble_eq_true rfl)
  rw [lg_entry_eq]
  generalize (lg_sl ([.ref a, .int 0]) ++ List.replicate (4 - (lg_sl ([.ref a, .int 0])).length) Slot.unset).toArray = ls at hl ⊢
  have hl : lv_has ls 4 [(0, .ref a), (1, .int 0)] := hl
  refine lv_iconst (v := 0) hx hb dJ7_fill_53178_0 (by decide) ?_
  refine lv_istore_n (lv' := [(2, .int 0), (0, .ref a), (1, .int 0)]) hx hb dJ7_fill_53178_1 rfl hl (by decide) rfl (fun ls hl => ?_)
  refine lv_aload_n hx hb dJ7_fill_53178_2 rfl (lv_at hl 1 rfl) ?_
  refine va_alen (v := 8) hx hb hK hP 0 0 rfl rfl rfl dJ7_fill_53178_3 ?_
  refine lv_istore_n (lv' := [(3, .int 8), (2, .int 0), (0, .ref a), (1, .int 0)]) hx hb dJ7_fill_53178_4 rfl hl (by decide) rfl (fun ls hl => ?_)
  refine lv_iload_n hx hb dJ7_fill_53178_5 rfl (lv_at hl 1 rfl) ?_
  refine lv_iload_n hx hb dJ7_fill_53178_6 rfl (lv_at hl 0 rfl) ?_
  refine lv_icmp_ge (tgt := 20) hx hb dJ7_fill_53178_7 (by decide) (fun c9 => absurd c9 (by decide)) (fun _ => ?_)
  refine lv_aload_n hx hb dJ7_fill_53178_10 rfl (lv_at hl 2 rfl) ?_
  refine lv_iload_n hx hb dJ7_fill_53178_11 rfl (lv_at hl 1 rfl) ?_
  refine lv_iload_n hx hb dJ7_fill_53178_12 rfl (lv_at hl 3 rfl) ?_
  refine ow_iast hx hb hK hP hD hS 0 rfl (in_lit (by decide +kernel)) dJ7_fill_53178_13 (fun f_1 H locs hP hD hS => ?_)
  have hP : va_P G vwCl [(a, .inl (cy 0, 8, .inl f_1))] H := hP
  have hD : va_D A [(a, .inl (cy 0, 8, .inl f_1))] := hD
  refine lv_iinc (v := 1) (lv' := [(2, .int 1), (3, .int 8), (0, .ref a), (1, .int 0)]) hx hb dJ7_fill_53178_14 hl (k := 1) rfl (by decide) (by decide) rfl (fun ls hl => ?_)
  refine lv_goto (tgt := 5) hx hb dJ7_fill_53178_17 (by decide) ?_
  refine lv_iload_n hx hb dJ7_fill_53178_5 rfl (lv_at hl 0 rfl) ?_
  refine lv_iload_n hx hb dJ7_fill_53178_6 rfl (lv_at hl 1 rfl) ?_
  refine lv_icmp_ge (tgt := 20) hx hb dJ7_fill_53178_7 (by decide) (fun c9 => absurd c9 (by decide)) (fun _ => ?_)
  refine lv_aload_n hx hb dJ7_fill_53178_10 rfl (lv_at hl 2 rfl) ?_
  refine lv_iload_n hx hb dJ7_fill_53178_11 rfl (lv_at hl 0 rfl) ?_
  refine lv_iload_n hx hb dJ7_fill_53178_12 rfl (lv_at hl 3 rfl) ?_
  refine ow_iast hx hb hK hP hD hS 0 rfl (in_lit (by decide +kernel)) dJ7_fill_53178_13 (fun f_2 H locs hP hD hS => ?_)
  have hP : va_P G vwCl [(a, .inl (cy 0, 8, .inl f_2))] H := hP
  have hD : va_D A [(a, .inl (cy 0, 8, .inl f_2))] := hD
  refine lv_iinc (v := 2) (lv' := [(2, .int 2), (3, .int 8), (0, .ref a), (1, .int 0)]) hx hb dJ7_fill_53178_14 hl (k := 0) rfl (by decide) (by decide) rfl (fun ls hl => ?_)
  refine lv_goto (tgt := 5) hx hb dJ7_fill_53178_17 (by decide) ?_
  refine lv_iload_n hx hb dJ7_fill_53178_5 rfl (lv_at hl 0 rfl) ?_
  refine lv_iload_n hx hb dJ7_fill_53178_6 rfl (lv_at hl 1 rfl) ?_
  refine lv_icmp_ge (tgt := 20) hx hb dJ7_fill_53178_7 (by decide) (fun c9 => absurd c9 (by decide)) (fun _ => ?_)
  refine lv_aload_n hx hb dJ7_fill_53178_10 rfl (lv_at hl 2 rfl) ?_
  refine lv_iload_n hx hb dJ7_fill_53178_11 rfl (lv_at hl 0 rfl) ?_
  refine lv_iload_n hx hb dJ7_fill_53178_12 rfl (lv_at hl 3 rfl) ?_
  refine ow_iast hx hb hK hP hD hS 0 rfl (in_lit (by decide +kernel)) dJ7_fill_53178_13 (fun f_3 H locs hP hD hS => ?_)
  have hP : va_P G vwCl [(a, .inl (cy 0, 8, .inl f_3))] H := hP
  have hD : va_D A [(a, .inl (cy 0, 8, .inl f_3))] := hD
  refine lv_iinc (v := 3) (lv' := [(2, .int 3), (3, .int 8), (0, .ref a), (1, .int 0)]) hx hb dJ7_fill_53178_14 hl (k := 0) rfl (by decide) (by decide) rfl (fun ls hl => ?_)
  refine lv_goto (tgt := 5) hx hb dJ7_fill_53178_17 (by decide) ?_
  refine lv_iload_n hx hb dJ7_fill_53178_5 rfl (lv_at hl 0 rfl) ?_
  refine lv_iload_n hx hb dJ7_fill_53178_6 rfl (lv_at hl 1 rfl) ?_
  refine lv_icmp_ge (tgt := 20) hx hb dJ7_fill_53178_7 (by decide) (fun c9 => absurd c9 (by decide)) (fun _ => ?_)
  refine lv_aload_n hx hb dJ7_fill_53178_10 rfl (lv_at hl 2 rfl) ?_
  refine lv_iload_n hx hb dJ7_fill_53178_11 rfl (lv_at hl 0 rfl) ?_
  refine lv_iload_n hx hb dJ7_fill_53178_12 rfl (lv_at hl 3 rfl) ?_
  refine ow_iast hx hb hK hP hD hS 0 rfl (in_lit (by decide +kernel)) dJ7_fill_53178_13 (fun f_4 H locs hP hD hS => ?_)
  have hP : va_P G vwCl [(a, .inl (cy 0, 8, .inl f_4))] H := hP
  have hD : va_D A [(a, .inl (cy 0, 8, .inl f_4))] := hD
  refine lv_iinc (v := 4) (lv' := [(2, .int 4), (3, .int 8), (0, .ref a), (1, .int 0)]) hx hb dJ7_fill_53178_14 hl (k := 0) rfl (by decide) (by decide) rfl (fun ls hl => ?_)
  refine lv_goto (tgt := 5) hx hb dJ7_fill_53178_17 (by decide) ?_
  refine lv_iload_n hx hb dJ7_fill_53178_5 rfl (lv_at hl 0 rfl) ?_
  refine lv_iload_n hx hb dJ7_fill_53178_6 rfl (lv_at hl 1 rfl) ?_
  refine lv_icmp_ge (tgt := 20) hx hb dJ7_fill_53178_7 (by decide) (fun c9 => absurd c9 (by decide)) (fun _ => ?_)
  refine lv_aload_n hx hb dJ7_fill_53178_10 rfl (lv_at hl 2 rfl) ?_
  refine lv_iload_n hx hb dJ7_fill_53178_11 rfl (lv_at hl 0 rfl) ?_
  refine lv_iload_n hx hb dJ7_fill_53178_12 rfl (lv_at hl 3 rfl) ?_
  refine ow_iast hx hb hK hP hD hS 0 rfl (in_lit (by decide +kernel)) dJ7_fill_53178_13 (fun f_5 H locs hP hD hS => ?_)
  have hP : va_P G vwCl [(a, .inl (cy 0, 8, .inl f_5))] H := hP
  have hD : va_D A [(a, .inl (cy 0, 8, .inl f_5))] := hD
  refine lv_iinc (v := 5) (lv' := [(2, .int 5), (3, .int 8), (0, .ref a), (1, .int 0)]) hx hb dJ7_fill_53178_14 hl (k := 0) rfl (by decide) (by decide) rfl (fun ls hl => ?_)
  refine lv_goto (tgt := 5) hx hb dJ7_fill_53178_17 (by decide) ?_
  refine lv_iload_n hx hb dJ7_fill_53178_5 rfl (lv_at hl 0 rfl) ?_
  refine lv_iload_n hx hb dJ7_fill_53178_6 rfl (lv_at hl 1 rfl) ?_
  refine lv_icmp_ge (tgt := 20) hx hb dJ7_fill_53178_7 (by decide) (fun c9 => absurd c9 (by decide)) (fun _ => ?_)
  refine lv_aload_n hx hb dJ7_fill_53178_10 rfl (lv_at hl 2 rfl) ?_
  refine lv_iload_n hx hb dJ7_fill_53178_11 rfl (lv_at hl 0 rfl) ?_
  refine lv_iload_n hx hb dJ7_fill_53178_12 rfl (lv_at hl 3 rfl) ?_
  refine ow_iast hx hb hK hP hD hS 0 rfl (in_lit (by decide +kernel)) dJ7_fill_53178_13 (fun f_6 H locs hP hD hS => ?_)
  have hP : va_P G vwCl [(a, .inl (cy 0, 8, .inl f_6))] H := hP
  have hD : va_D A [(a, .inl (cy 0, 8, .inl f_6))] := hD
  refine lv_iinc (v := 6) (lv' := [(2, .int 6), (3, .int 8), (0, .ref a), (1, .int 0)]) hx hb dJ7_fill_53178_14 hl (k := 0) rfl (by decide) (by decide) rfl (fun ls hl => ?_)
  refine lv_goto (tgt := 5) hx hb dJ7_fill_53178_17 (by decide) ?_
  refine lv_iload_n hx hb dJ7_fill_53178_5 rfl (lv_at hl 0 rfl) ?_
  refine lv_iload_n hx hb dJ7_fill_53178_6 rfl (lv_at hl 1 rfl) ?_
  refine lv_icmp_ge (tgt := 20) hx hb dJ7_fill_53178_7 (by decide) (fun c9 => absurd c9 (by decide)) (fun _ => ?_)
  refine lv_aload_n hx hb dJ7_fill_53178_10 rfl (lv_at hl 2 rfl) ?_
  refine lv_iload_n hx hb dJ7_fill_53178_11 rfl (lv_at hl 0 rfl) ?_
  refine lv_iload_n hx hb dJ7_fill_53178_12 rfl (lv_at hl 3 rfl) ?_
  refine ow_iast hx hb hK hP hD hS 0 rfl (in_lit (by decide +kernel)) dJ7_fill_53178_13 (fun f_7 H locs hP hD hS => ?_)
  have hP : va_P G vwCl [(a, .inl (cy 0, 8, .inl f_7))] H := hP
  have hD : va_D A [(a, .inl (cy 0, 8, .inl f_7))] := hD
  refine lv_iinc (v := 7) (lv' := [(2, .int 7), (3, .int 8), (0, .ref a), (1, .int 0)]) hx hb dJ7_fill_53178_14 hl (k := 0) rfl (by decide) (by decide) rfl (fun ls hl => ?_)
  refine lv_goto (tgt := 5) hx hb dJ7_fill_53178_17 (by decide) ?_
  refine lv_iload_n hx hb dJ7_fill_53178_5 rfl (lv_at hl 0 rfl) ?_
  refine lv_iload_n hx hb dJ7_fill_53178_6 rfl (lv_at hl 1 rfl) ?_
  refine lv_icmp_ge (tgt := 20) hx hb dJ7_fill_53178_7 (by decide) (fun c9 => absurd c9 (by decide)) (fun _ => ?_)
  refine lv_aload_n hx hb dJ7_fill_53178_10 rfl (lv_at hl 2 rfl) ?_
  refine lv_iload_n hx hb dJ7_fill_53178_11 rfl (lv_at hl 0 rfl) ?_
  refine lv_iload_n hx hb dJ7_fill_53178_12 rfl (lv_at hl 3 rfl) ?_
  refine ow_iast hx hb hK hP hD hS 0 rfl (in_lit (by decide +kernel)) dJ7_fill_53178_13 (fun f_8 H locs hP hD hS => ?_)
  have hP : va_P G vwCl [(a, .inl (cy 0, 8, .inl f_8))] H := hP
  have hD : va_D A [(a, .inl (cy 0, 8, .inl f_8))] := hD
  refine lv_iinc (v := 8) (lv' := [(2, .int 8), (3, .int 8), (0, .ref a), (1, .int 0)]) hx hb dJ7_fill_53178_14 hl (k := 0) rfl (by decide) (by decide) rfl (fun ls hl => ?_)
  refine lv_goto (tgt := 5) hx hb dJ7_fill_53178_17 (by decide) ?_
  refine lv_iload_n hx hb dJ7_fill_53178_5 rfl (lv_at hl 0 rfl) ?_
  refine lv_iload_n hx hb dJ7_fill_53178_6 rfl (lv_at hl 1 rfl) ?_
  refine lv_icmp_ge (tgt := 20) hx hb dJ7_fill_53178_7 (by decide) (fun _ => ?_) (fun c9 => absurd (by decide) c9)
  refine W.widen (k := 0) (n := 0) (Nat.le_of_ble_eq_true rfl) (Nat.le_of_ble_eq_true rfl) ?_
  have hP9 : va_P G vwCl [(a, .inl (cy 0, 8, .inl ((lsf [f_8]) 0)))] _ := hP.sub [0] rfl
  have hD9 : va_D A [(a, .inl (cy 0, 8, .inl ((lsf [f_8]) 0)))] := hD.sub [0] (by decide) rfl
  exact W.vret hx hb hr (fun t ht9 hW => ⟨⟨(lsf [f_8]), rfl, trivial, ⟨by rw [ht9]; exact hP9, hD9⟩⟩, hS.F ht9⟩) hS.2.2 dJ7_fill_53178_20
set_option maxHeartbeats 4000000 in
set_option maxRecDepth 100000 in
theorem c_sceneClear (l : Launch) (G : va_G) (cy : Nat → ClassId) (sz : Nat) (h : Nat) (a : Nat) (w : Nat) (f : Nat → Int32) (v0 : Value) (v1 : Value)  : Met l yX7_clear (.code yX7_clear cX7_clear 1 none :: TBg) ({ frames := 2, cells := 0, slots := 0, locals := 128 }) (va_Pc [.ref h] (En G cy [(h, .inr (7, [.ref a, .int 0, .int 0, .ref w, .int 0])), (a, .inr (8, [v0, v1, .int 0])), (w, .inl (cy 0, 8, .inl f))] sz)) (va_Qv (fun u : Nat → Nat → Int32 => True) (fun u t => Ex G (va_A [(h, .inr (7, [.ref a, .int 0, .int 0, .ref w, .int 0])), (a, .inr (8, [v0, v1, .int 0])), (w, .inl (cy 0, 8, .inl f))] sz) [(h, .inr (7, [.ref a, .int 0, .int 0, .ref w, .int 0])), (a, .inr (8, [v0, v1, .int 0])), (w, .inl (cy 0, 8, .inl (u 0)))] t) (va_A [(h, .inr (7, [.ref a, .int 0, .int 0, .ref w, .int 0])), (a, .inr (8, [v0, v1, .int 0])), (w, .inl (cy 0, 8, .inl f))] sz)) 0 0 (va_A [(h, .inr (7, [.ref a, .int 0, .int 0, .ref w, .int 0])), (a, .inr (8, [v0, v1, .int 0])), (w, .inl (cy 0, 8, .inl f))] sz) := by
  refine Met.ofW (cc := cX7_clear) (maxL := 1) (ret := none) (by decide) rfl ?_
  intro p e s m args below meth c s₁ B hml hv
  obtain ⟨rfl, hsz, hP, hK, hD0, hN⟩ := hv
  have hx := B.exec
  have hb := B.bytes
  have hr := B.returns
  have hts := atoms_spec (ws := .code yX7_clear cX7_clear 1 none :: TBg) B.pre
  have ht : ∀ w ∈ TBg, w.before _ s = true := fun w h => hts w (List.mem_cons_of_mem _ h)
  have hown : s.vm.findClass RX7 = some m.cls := findClass_of_methodNamed B.named
  have hlocks := B.notSynchronized
  subst hsz
  have hD := hD0.self (sz := s.heap.size)
  generalize hAe : va_A [(h, .inr (7, [.ref a, .int 0, .int 0, .ref w, .int 0])), (a, .inr (8, [v0, v1, .int 0])), (w, .inl (cy 0, 8, .inl f))] s.heap.size = A at hD ⊢
  have hA : ∀ q : Nat, s.heap.size ≤ q → A q := fun q h => by rw [← hAe]; exact Or.inr h
  have hS : va_S A s.heap s.heap [] := va_S.rf
  have hl := lv_entry ([.ref h]) (n := 1) (Nat.le_of_ble_eq_true rfl)
  rw [lg_entry_eq]
  generalize (lg_sl ([.ref h]) ++ List.replicate (1 - (lg_sl ([.ref h])).length) Slot.unset).toArray = ls at hl ⊢
  have hl : lv_has ls 1 [(0, .ref h)] := hl
  refine lv_aload_n hx hb dX7_clear_0 rfl (lv_at hl 0 rfl) ?_
  refine va_get (ci := 7) (v := .ref a) (C := RX7) (T := TX7) (N := 5) hx hb ht iX7 hown hK hP 0 rfl rfl 0 (by decide) (ht _ k_45) (fun _ h9 => h9) rfl dX7_clear_1 ?_
  refine lv_iconst (v := 0) hx hb dX7_clear_4 (by decide) ?_
  refine va_putN (host := "TuneLocks") (ci := 8) (v := .int 0) (ty := .int) (C := RX8) (T := TX8) (N := 3) hx hb ht iX8 tyX8 tyX8_ok nmX8 hown hK hP hD hS 1 rfl rfl 2 (by decide) (va_Nw.use rfl (hN.1 _ ns_50)) (fun _ h9 => h9) rfl (by decide +kernel) rfl rfl (Nat.le_of_ble_eq_true rfl) dX7_clear_5 (fun H locs hP hD hS => ?_)
  have hP : va_P G vwCl [(h, .inr (7, [.ref a, .int 0, .int 0, .ref w, .int 0])), (a, .inr (8, [v0, v1, .int 0])), (w, .inl (cy 0, 8, .inl f))] H := hP
  have hD : va_D A [(h, .inr (7, [.ref a, .int 0, .int 0, .ref w, .int 0])), (a, .inr (8, [v0, v1, .int 0])), (w, .inl (cy 0, 8, .inl f))] := hD
  refine lv_aload_n hx hb dX7_clear_8 rfl (lv_at hl 0 rfl) ?_
  refine lv_iconst (v := 0) hx hb dX7_clear_9 (by decide) ?_
  refine va_put (ci := 7) (v := .int 0) (ty := .boolean) (C := RX7) (T := TX7) (N := 5) hx hb ht iX7 tyX7 tyX7_ok nmX7 hown hK hP hD hS 0 rfl rfl 1 (by decide) (ht _ k_121) (fun _ h9 => h9) rfl (by decide +kernel) rfl rfl (Nat.le_of_ble_eq_true rfl) dX7_clear_10 (fun H locs hP hD hS => ?_)
  have hP : va_P G vwCl [(h, .inr (7, [.ref a, .int 0, .int 0, .ref w, .int 0])), (a, .inr (8, [v0, v1, .int 0])), (w, .inl (cy 0, 8, .inl f))] H := hP
  have hD : va_D A [(h, .inr (7, [.ref a, .int 0, .int 0, .ref w, .int 0])), (a, .inr (8, [v0, v1, .int 0])), (w, .inl (cy 0, 8, .inl f))] := hD
  refine lv_aload_n hx hb dX7_clear_13 rfl (lv_at hl 0 rfl) ?_
  refine lv_iconst (v := 0) hx hb dX7_clear_14 (by decide) ?_
  refine va_put (ci := 7) (v := .int 0) (ty := .int) (C := RX7) (T := TX7) (N := 5) hx hb ht iX7 tyX7 tyX7_ok nmX7 hown hK hP hD hS 0 rfl rfl 2 (by decide) (ht _ k_122) (fun _ h9 => h9) rfl (by decide +kernel) rfl rfl (Nat.le_of_ble_eq_true rfl) dX7_clear_15 (fun H locs hP hD hS => ?_)
  have hP : va_P G vwCl [(h, .inr (7, [.ref a, .int 0, .int 0, .ref w, .int 0])), (a, .inr (8, [v0, v1, .int 0])), (w, .inl (cy 0, 8, .inl f))] H := hP
  have hD : va_D A [(h, .inr (7, [.ref a, .int 0, .int 0, .ref w, .int 0])), (a, .inr (8, [v0, v1, .int 0])), (w, .inl (cy 0, 8, .inl f))] := hD
  refine lv_aload_n hx hb dX7_clear_18 rfl (lv_at hl 0 rfl) ?_
  refine va_get (ci := 7) (v := .ref w) (C := RX7) (T := TX7) (N := 5) hx hb ht iX7 hown hK hP 0 rfl rfl 3 (by decide) (ht _ k_46) (fun _ h9 => h9) rfl dX7_clear_19 ?_
  refine lv_iconst (v := 0) hx hb dX7_clear_22 (by decide) ?_
  have hFc := va_free (wc := [(w, .inl (cy 0, 8, .inl f))]) hD hS hA [2] rfl
  have hPc := hP.sub (ws' := [(w, .inl (cy 0, 8, .inl f))]) [2] rfl
  have hDc := hD.sub (ws' := [(w, .inl (cy 0, 8, .inl f))]) [2] (by decide) rfl
  refine va_callv (va_runS (As := [.ref w, .int 0]) (rest := []) ⟨hx, hb, hml, hown, ht⟩ (c_fill l G cy _ w f ) (va_cwS 2 ht (gs k_124 k_125 k_126 k_123) rfl rfl rfl (by decide +kernel) ⟨Nat.le_of_ble_eq_true rfl, Nat.le_of_ble_eq_true rfl⟩) ⟨En.blind, fun U hU hW => ⟨rfl, En.of hU hW hPc hK hDc hN⟩⟩ rfl rfl hl.1 rfl (lv_room (Nat.le_of_ble_eq_true rfl)) dX7_clear_23 ⟨Nat.le_of_ble_eq_true rfl, Nat.le_of_ble_eq_true rfl⟩) hS (fun q _ h => hFc q h) hFc (fun u_1 t H locs ht9 hvm hw hB hz1 hk1 hS => ?_)
  obtain ⟨hP1, hD1⟩ := hB
  rw [ht9] at hP1
  obtain ⟨hP, hD⟩ := fr_put (wc := [(w, .inl (cy 0, 8, .inl f))]) (w1 := [(w, .inl (cy 0, 8, .inl (u_1 0)))]) hP hD [2] rfl rfl rfl hk1 hP1
  clear hFc hPc hDc hP1 hD1 hz1 hk1
  have hP : va_P G vwCl [(h, .inr (7, [.ref a, .int 0, .int 0, .ref w, .int 0])), (a, .inr (8, [v0, v1, .int 0])), (w, .inl (cy 0, 8, .inl (u_1 0)))] H := hP
  have hD : va_D A [(h, .inr (7, [.ref a, .int 0, .int 0, .ref w, .int 0])), (a, .inr (8, [v0, v1, .int 0])), (w, .inl (cy 0, 8, .inl (u_1 0)))] := hD
  refine lv_aload_n hx hb dX7_clear_26 rfl (lv_at hl 0 rfl) ?_
  refine lv_iconst (v := 0) hx hb dX7_clear_27 (by decide) ?_
  refine va_put (ci := 7) (v := .int 0) (ty := .boolean) (C := RX7) (T := TX7) (N := 5) hx hb ht iX7 tyX7 tyX7_ok nmX7 hown hK hP hD hS 0 rfl rfl 4 (by decide) (ht _ k_127) (fun _ h9 => h9) rfl (by decide +kernel) rfl rfl (Nat.le_of_ble_eq_true rfl) dX7_clear_28 (fun H locs hP hD hS => ?_)
  have hP : va_P G vwCl [(h, .inr (7, [.ref a, .int 0, .int 0, .ref w, .int 0])), (a, .inr (8, [v0, v1, .int 0])), (w, .inl (cy 0, 8, .inl (u_1 0)))] H := hP
  have hD : va_D A [(h, .inr (7, [.ref a, .int 0, .int 0, .ref w, .int 0])), (a, .inr (8, [v0, v1, .int 0])), (w, .inl (cy 0, 8, .inl (u_1 0)))] := hD
  refine W.widen (k := 0) (n := 0) (Nat.le_of_ble_eq_true rfl) (Nat.le_of_ble_eq_true rfl) ?_
  have hP9 : va_P G vwCl [(h, .inr (7, [.ref a, .int 0, .int 0, .ref w, .int 0])), (a, .inr (8, [v0, v1, .int 0])), (w, .inl (cy 0, 8, .inl ((lsf [(u_1 0)]) 0)))] _ := hP.sub [0, 1, 2] rfl
  have hD9 : va_D A [(h, .inr (7, [.ref a, .int 0, .int 0, .ref w, .int 0])), (a, .inr (8, [v0, v1, .int 0])), (w, .inl (cy 0, 8, .inl ((lsf [(u_1 0)]) 0)))] := hD.sub [0, 1, 2] (by decide) rfl
  exact W.vret hx hb hr (fun t ht9 hW => ⟨⟨(lsf [(u_1 0)]), rfl, trivial, ⟨by rw [ht9]; exact hP9, hD9⟩⟩, hS.F ht9⟩) hS.2.2 dX7_clear_31
set_option maxHeartbeats 4000000 in
set_option maxRecDepth 100000 in
theorem c_sceneLike (l : Launch) (G : va_G) (cy : Nat → ClassId) (sz : Nat) (h : Nat) (o : Nat) (a : Nat) (w : Nat) (b : Nat) (z : Nat) (f : Nat → Int32) (g : Nat → Int32) (v0 : Value) (v1 : Value) (w0 : Value) (w1 : Value)  : Met l yX7_becomeLike (.code yX7_becomeLike cX7_becomeLike 2 none :: TBg) ({ frames := 2, cells := 0, slots := 0, locals := 128 }) (va_Pc [.ref h, .ref o] (En G cy [(h, .inr (7, [.ref a, .int 0, .int 0, .ref w, .int 0])), (o, .inr (7, [.ref b, .int 0, .int 0, .ref z, .int 0])), (a, .inr (8, [v0, v1, .int 0])), (b, .inr (8, [w0, w1, .int 0])), (w, .inl (cy 0, 8, .inl f)), (z, .inl (cy 0, 8, .inl g))] sz)) (va_Qv (fun u : Nat → Nat → Int32 => True) (fun u t => Ex G (va_A [(h, .inr (7, [.ref a, .int 0, .int 0, .ref w, .int 0])), (o, .inr (7, [.ref b, .int 0, .int 0, .ref z, .int 0])), (a, .inr (8, [v0, v1, .int 0])), (b, .inr (8, [w0, w1, .int 0])), (w, .inl (cy 0, 8, .inl f)), (z, .inl (cy 0, 8, .inl g))] sz) [(h, .inr (7, [.ref a, .int 0, .int 0, .ref w, .int 0])), (o, .inr (7, [.ref b, .int 0, .int 0, .ref z, .int 0])), (a, .inr (8, [v0, v1, .int 0])), (b, .inr (8, [w0, w1, .int 0])), (w, .inl (cy 0, 8, .inl (u 0))), (z, .inl (cy 0, 8, .inl (u 1)))] t) (va_A [(h, .inr (7, [.ref a, .int 0, .int 0, .ref w, .int 0])), (o, .inr (7, [.ref b, .int 0, .int 0, .ref z, .int 0])), (a, .inr (8, [v0, v1, .int 0])), (b, .inr (8, [w0, w1, .int 0])), (w, .inl (cy 0, 8, .inl f)), (z, .inl (cy 0, 8, .inl g))] sz)) 0 0 (va_A [(h, .inr (7, [.ref a, .int 0, .int 0, .ref w, .int 0])), (o, .inr (7, [.ref b, .int 0, .int 0, .ref z, .int 0])), (a, .inr (8, [v0, v1, .int 0])), (b, .inr (8, [w0, w1, .int 0])), (w, .inl (cy 0, 8, .inl f)), (z, .inl (cy 0, 8, .inl g))] sz) := by
  refine Met.ofW (cc := cX7_becomeLike) (maxL := 2) (ret := none) (by decide) rfl ?_
  intro p e s m args below meth c s₁ B hml hv
  obtain ⟨rfl, hsz, hP, hK, hD0, hN⟩ := hv
  have hx := B.exec
  have hb := B.bytes
  have hr := B.returns
  have hts := atoms_spec (ws := .code yX7_becomeLike cX7_becomeLike 2 none :: TBg) B.pre
  have ht : ∀ w ∈ TBg, w.before _ s = true := fun w h => hts w (List.mem_cons_of_mem _ h)
  have hown : s.vm.findClass RX7 = some m.cls := findClass_of_methodNamed B.named
  have hlocks := B.notSynchronized
  subst hsz
  have hD := hD0.self (sz := s.heap.size)
  generalize hAe : va_A [(h, .inr (7, [.ref a, .int 0, .int 0, .ref w, .int 0])), (o, .inr (7, [.ref b, .int 0, .int 0, .ref z, .int 0])), (a, .inr (8, [v0, v1, .int 0])), (b, .inr (8, [w0, w1, .int 0])), (w, .inl (cy 0, 8, .inl f)), (z, .inl (cy 0, 8, .inl g))] s.heap.size = A at hD ⊢
  have hA : ∀ q : Nat, s.heap.size ≤ q → A q := fun q h => by rw [← hAe]; exact Or.inr h
  have hS : va_S A s.heap s.heap [] := va_S.rf
  have hl := lv_entry ([.ref h, .ref o]) (n := 2) (Nat.le_of_ble_eq_true rfl)
  rw [lg_entry_eq]
  generalize (lg_sl ([.ref h, .ref o]) ++ List.replicate (2 - (lg_sl ([.ref h, .ref o])).length) Slot.unset).toArray = ls at hl ⊢
  have hl : lv_has ls 2 [(0, .ref h), (1, .ref o)] := hl
  refine lv_aload_n hx hb dX7_becomeLike_0 rfl (lv_at hl 0 rfl) ?_
  refine va_get (ci := 7) (v := .ref a) (C := RX7) (T := TX7) (N := 5) hx hb ht iX7 hown hK hP 0 rfl rfl 0 (by decide) (ht _ k_45) (fun _ h9 => h9) rfl dX7_becomeLike_1 ?_
  refine lv_aload_n hx hb dX7_becomeLike_4 rfl (lv_at hl 1 rfl) ?_
  refine va_get (ci := 7) (v := .ref b) (C := RX7) (T := TX7) (N := 5) hx hb ht iX7 hown hK hP 1 rfl rfl 0 (by decide) (ht _ k_45) (fun _ h9 => h9) rfl dX7_becomeLike_5 ?_
  have hFc := va_free (wc := [(a, .inr (8, [v0, v1, .int 0])), (b, .inr (8, [w0, w1, .int 0]))]) hD hS hA [2, 3] rfl
  have hPc := hP.sub (ws' := [(a, .inr (8, [v0, v1, .int 0])), (b, .inr (8, [w0, w1, .int 0]))]) [2, 3] rfl
  have hDc := hD.sub (ws' := [(a, .inr (8, [v0, v1, .int 0])), (b, .inr (8, [w0, w1, .int 0]))]) [2, 3] (by decide) rfl
  refine va_callv (va_runV (As := [.ref b]) (rest := []) ⟨hx, hb, hml, hown, ht⟩ (c_songLike l G cy _ a b (v0) (v1) (w0) (w1) ) (cwV 1 ht (gv k_129 k_130 k_131 k_41 k_128) rfl rfl rfl (by decide +kernel) ⟨Nat.le_of_ble_eq_true rfl, Nat.le_of_ble_eq_true rfl⟩) ⟨En.blind, va_recv hK hP (ci := 8) (q0 := 2) rfl rfl, fun U hU hW => ⟨rfl, En.of hU hW hPc hK hDc hN⟩⟩ rfl rfl hl.1 rfl (lv_room (Nat.le_of_ble_eq_true rfl)) dX7_becomeLike_8 ⟨Nat.le_of_ble_eq_true rfl, Nat.le_of_ble_eq_true rfl⟩) hS (fun q _ h => hFc q h) hFc (fun u_1 t H locs ht9 hvm hw hB hz1 hk1 hS => ?_)
  obtain ⟨hP1, hD1⟩ := hB
  rw [ht9] at hP1
  obtain ⟨hP, hD⟩ := fr_put (wc := [(a, .inr (8, [v0, v1, .int 0])), (b, .inr (8, [w0, w1, .int 0]))]) (w1 := [(a, .inr (8, [v0, v1, .int 0])), (b, .inr (8, [w0, w1, .int 0]))]) hP hD [2, 3] rfl rfl rfl hk1 hP1
  clear hFc hPc hDc hP1 hD1 hz1 hk1
  have hP : va_P G vwCl [(h, .inr (7, [.ref a, .int 0, .int 0, .ref w, .int 0])), (o, .inr (7, [.ref b, .int 0, .int 0, .ref z, .int 0])), (a, .inr (8, [v0, v1, .int 0])), (b, .inr (8, [w0, w1, .int 0])), (w, .inl (cy 0, 8, .inl f)), (z, .inl (cy 0, 8, .inl g))] H := hP
  have hD : va_D A [(h, .inr (7, [.ref a, .int 0, .int 0, .ref w, .int 0])), (o, .inr (7, [.ref b, .int 0, .int 0, .ref z, .int 0])), (a, .inr (8, [v0, v1, .int 0])), (b, .inr (8, [w0, w1, .int 0])), (w, .inl (cy 0, 8, .inl f)), (z, .inl (cy 0, 8, .inl g))] := hD
  refine lv_aload_n hx hb dX7_becomeLike_11 rfl (lv_at hl 0 rfl) ?_
  refine lv_aload_n hx hb dX7_becomeLike_12 rfl (lv_at hl 1 rfl) ?_
  refine va_get (ci := 7) (v := .int 0) (C := RX7) (T := TX7) (N := 5) hx hb ht iX7 hown hK hP 1 rfl rfl 1 (by decide) (ht _ k_121) (fun _ h9 => h9) rfl dX7_becomeLike_13 ?_
  refine va_put (ci := 7) (v := .int 0) (ty := .boolean) (C := RX7) (T := TX7) (N := 5) hx hb ht iX7 tyX7 tyX7_ok nmX7 hown hK hP hD hS 0 rfl rfl 1 (by decide) (ht _ k_121) (fun _ h9 => h9) rfl (by decide +kernel) rfl rfl (Nat.le_of_ble_eq_true rfl) dX7_becomeLike_16 (fun H locs hP hD hS => ?_)
  have hP : va_P G vwCl [(h, .inr (7, [.ref a, .int 0, .int 0, .ref w, .int 0])), (o, .inr (7, [.ref b, .int 0, .int 0, .ref z, .int 0])), (a, .inr (8, [v0, v1, .int 0])), (b, .inr (8, [w0, w1, .int 0])), (w, .inl (cy 0, 8, .inl f)), (z, .inl (cy 0, 8, .inl g))] H := hP
  have hD : va_D A [(h, .inr (7, [.ref a, .int 0, .int 0, .ref w, .int 0])), (o, .inr (7, [.ref b, .int 0, .int 0, .ref z, .int 0])), (a, .inr (8, [v0, v1, .int 0])), (b, .inr (8, [w0, w1, .int 0])), (w, .inl (cy 0, 8, .inl f)), (z, .inl (cy 0, 8, .inl g))] := hD
  refine lv_aload_n hx hb dX7_becomeLike_19 rfl (lv_at hl 0 rfl) ?_
  refine lv_aload_n hx hb dX7_becomeLike_20 rfl (lv_at hl 1 rfl) ?_
  refine va_get (ci := 7) (v := .int 0) (C := RX7) (T := TX7) (N := 5) hx hb ht iX7 hown hK hP 1 rfl rfl 2 (by decide) (ht _ k_122) (fun _ h9 => h9) rfl dX7_becomeLike_21 ?_
  refine va_put (ci := 7) (v := .int 0) (ty := .int) (C := RX7) (T := TX7) (N := 5) hx hb ht iX7 tyX7 tyX7_ok nmX7 hown hK hP hD hS 0 rfl rfl 2 (by decide) (ht _ k_122) (fun _ h9 => h9) rfl (by decide +kernel) rfl rfl (Nat.le_of_ble_eq_true rfl) dX7_becomeLike_24 (fun H locs hP hD hS => ?_)
  have hP : va_P G vwCl [(h, .inr (7, [.ref a, .int 0, .int 0, .ref w, .int 0])), (o, .inr (7, [.ref b, .int 0, .int 0, .ref z, .int 0])), (a, .inr (8, [v0, v1, .int 0])), (b, .inr (8, [w0, w1, .int 0])), (w, .inl (cy 0, 8, .inl f)), (z, .inl (cy 0, 8, .inl g))] H := hP
  have hD : va_D A [(h, .inr (7, [.ref a, .int 0, .int 0, .ref w, .int 0])), (o, .inr (7, [.ref b, .int 0, .int 0, .ref z, .int 0])), (a, .inr (8, [v0, v1, .int 0])), (b, .inr (8, [w0, w1, .int 0])), (w, .inl (cy 0, 8, .inl f)), (z, .inl (cy 0, 8, .inl g))] := hD
  refine lv_aload_n hx hb dX7_becomeLike_27 rfl (lv_at hl 1 rfl) ?_
  refine va_get (ci := 7) (v := .ref z) (C := RX7) (T := TX7) (N := 5) hx hb ht iX7 hown hK hP 1 rfl rfl 3 (by decide) (ht _ k_46) (fun _ h9 => h9) rfl dX7_becomeLike_28 ?_
  refine lv_iconst (v := 0) hx hb dX7_becomeLike_31 (by decide) ?_
  refine lv_aload_n hx hb dX7_becomeLike_32 rfl (lv_at hl 0 rfl) ?_
  refine va_get (ci := 7) (v := .ref w) (C := RX7) (T := TX7) (N := 5) hx hb ht iX7 hown hK hP 0 rfl rfl 3 (by decide) (ht _ k_46) (fun _ h9 => h9) rfl dX7_becomeLike_33 ?_
  refine lv_iconst (v := 0) hx hb dX7_becomeLike_36 (by decide) ?_
  refine lv_bipush (v := 8) hx hb dX7_becomeLike_37 (by decide) ?_
  refine va_copyi (ty := .int) hx hb (by rw [hml]; exact hl.1.symm) hown (ht _ k_132) (ht _ k_133) (ht _ k_134) (ht _ k_135) hK hP hD hS 5 4 0 0 rfl rfl rfl rfl rfl (by decide) (by decide) (by decide) (Nat.le_of_ble_eq_true rfl) (Nat.le_of_ble_eq_true rfl) (fun _ _ => rfl) (Nat.le_of_ble_eq_true rfl) (Nat.le_of_ble_eq_true rfl) dX7_becomeLike_39 (fun H locs hP hD hS => ?_)
  obtain ⟨f_2, ef_2⟩ : ∃ g9 : Nat → Int32, g9 = va_cpy g f ((0 : Int32).toNatClampNeg) ((0 : Int32).toNatClampNeg) ((8 : Int32).toNatClampNeg) := ⟨_, rfl⟩
  rw [← ef_2] at hP hD
  have hP : va_P G vwCl [(h, .inr (7, [.ref a, .int 0, .int 0, .ref w, .int 0])), (o, .inr (7, [.ref b, .int 0, .int 0, .ref z, .int 0])), (a, .inr (8, [v0, v1, .int 0])), (b, .inr (8, [w0, w1, .int 0])), (w, .inl (cy 0, 8, .inl f_2)), (z, .inl (cy 0, 8, .inl g))] H := hP
  have hD : va_D A [(h, .inr (7, [.ref a, .int 0, .int 0, .ref w, .int 0])), (o, .inr (7, [.ref b, .int 0, .int 0, .ref z, .int 0])), (a, .inr (8, [v0, v1, .int 0])), (b, .inr (8, [w0, w1, .int 0])), (w, .inl (cy 0, 8, .inl f_2)), (z, .inl (cy 0, 8, .inl g))] := hD
  refine W.widen (k := 0) (n := 0) (Nat.le_of_ble_eq_true rfl) (Nat.le_of_ble_eq_true rfl) ?_
  have hP9 : va_P G vwCl [(h, .inr (7, [.ref a, .int 0, .int 0, .ref w, .int 0])), (o, .inr (7, [.ref b, .int 0, .int 0, .ref z, .int 0])), (a, .inr (8, [v0, v1, .int 0])), (b, .inr (8, [w0, w1, .int 0])), (w, .inl (cy 0, 8, .inl ((lsf [f_2, g]) 0))), (z, .inl (cy 0, 8, .inl ((lsf [f_2, g]) 1)))] _ := hP.sub [0, 1, 2, 3, 4, 5] rfl
  have hD9 : va_D A [(h, .inr (7, [.ref a, .int 0, .int 0, .ref w, .int 0])), (o, .inr (7, [.ref b, .int 0, .int 0, .ref z, .int 0])), (a, .inr (8, [v0, v1, .int 0])), (b, .inr (8, [w0, w1, .int 0])), (w, .inl (cy 0, 8, .inl ((lsf [f_2, g]) 0))), (z, .inl (cy 0, 8, .inl ((lsf [f_2, g]) 1)))] := hD.sub [0, 1, 2, 3, 4, 5] (by decide) rfl
  exact W.vret hx hb hr (fun t ht9 hW => ⟨⟨(lsf [f_2, g]), rfl, trivial, ⟨by rw [ht9]; exact hP9, hD9⟩⟩, hS.F ht9⟩) hS.2.2 dX7_becomeLike_42
set_option maxHeartbeats 4000000 in
set_option maxRecDepth 100000 in
theorem c_hearAll (l : Launch) (G : va_G) (cy : Nat → ClassId) (sz : Nat) (h : Nat) (sg : Nat) (tw : Nat) (t0 : Value) (t1 : Value) (t2 : Value) (t4 : Value) (t5 : Value) (t6 : Value) (t7 : Value) (t8 : Value) (v0 : Value) (v1 : Value) (v2 : Value) (v3 : Value) (v4 : Value) (w0 : Value) (w1 : Value)  : Met l yX2_hearAll (.code yX2_hearAll cX2_hearAll 6 none :: TBg) ({ frames := 1, cells := 0, slots := 0, locals := 64 }) (va_Pc [.ref h, .ref sg, .ref tw] (En G cy [(h, .inr (2, [v0, v1, v2, v3, v4])), (sg, .inr (8, [w0, w1, .int 0])), (tw, .inr (9, [t0, t1, t2, .int 0, t4, t5, t6, t7, t8]))] sz)) (va_Qv (fun u : Unit => True) (fun u t => Ex G (va_A [(h, .inr (2, [v0, v1, v2, v3, v4])), (sg, .inr (8, [w0, w1, .int 0])), (tw, .inr (9, [t0, t1, t2, .int 0, t4, t5, t6, t7, t8]))] sz) [(h, .inr (2, [v0, v1, v2, v3, .int 0])), (sg, .inr (8, [w0, w1, .int 0])), (tw, .inr (9, [t0, t1, t2, .int 0, t4, t5, t6, t7, t8]))] t) (va_A [(h, .inr (2, [v0, v1, v2, v3, v4])), (sg, .inr (8, [w0, w1, .int 0])), (tw, .inr (9, [t0, t1, t2, .int 0, t4, t5, t6, t7, t8]))] sz)) 0 0 (va_A [(h, .inr (2, [v0, v1, v2, v3, v4])), (sg, .inr (8, [w0, w1, .int 0])), (tw, .inr (9, [t0, t1, t2, .int 0, t4, t5, t6, t7, t8]))] sz) := by
  refine Met.ofW (cc := cX2_hearAll) (maxL := 6) (ret := none) (by decide) rfl ?_
  intro p e s m args below meth c s₁ B hml hv
  obtain ⟨rfl, hsz, hP, hK, hD0, hN⟩ := hv
  have hx := B.exec
  have hb := B.bytes
  have hr := B.returns
  have hts := atoms_spec (ws := .code yX2_hearAll cX2_hearAll 6 none :: TBg) B.pre
  have ht : ∀ w ∈ TBg, w.before _ s = true := fun w h => hts w (List.mem_cons_of_mem _ h)
  have hown : s.vm.findClass RX2 = some m.cls := findClass_of_methodNamed B.named
  have hlocks := B.notSynchronized
  subst hsz
  have hD := hD0.self (sz := s.heap.size)
  generalize hAe : va_A [(h, .inr (2, [v0, v1, v2, v3, v4])), (sg, .inr (8, [w0, w1, .int 0])), (tw, .inr (9, [t0, t1, t2, .int 0, t4, t5, t6, t7, t8]))] s.heap.size = A at hD ⊢
  have hA : ∀ q : Nat, s.heap.size ≤ q → A q := fun q h => by rw [← hAe]; exact Or.inr h
  have hS : va_S A s.heap s.heap [] := va_S.rf
  have hl := lv_entry ([.ref h, .ref sg, .ref tw]) (n := 6) (Nat.le_of_ble_eq_true rfl)
  rw [lg_entry_eq]
  generalize (lg_sl ([.ref h, .ref sg, .ref tw]) ++ List.replicate (6 - (lg_sl ([.ref h, .ref sg, .ref tw])).length) Slot.unset).toArray = ls at hl ⊢
  have hl : lv_has ls 6 [(0, .ref h), (1, .ref sg), (2, .ref tw)] := hl
  refine lv_aload_n hx hb dX2_hearAll_0 rfl (lv_at hl 0 rfl) ?_
  refine lv_aload_n hx hb dX2_hearAll_1 rfl (lv_at hl 1 rfl) ?_
  refine va_getN (host := "TuneLocks") (ci := 8) (v := .int 0) (C := RX8) (T := TX8) (N := 3) hx hb ht iX8 hown hK hP 1 rfl rfl 2 (by decide) (va_Nw.use rfl (hN.1 _ ns_24)) (fun _ h9 => h9) rfl dX2_hearAll_2 ?_
  refine va_put (ci := 2) (v := .int 0) (ty := .int) (C := RX2) (T := TX2) (N := 5) hx hb ht iX2 tyX2 tyX2_ok nmX2 hown hK hP hD hS 0 rfl rfl 4 (by decide) (ht _ k_136) (fun _ h9 => h9) rfl (by decide +kernel) rfl rfl (Nat.le_of_ble_eq_true rfl) dX2_hearAll_5 (fun H locs hP hD hS => ?_)
  have hP : va_P G vwCl [(h, .inr (2, [v0, v1, v2, v3, .int 0])), (sg, .inr (8, [w0, w1, .int 0])), (tw, .inr (9, [t0, t1, t2, .int 0, t4, t5, t6, t7, t8]))] H := hP
  have hD : va_D A [(h, .inr (2, [v0, v1, v2, v3, .int 0])), (sg, .inr (8, [w0, w1, .int 0])), (tw, .inr (9, [t0, t1, t2, .int 0, t4, t5, t6, t7, t8]))] := hD
  refine lv_iconst (v := 0) hx hb dX2_hearAll_8 (by decide) ?_
  refine lv_istore_n (lv' := [(3, .int 0), (0, .ref h), (1, .ref sg), (2, .ref tw)]) hx hb dX2_hearAll_9 rfl hl (by decide) rfl (fun ls hl => ?_)
  refine lv_iload_n hx hb dX2_hearAll_10 rfl (lv_at hl 0 rfl) ?_
  refine lv_aload_n hx hb dX2_hearAll_11 rfl (lv_at hl 3 rfl) ?_
  refine va_getN (host := "TuneLocks") (ci := 9) (v := .int 0) (C := RX9) (T := TX9) (N := 9) hx hb ht iX9 hown hK hP 2 rfl rfl 3 (by decide) (va_Nw.use rfl (hN.1 _ ns_25)) (fun _ h9 => h9) rfl dX2_hearAll_12 ?_
  refine lv_icmp_ge (tgt := 103) hx hb dX2_hearAll_15 (by decide) (fun _ => ?_) (fun c9 => absurd (by decide) c9)
  refine W.widen (k := 0) (n := 0) (Nat.le_of_ble_eq_true rfl) (Nat.le_of_ble_eq_true rfl) ?_
  have hP9 : va_P G vwCl [(h, .inr (2, [v0, v1, v2, v3, .int 0])), (sg, .inr (8, [w0, w1, .int 0])), (tw, .inr (9, [t0, t1, t2, .int 0, t4, t5, t6, t7, t8]))] _ := hP.sub [0, 1, 2] rfl
  have hD9 : va_D A [(h, .inr (2, [v0, v1, v2, v3, .int 0])), (sg, .inr (8, [w0, w1, .int 0])), (tw, .inr (9, [t0, t1, t2, .int 0, t4, t5, t6, t7, t8]))] := hD.sub [0, 1, 2] (by decide) rfl
  exact W.vret hx hb hr (fun t ht9 hW => ⟨⟨(), rfl, trivial, ⟨by rw [ht9]; exact hP9, hD9⟩⟩, hS.F ht9⟩) hS.2.2 dX2_hearAll_103
set_option maxHeartbeats 4000000 in
set_option maxRecDepth 100000 in
theorem c_hearLast (l : Launch) (G : va_G) (cy : Nat → ClassId) (sz : Nat) (h : Nat) (sg : Nat) (tw : Nat) (t0 : Value) (t1 : Value) (t2 : Value) (t4 : Value) (t5 : Value) (t6 : Value) (t7 : Value) (t8 : Value) (v0 : Value) (v1 : Value) (v2 : Value) (v3 : Value) (v4 : Value) (w0 : Value) (w1 : Value)  : Met l yX2_hearLast (.code yX2_hearLast cX2_hearLast 5 none :: TBg) ({ frames := 1, cells := 0, slots := 0, locals := 64 }) (va_Pc [.ref h, .ref sg, .ref tw] (En G cy [(h, .inr (2, [v0, v1, v2, v3, v4])), (sg, .inr (8, [w0, w1, .int 1])), (tw, .inr (9, [t0, t1, t2, .int 0, t4, t5, t6, t7, t8]))] sz)) (va_Qv (fun u : Unit => True) (fun u t => Ex G (va_A [(h, .inr (2, [v0, v1, v2, v3, v4])), (sg, .inr (8, [w0, w1, .int 1])), (tw, .inr (9, [t0, t1, t2, .int 0, t4, t5, t6, t7, t8]))] sz) [(h, .inr (2, [v0, v1, v2, v3, .int 1])), (sg, .inr (8, [w0, w1, .int 1])), (tw, .inr (9, [t0, t1, t2, .int 0, t4, t5, t6, t7, t8]))] t) (va_A [(h, .inr (2, [v0, v1, v2, v3, v4])), (sg, .inr (8, [w0, w1, .int 1])), (tw, .inr (9, [t0, t1, t2, .int 0, t4, t5, t6, t7, t8]))] sz)) 0 0 (va_A [(h, .inr (2, [v0, v1, v2, v3, v4])), (sg, .inr (8, [w0, w1, .int 1])), (tw, .inr (9, [t0, t1, t2, .int 0, t4, t5, t6, t7, t8]))] sz) := by
  refine Met.ofW (cc := cX2_hearLast) (maxL := 5) (ret := none) (by decide) rfl ?_
  intro p e s m args below meth c s₁ B hml hv
  obtain ⟨rfl, hsz, hP, hK, hD0, hN⟩ := hv
  have hx := B.exec
  have hb := B.bytes
  have hr := B.returns
  have hts := atoms_spec (ws := .code yX2_hearLast cX2_hearLast 5 none :: TBg) B.pre
  have ht : ∀ w ∈ TBg, w.before _ s = true := fun w h => hts w (List.mem_cons_of_mem _ h)
  have hown : s.vm.findClass RX2 = some m.cls := findClass_of_methodNamed B.named
  have hlocks := B.notSynchronized
  subst hsz
  have hD := hD0.self (sz := s.heap.size)
  generalize hAe : va_A [(h, .inr (2, [v0, v1, v2, v3, v4])), (sg, .inr (8, [w0, w1, .int 1])), (tw, .inr (9, [t0, t1, t2, .int 0, t4, t5, t6, t7, t8]))] s.heap.size = A at hD ⊢
  have hA : ∀ q : Nat, s.heap.size ≤ q → A q := fun q h => by rw [← hAe]; exact Or.inr h
  have hS : va_S A s.heap s.heap [] := va_S.rf
  have hl := lv_entry ([.ref h, .ref sg, .ref tw]) (n := 5) (Nat.le_of_ble_eq_true rfl)
  rw [lg_entry_eq]
  generalize (lg_sl ([.ref h, .ref sg, .ref tw]) ++ List.replicate (5 - (lg_sl ([.ref h, .ref sg, .ref tw])).length) Slot.unset).toArray = ls at hl ⊢
  have hl : lv_has ls 5 [(0, .ref h), (1, .ref sg), (2, .ref tw)] := hl
  refine lv_aload_n hx hb dX2_hearLast_0 rfl (lv_at hl 0 rfl) ?_
  refine lv_aload_n hx hb dX2_hearLast_1 rfl (lv_at hl 1 rfl) ?_
  refine va_getN (host := "TuneLocks") (ci := 8) (v := .int 1) (C := RX8) (T := TX8) (N := 3) hx hb ht iX8 hown hK hP 1 rfl rfl 2 (by decide) (va_Nw.use rfl (hN.1 _ ns_24)) (fun _ h9 => h9) rfl dX2_hearLast_2 ?_
  refine va_put (ci := 2) (v := .int 1) (ty := .int) (C := RX2) (T := TX2) (N := 5) hx hb ht iX2 tyX2 tyX2_ok nmX2 hown hK hP hD hS 0 rfl rfl 4 (by decide) (ht _ k_136) (fun _ h9 => h9) rfl (by decide +kernel) rfl rfl (Nat.le_of_ble_eq_true rfl) dX2_hearLast_5 (fun H locs hP hD hS => ?_)
  have hP : va_P G vwCl [(h, .inr (2, [v0, v1, v2, v3, .int 1])), (sg, .inr (8, [w0, w1, .int 1])), (tw, .inr (9, [t0, t1, t2, .int 0, t4, t5, t6, t7, t8]))] H := hP
  have hD : va_D A [(h, .inr (2, [v0, v1, v2, v3, .int 1])), (sg, .inr (8, [w0, w1, .int 1])), (tw, .inr (9, [t0, t1, t2, .int 0, t4, t5, t6, t7, t8]))] := hD
  refine lv_iconst (v := 0) hx hb dX2_hearLast_8 (by decide) ?_
  refine lv_istore_n (lv' := [(3, .int 0), (0, .ref h), (1, .ref sg), (2, .ref tw)]) hx hb dX2_hearLast_9 rfl hl (by decide) rfl (fun ls hl => ?_)
  refine lv_iload_n hx hb dX2_hearLast_10 rfl (lv_at hl 0 rfl) ?_
  refine lv_aload_n hx hb dX2_hearLast_11 rfl (lv_at hl 3 rfl) ?_
  refine va_getN (host := "TuneLocks") (ci := 9) (v := .int 0) (C := RX9) (T := TX9) (N := 9) hx hb ht iX9 hown hK hP 2 rfl rfl 3 (by decide) (va_Nw.use rfl (hN.1 _ ns_25)) (fun _ h9 => h9) rfl dX2_hearLast_12 ?_
  refine lv_icmp_ge (tgt := 64) hx hb dX2_hearLast_15 (by decide) (fun _ => ?_) (fun c9 => absurd (by decide) c9)
  refine W.widen (k := 0) (n := 0) (Nat.le_of_ble_eq_true rfl) (Nat.le_of_ble_eq_true rfl) ?_
  have hP9 : va_P G vwCl [(h, .inr (2, [v0, v1, v2, v3, .int 1])), (sg, .inr (8, [w0, w1, .int 1])), (tw, .inr (9, [t0, t1, t2, .int 0, t4, t5, t6, t7, t8]))] _ := hP.sub [0, 1, 2] rfl
  have hD9 : va_D A [(h, .inr (2, [v0, v1, v2, v3, .int 1])), (sg, .inr (8, [w0, w1, .int 1])), (tw, .inr (9, [t0, t1, t2, .int 0, t4, t5, t6, t7, t8]))] := hD.sub [0, 1, 2] (by decide) rfl
  exact W.vret hx hb hr (fun t ht9 hW => ⟨⟨(), rfl, trivial, ⟨by rw [ht9]; exact hP9, hD9⟩⟩, hS.F ht9⟩) hS.2.2 dX2_hearLast_64
set_option maxHeartbeats 4000000 in
set_option maxRecDepth 100000 in
theorem c_wClear (l : Launch) (G : va_G) (cy : Nat → ClassId) (sz : Nat) (h : Nat) (v0 : Value) (v1 : Value) (v2 : Value) (v3 : Value) (v4 : Value) (v5 : Value)  : Met l yX10_clear (.code yX10_clear cX10_clear 1 none :: TBg) ({ frames := 1, cells := 0, slots := 0, locals := 64 }) (va_Pc [.ref h] (En G cy [(h, .inr (10, [v0, v1, v2, v3, v4, v5]))] sz)) (va_Qv (fun u : Unit => True) (fun u t => Ex G (va_A [(h, .inr (10, [v0, v1, v2, v3, v4, v5]))] sz) [(h, .inr (10, [v0, v1, v2, v3, v4, .int 0]))] t) (va_A [(h, .inr (10, [v0, v1, v2, v3, v4, v5]))] sz)) 0 0 (va_A [(h, .inr (10, [v0, v1, v2, v3, v4, v5]))] sz) := by
  refine Met.ofW (cc := cX10_clear) (maxL := 1) (ret := none) (by decide) rfl ?_
  intro p e s m args below meth c s₁ B hml hv
  obtain ⟨rfl, hsz, hP, hK, hD0, hN⟩ := hv
  have hx := B.exec
  have hb := B.bytes
  have hr := B.returns
  have hts := atoms_spec (ws := .code yX10_clear cX10_clear 1 none :: TBg) B.pre
  have ht : ∀ w ∈ TBg, w.before _ s = true := fun w h => hts w (List.mem_cons_of_mem _ h)
  have hown : s.vm.findClass RX10 = some m.cls := findClass_of_methodNamed B.named
  have hlocks := B.notSynchronized
  subst hsz
  have hD := hD0.self (sz := s.heap.size)
  generalize hAe : va_A [(h, .inr (10, [v0, v1, v2, v3, v4, v5]))] s.heap.size = A at hD ⊢
  have hA : ∀ q : Nat, s.heap.size ≤ q → A q := fun q h => by rw [← hAe]; exact Or.inr h
  have hS : va_S A s.heap s.heap [] := va_S.rf
  have hl := lv_entry ([.ref h]) (n := 1) (Nat.le_of_ble_eq_true rfl)
  rw [lg_entry_eq]
  generalize (lg_sl ([.ref h]) ++ List.replicate (1 - (lg_sl ([.ref h])).length) Slot.unset).toArray = ls at hl ⊢
  have hl : lv_has ls 1 [(0, .ref h)] := hl
  refine lv_aload_n hx hb dX10_clear_0 rfl (lv_at hl 0 rfl) ?_
  refine lv_iconst (v := 0) hx hb dX10_clear_1 (by decide) ?_
  refine va_put (ci := 10) (v := .int 0) (ty := .int) (C := RX10) (T := TX10) (N := 6) hx hb ht iX10 tyX10 tyX10_ok nmX10 hown hK hP hD hS 0 rfl rfl 5 (by decide) (ht _ k_137) (fun _ h9 => h9) rfl (by decide +kernel) rfl rfl (Nat.le_of_ble_eq_true rfl) dX10_clear_2 (fun H locs hP hD hS => ?_)
  have hP : va_P G vwCl [(h, .inr (10, [v0, v1, v2, v3, v4, .int 0]))] H := hP
  have hD : va_D A [(h, .inr (10, [v0, v1, v2, v3, v4, .int 0]))] := hD
  refine W.widen (k := 0) (n := 0) (Nat.le_of_ble_eq_true rfl) (Nat.le_of_ble_eq_true rfl) ?_
  have hP9 : va_P G vwCl [(h, .inr (10, [v0, v1, v2, v3, v4, .int 0]))] _ := hP.sub [0] rfl
  have hD9 : va_D A [(h, .inr (10, [v0, v1, v2, v3, v4, .int 0]))] := hD.sub [0] (by decide) rfl
  exact W.vret hx hb hr (fun t ht9 hW => ⟨⟨(), rfl, trivial, ⟨by rw [ht9]; exact hP9, hD9⟩⟩, hS.F ht9⟩) hS.2.2 dX10_clear_5
set_option maxHeartbeats 4000000 in
set_option maxRecDepth 100000 in
theorem c_takeBack (l : Launch) (G : va_G) (cy : Nat → ClassId) (sz : Nat) (h : Nat) (t : Int32) (t2 : Int32) (v0 : Value) (v1 : Value) (v2 : Value) (v3 : Value) (v4 : Value)  : Met l yX10_takeBack (.code yX10_takeBack cX10_takeBack 3 (some .boolean) :: TBg) ({ frames := 1, cells := 0, slots := 0, locals := 64 }) (va_Pc [.ref h, .int t, .int t2] (En G cy [(h, .inr (10, [v0, v1, v2, v3, v4, .int 0]))] sz)) (va_Qi (fun (r : Int32) (_ : Unit) => r = 0 ∧ True) (fun _ _ => True) (va_A [] sz)) 0 0 (va_A [] sz) := by
  refine Met.ofW (cc := cX10_takeBack) (maxL := 3) (ret := (some .boolean)) (by decide) rfl ?_
  intro p e s m args below meth c s₁ B hml hv
  obtain ⟨rfl, hsz, hP, hK, hD0, hN⟩ := hv
  have hx := B.exec
  have hb := B.bytes
  have hr := B.returns
  have hts := atoms_spec (ws := .code yX10_takeBack cX10_takeBack 3 (some .boolean) :: TBg) B.pre
  have ht : ∀ w ∈ TBg, w.before _ s = true := fun w h => hts w (List.mem_cons_of_mem _ h)
  have hown : s.vm.findClass RX10 = some m.cls := findClass_of_methodNamed B.named
  have hlocks := B.notSynchronized
  subst hsz
  generalize hAe : va_A [] s.heap.size = A at ⊢
  have hA : ∀ q : Nat, s.heap.size ≤ q → A q := fun q h => by rw [← hAe]; exact Or.inr h
  have hS : va_S A s.heap s.heap [] := va_S.rf
  have hl := lv_entry ([.ref h, .int t, .int t2]) (n := 3) (Nat.le_of_ble_eq_true rfl)
  rw [lg_entry_eq]
  generalize (lg_sl ([.ref h, .int t, .int t2]) ++ List.replicate (3 - (lg_sl ([.ref h, .int t, .int t2])).length) Slot.unset).toArray = ls at hl ⊢
  have hl : lv_has ls 3 [(0, .ref h), (1, .int t), (2, .int t2)] := hl
  refine lv_iload_n hx hb dX10_takeBack_0 rfl (lv_at hl 1 rfl) ?_
  refine lv_if_lt (tgt := 22) hx hb dX10_takeBack_1 (by decide) (fun c_1 => ?_) (fun c_1 => ?_)
  · skip
    refine lv_iconst (v := 0) hx hb dX10_takeBack_22 (by decide) ?_
    refine W.widen (k := 0) (n := 0) (Nat.le_of_ble_eq_true rfl) (Nat.le_of_ble_eq_true rfl) ?_
    exact W.zret (v := 0) hx hb hr (by first | rfl | decide) (fun t ht9 hW => ⟨⟨0, (), rfl, ⟨rfl, trivial⟩, trivial⟩, hS.F ht9⟩) hS.2.2 dX10_takeBack_23
  · skip
    refine lv_iload_n hx hb dX10_takeBack_4 rfl (lv_at hl 1 rfl) ?_
    refine lv_aload_n hx hb dX10_takeBack_5 rfl (lv_at hl 0 rfl) ?_
    refine va_get (ci := 10) (v := .int 0) (C := RX10) (T := TX10) (N := 6) hx hb ht iX10 hown hK hP 0 rfl rfl 5 (by decide) (ht _ k_137) (fun _ h9 => h9) rfl dX10_takeBack_6 ?_
    refine lv_icmp_ge (tgt := 22) hx hb dX10_takeBack_9 (by decide) (fun c_2 => ?_) (fun c_2 => ?_)
    · skip
      refine lv_iconst (v := 0) hx hb dX10_takeBack_22 (by decide) ?_
      refine W.widen (k := 0) (n := 0) (Nat.le_of_ble_eq_true rfl) (Nat.le_of_ble_eq_true rfl) ?_
      exact W.zret (v := 0) hx hb hr (by first | rfl | decide) (fun t ht9 hW => ⟨⟨0, (), rfl, ⟨rfl, trivial⟩, trivial⟩, hS.F ht9⟩) hS.2.2 dX10_takeBack_23
    · exfalso
      have z0 : (0 : Int32).toInt = 0 := (by decide); (try simp only [ow_lt, ow_le, ow_eq] at c_1 c_2); omega
set_option maxHeartbeats 4000000 in
set_option maxRecDepth 100000 in
theorem c_leftAt (l : Launch) (G : va_G) (cy : Nat → ClassId) (sz : Nat) (h : Nat) (t : Int32) (tw : Nat) (t0 : Value) (t1 : Value) (t2 : Value) (t4 : Value) (t5 : Value) (t6 : Value) (t7 : Value) (t8 : Value) (v0 : Value) (v1 : Value) (v2 : Value) (v3 : Value) (v4 : Value)  : Met l yX10_leftAt (.code yX10_leftAt cX10_leftAt 6 (some .int) :: TBg) ({ frames := 1, cells := 0, slots := 0, locals := 64 }) (va_Pc [.ref h, .int t, .ref tw] (En G cy [(h, .inr (10, [v0, v1, v2, v3, v4, .int 0])), (tw, .inr (9, [t0, t1, t2, .int 0, t4, t5, t6, t7, t8]))] sz)) (va_Qi (fun (r : Int32) (_ : Unit) => r = 0 ∧ True) (fun _ _ => True) (va_A [] sz)) 0 0 (va_A [] sz) := by
  refine Met.ofW (cc := cX10_leftAt) (maxL := 6) (ret := (some .int)) (by decide) rfl ?_
  intro p e s m args below meth c s₁ B hml hv
  obtain ⟨rfl, hsz, hP, hK, hD0, hN⟩ := hv
  have hx := B.exec
  have hb := B.bytes
  have hr := B.returns
  have hts := atoms_spec (ws := .code yX10_leftAt cX10_leftAt 6 (some .int) :: TBg) B.pre
  have ht : ∀ w ∈ TBg, w.before _ s = true := fun w h => hts w (List.mem_cons_of_mem _ h)
  have hown : s.vm.findClass RX10 = some m.cls := findClass_of_methodNamed B.named
  have hlocks := B.notSynchronized
  subst hsz
  generalize hAe : va_A [] s.heap.size = A at ⊢
  have hA : ∀ q : Nat, s.heap.size ≤ q → A q := fun q h => by rw [← hAe]; exact Or.inr h
  have hS : va_S A s.heap s.heap [] := va_S.rf
  have hl := lv_entry ([.ref h, .int t, .ref tw]) (n := 6) (Nat.le_of_ble_eq_true rfl)
  rw [lg_entry_eq]
  generalize (lg_sl ([.ref h, .int t, .ref tw]) ++ List.replicate (6 - (lg_sl ([.ref h, .int t, .ref tw])).length) Slot.unset).toArray = ls at hl ⊢
  have hl : lv_has ls 6 [(0, .ref h), (1, .int t), (2, .ref tw)] := hl
  refine lv_iconst (v := 1) hx hb dX10_leftAt_0 (by decide) ?_
  refine lv_aload_n hx hb dX10_leftAt_1 rfl (lv_at hl 2 rfl) ?_
  refine va_getN (host := "TuneLocks") (ci := 9) (v := .int 0) (C := RX9) (T := TX9) (N := 9) hx hb ht iX9 hown hK hP 1 rfl rfl 3 (by decide) (va_Nw.use rfl (hN.1 _ ns_57)) (fun _ h9 => h9) rfl dX10_leftAt_2 ?_
  refine lv_ishl hx hb dX10_leftAt_5 ?_
  refine ow_top 1 (by decide +kernel) ?_
  refine lv_iconst (v := 1) hx hb dX10_leftAt_6 (by decide) ?_
  refine lv_isub hx hb dX10_leftAt_7 ?_
  refine ow_top 0 (by decide +kernel) ?_
  refine lv_istore_n (lv' := [(3, .int 0), (0, .ref h), (1, .int t), (2, .ref tw)]) hx hb dX10_leftAt_8 rfl hl (by decide) rfl (fun ls hl => ?_)
  refine lv_iconst (v := 0) hx hb dX10_leftAt_9 (by decide) ?_
  refine lv_istore (lv' := [(4, .int 0), (3, .int 0), (0, .ref h), (1, .int t), (2, .ref tw)]) hx hb dX10_leftAt_10 hl (by decide) rfl (fun ls hl => ?_)
  refine lv_iload hx hb dX10_leftAt_12 (lv_at hl 0 rfl) ?_
  refine lv_aload_n hx hb dX10_leftAt_14 rfl (lv_at hl 2 rfl) ?_
  refine va_get (ci := 10) (v := .int 0) (C := RX10) (T := TX10) (N := 6) hx hb ht iX10 hown hK hP 0 rfl rfl 5 (by decide) (ht _ k_137) (fun _ h9 => h9) rfl dX10_leftAt_15 ?_
  refine lv_icmp_ge (tgt := 97) hx hb dX10_leftAt_18 (by decide) (fun _ => ?_) (fun c9 => absurd (by decide) c9)
  refine lv_iload_n hx hb dX10_leftAt_97 rfl (lv_at hl 1 rfl) ?_
  refine W.widen (k := 0) (n := 0) (Nat.le_of_ble_eq_true rfl) (Nat.le_of_ble_eq_true rfl) ?_
  exact W.iret (v := 0) hx hb hr (fun t ht9 hW => ⟨⟨0, (), rfl, ⟨rfl, trivial⟩, trivial⟩, hS.F ht9⟩) hS.2.2 dX10_leftAt_98
set_option maxHeartbeats 4000000 in
set_option maxRecDepth 100000 in
theorem c_pick (l : Launch) (G : va_G) (cy : Nat → ClassId) (sz : Nat) (h : Nat) (v0 : Value)  : Met l yX1_pick (.code yX1_pick cX1_pick 5 none :: TBg) ({ frames := 1, cells := 0, slots := 0, locals := 64 }) (va_Pc [.ref h, .int 0, .int 0, .int 0] (En G cy [(h, .inr (1, [v0, .int 0, .int (-1)]))] sz)) (va_Qv (fun u : Unit => True) (fun u t => Ex G (va_A [(h, .inr (1, [v0, .int 0, .int (-1)]))] sz) [(h, .inr (1, [v0, .int 0, .int 0]))] t) (va_A [(h, .inr (1, [v0, .int 0, .int (-1)]))] sz)) 0 0 (va_A [(h, .inr (1, [v0, .int 0, .int (-1)]))] sz) := by
  refine Met.ofW (cc := cX1_pick) (maxL := 5) (ret := none) (by decide) rfl ?_
  intro p e s m args below meth c s₁ B hml hv
  obtain ⟨rfl, hsz, hP, hK, hD0, hN⟩ := hv
  have hx := B.exec
  have hb := B.bytes
  have hr := B.returns
  have hts := atoms_spec (ws := .code yX1_pick cX1_pick 5 none :: TBg) B.pre
  have ht : ∀ w ∈ TBg, w.before _ s = true := fun w h => hts w (List.mem_cons_of_mem _ h)
  have hown : s.vm.findClass RX1 = some m.cls := findClass_of_methodNamed B.named
  have hlocks := B.notSynchronized
  subst hsz
  have hD := hD0.self (sz := s.heap.size)
  generalize hAe : va_A [(h, .inr (1, [v0, .int 0, .int (-1)]))] s.heap.size = A at hD ⊢
  have hA : ∀ q : Nat, s.heap.size ≤ q → A q := fun q h => by rw [← hAe]; exact Or.inr h
  have hS : va_S A s.heap s.heap [] := va_S.rf
  have hl := lv_entry ([.ref h, .int 0, .int 0, .int 0]) (n := 5) (Nat.le_of_ble_eq_true rfl)
  rw [lg_entry_eq]
  generalize (lg_sl ([.ref h, .int 0, .int 0, .int 0]) ++ List.replicate (5 - (lg_sl ([.ref h, .int 0, .int 0, .int 0])).length) Slot.unset).toArray = ls at hl ⊢
  have hl : lv_has ls 5 [(0, .ref h), (1, .int 0), (2, .int 0), (3, .int 0)] := hl
  refine lv_iload_n hx hb dX1_pick_0 rfl (lv_at hl 3 rfl) ?_
  refine lv_iload_n hx hb dX1_pick_1 rfl (lv_at hl 1 rfl) ?_
  refine lv_iadd hx hb dX1_pick_2 ?_
  refine ow_top 0 (by decide +kernel) ?_
  refine lv_aload_n hx hb dX1_pick_3 rfl (lv_at hl 0 rfl) ?_
  refine va_get (ci := 1) (v := .int (-1)) (C := RX1) (T := TX1) (N := 3) hx hb ht iX1 hown hK hP 0 rfl rfl 2 (by decide) (ht _ k_138) (fun _ h9 => h9) rfl dX1_pick_4 ?_
  refine lv_icmp_gt (tgt := 11) hx hb dX1_pick_7 (by decide) (fun _ => ?_) (fun c9 => absurd (by decide) c9)
  refine lv_iload_n hx hb dX1_pick_11 rfl (lv_at hl 1 rfl) ?_
  refine lv_iconst (v := 1) hx hb dX1_pick_12 (by decide) ?_
  refine lv_icmp_lt (tgt := 25) hx hb dX1_pick_13 (by decide) (fun _ => ?_) (fun c9 => absurd (by decide) c9)
  refine lv_aload_n hx hb dX1_pick_25 rfl (lv_at hl 0 rfl) ?_
  refine lv_iload_n hx hb dX1_pick_26 rfl (lv_at hl 2 rfl) ?_
  refine va_put (ci := 1) (v := .int 0) (ty := .int) (C := RX1) (T := TX1) (N := 3) hx hb ht iX1 tyX1 tyX1_ok nmX1 hown hK hP hD hS 0 rfl rfl 1 (by decide) (ht _ k_139) (fun _ h9 => h9) rfl (by decide +kernel) rfl rfl (Nat.le_of_ble_eq_true rfl) dX1_pick_27 (fun H locs hP hD hS => ?_)
  have hP : va_P G vwCl [(h, .inr (1, [v0, .int 0, .int (-1)]))] H := hP
  have hD : va_D A [(h, .inr (1, [v0, .int 0, .int (-1)]))] := hD
  refine lv_aload_n hx hb dX1_pick_30 rfl (lv_at hl 0 rfl) ?_
  refine lv_iload_n hx hb dX1_pick_31 rfl (lv_at hl 3 rfl) ?_
  refine va_put (ci := 1) (v := .int 0) (ty := .int) (C := RX1) (T := TX1) (N := 3) hx hb ht iX1 tyX1 tyX1_ok nmX1 hown hK hP hD hS 0 rfl rfl 2 (by decide) (ht _ k_138) (fun _ h9 => h9) rfl (by decide +kernel) rfl rfl (Nat.le_of_ble_eq_true rfl) dX1_pick_32 (fun H locs hP hD hS => ?_)
  have hP : va_P G vwCl [(h, .inr (1, [v0, .int 0, .int 0]))] H := hP
  have hD : va_D A [(h, .inr (1, [v0, .int 0, .int 0]))] := hD
  refine W.widen (k := 0) (n := 0) (Nat.le_of_ble_eq_true rfl) (Nat.le_of_ble_eq_true rfl) ?_
  have hP9 : va_P G vwCl [(h, .inr (1, [v0, .int 0, .int 0]))] _ := hP.sub [0] rfl
  have hD9 : va_D A [(h, .inr (1, [v0, .int 0, .int 0]))] := hD.sub [0] (by decide) rfl
  exact W.vret hx hb hr (fun t ht9 hW => ⟨⟨(), rfl, trivial, ⟨by rw [ht9]; exact hP9, hD9⟩⟩, hS.F ht9⟩) hS.2.2 dX1_pick_35
set_option maxHeartbeats 4000000 in
set_option maxRecDepth 100000 in
theorem c_choose (l : Launch) (G : va_G) (cy : Nat → ClassId) (sz : Nat) (h : Nat) (n : Int32) (tw : Nat) (t0 : Value) (t1 : Value) (t2 : Value) (t4 : Value) (t5 : Value) (t6 : Value) (t7 : Value) (t8 : Value) (v0 : Value) (v1 : Value) (v2 : Value)  : Met l yX1_choose (.code yX1_choose cX1_choose 5 (some .int) :: TBg) ({ frames := 2, cells := 0, slots := 0, locals := 128 }) (va_Pc [.ref h, .ref tw, .int n] (En G cy [(h, .inr (1, [v0, v1, v2])), (tw, .inr (9, [t0, t1, t2, .int 0, t4, t5, t6, t7, t8]))] sz)) (va_Qi (fun (r : Int32) (_ : Unit) => r = 0 ∧ True) (fun _ _ => True) (va_A [(h, .inr (1, [v0, v1, v2])), (tw, .inr (9, [t0, t1, t2, .int 0, t4, t5, t6, t7, t8]))] sz)) 0 0 (va_A [(h, .inr (1, [v0, v1, v2])), (tw, .inr (9, [t0, t1, t2, .int 0, t4, t5, t6, t7, t8]))] sz) := by
  refine Met.ofW (cc := cX1_choose) (maxL := 5) (ret := (some .int)) (by decide) rfl ?_
  intro p e s m args below meth c s₁ B hml hv
  obtain ⟨rfl, hsz, hP, hK, hD0, hN⟩ := hv
  have hx := B.exec
  have hb := B.bytes
  have hr := B.returns
  have hts := atoms_spec (ws := .code yX1_choose cX1_choose 5 (some .int) :: TBg) B.pre
  have ht : ∀ w ∈ TBg, w.before _ s = true := fun w h => hts w (List.mem_cons_of_mem _ h)
  have hown : s.vm.findClass RX1 = some m.cls := findClass_of_methodNamed B.named
  have hlocks := B.notSynchronized
  subst hsz
  have hD := hD0.self (sz := s.heap.size)
  generalize hAe : va_A [(h, .inr (1, [v0, v1, v2])), (tw, .inr (9, [t0, t1, t2, .int 0, t4, t5, t6, t7, t8]))] s.heap.size = A at hD ⊢
  have hA : ∀ q : Nat, s.heap.size ≤ q → A q := fun q h => by rw [← hAe]; exact Or.inr h
  have hS : va_S A s.heap s.heap [] := va_S.rf
  have hl := lv_entry ([.ref h, .ref tw, .int n]) (n := 5) (Nat.le_of_ble_eq_true rfl)
  rw [lg_entry_eq]
  generalize (lg_sl ([.ref h, .ref tw, .int n]) ++ List.replicate (5 - (lg_sl ([.ref h, .ref tw, .int n])).length) Slot.unset).toArray = ls at hl ⊢
  have hl : lv_has ls 5 [(0, .ref h), (1, .ref tw), (2, .int n)] := hl
  refine lv_iconst (v := 0) hx hb dX1_choose_0 (by decide) ?_
  refine lv_istore_n (lv' := [(3, .int 0), (0, .ref h), (1, .ref tw), (2, .int n)]) hx hb dX1_choose_1 rfl hl (by decide) rfl (fun ls hl => ?_)
  refine lv_iload_n hx hb dX1_choose_2 rfl (lv_at hl 0 rfl) ?_
  refine lv_aload_n hx hb dX1_choose_3 rfl (lv_at hl 2 rfl) ?_
  refine va_getN (host := "TuneLocks") (ci := 9) (v := .int 0) (C := RX9) (T := TX9) (N := 9) hx hb ht iX9 hown hK hP 1 rfl rfl 3 (by decide) (va_Nw.use rfl (hN.1 _ ns_23)) (fun _ h9 => h9) rfl dX1_choose_4 ?_
  refine lv_icmp_ge (tgt := 71) hx hb dX1_choose_7 (by decide) (fun _ => ?_) (fun c9 => absurd (by decide) c9)
  refine lv_aload_n hx hb dX1_choose_71 rfl (lv_at hl 1 rfl) ?_
  refine lv_iconst (v := 0) hx hb dX1_choose_72 (by decide) ?_
  refine va_put (ci := 1) (v := .int 0) (ty := .int) (C := RX1) (T := TX1) (N := 3) hx hb ht iX1 tyX1 tyX1_ok nmX1 hown hK hP hD hS 0 rfl rfl 1 (by decide) (ht _ k_139) (fun _ h9 => h9) rfl (by decide +kernel) rfl rfl (Nat.le_of_ble_eq_true rfl) dX1_choose_73 (fun H locs hP hD hS => ?_)
  have hP : va_P G vwCl [(h, .inr (1, [v0, .int 0, v2])), (tw, .inr (9, [t0, t1, t2, .int 0, t4, t5, t6, t7, t8]))] H := hP
  have hD : va_D A [(h, .inr (1, [v0, .int 0, v2])), (tw, .inr (9, [t0, t1, t2, .int 0, t4, t5, t6, t7, t8]))] := hD
  refine lv_aload_n hx hb dX1_choose_76 rfl (lv_at hl 1 rfl) ?_
  refine lv_iconst (v := (-1)) hx hb dX1_choose_77 (by decide) ?_
  refine va_put (ci := 1) (v := .int (-1)) (ty := .int) (C := RX1) (T := TX1) (N := 3) hx hb ht iX1 tyX1 tyX1_ok nmX1 hown hK hP hD hS 0 rfl rfl 2 (by decide) (ht _ k_138) (fun _ h9 => h9) rfl (by decide +kernel) rfl rfl (Nat.le_of_ble_eq_true rfl) dX1_choose_78 (fun H locs hP hD hS => ?_)
  have hP : va_P G vwCl [(h, .inr (1, [v0, .int 0, .int (-1)])), (tw, .inr (9, [t0, t1, t2, .int 0, t4, t5, t6, t7, t8]))] H := hP
  have hD : va_D A [(h, .inr (1, [v0, .int 0, .int (-1)])), (tw, .inr (9, [t0, t1, t2, .int 0, t4, t5, t6, t7, t8]))] := hD
  refine lv_aload_n hx hb dX1_choose_81 rfl (lv_at hl 1 rfl) ?_
  refine lv_aload_n hx hb dX1_choose_82 rfl (lv_at hl 2 rfl) ?_
  refine va_getN (host := "TuneLocks") (ci := 9) (v := .int 0) (C := RX9) (T := TX9) (N := 9) hx hb ht iX9 hown hK hP 1 rfl rfl 3 (by decide) (va_Nw.use rfl (hN.1 _ ns_23)) (fun _ h9 => h9) rfl dX1_choose_83 ?_
  refine lv_iconst (v := 0) hx hb dX1_choose_86 (by decide) ?_
  refine lv_iconst (v := 0) hx hb dX1_choose_87 (by decide) ?_
  have hFc := va_free (wc := [(h, .inr (1, [v0, .int 0, .int (-1)]))]) hD hS hA [0] rfl
  have hPc := hP.sub (ws' := [(h, .inr (1, [v0, .int 0, .int (-1)]))]) [0] rfl
  have hDc := hD.sub (ws' := [(h, .inr (1, [v0, .int 0, .int (-1)]))]) [0] (by decide) rfl
  refine va_callv (va_runS (As := [.ref h, .int 0, .int 0, .int 0]) (rest := []) ⟨hx, hb, hml, hown, ht⟩ (c_pick l G cy _ h (v0) ) (va_cwS 4 ht (gs k_141 k_142 k_102 k_140) rfl rfl rfl (by decide +kernel) ⟨Nat.le_of_ble_eq_true rfl, Nat.le_of_ble_eq_true rfl⟩) ⟨En.blind, fun U hU hW => ⟨rfl, En.of hU hW hPc hK hDc hN⟩⟩ rfl rfl hl.1 rfl (lv_room (Nat.le_of_ble_eq_true rfl)) dX1_choose_88 ⟨Nat.le_of_ble_eq_true rfl, Nat.le_of_ble_eq_true rfl⟩) hS (fun q _ h => hFc q h) hFc (fun u_1 t H locs ht9 hvm hw hB hz1 hk1 hS => ?_)
  obtain ⟨hP1, hD1⟩ := hB
  rw [ht9] at hP1
  obtain ⟨hP, hD⟩ := fr_put (wc := [(h, .inr (1, [v0, .int 0, .int (-1)]))]) (w1 := [(h, .inr (1, [v0, .int 0, .int 0]))]) hP hD [0] rfl rfl rfl hk1 hP1
  clear hFc hPc hDc hP1 hD1 hz1 hk1
  have hP : va_P G vwCl [(h, .inr (1, [v0, .int 0, .int 0])), (tw, .inr (9, [t0, t1, t2, .int 0, t4, t5, t6, t7, t8]))] H := hP
  have hD : va_D A [(h, .inr (1, [v0, .int 0, .int 0])), (tw, .inr (9, [t0, t1, t2, .int 0, t4, t5, t6, t7, t8]))] := hD
  refine lv_aload_n hx hb dX1_choose_91 rfl (lv_at hl 1 rfl) ?_
  refine va_get (ci := 1) (v := .int 0) (C := RX1) (T := TX1) (N := 3) hx hb ht iX1 hown hK hP 0 rfl rfl 1 (by decide) (ht _ k_139) (fun _ h9 => h9) rfl dX1_choose_92 ?_
  refine W.widen (k := 0) (n := 0) (Nat.le_of_ble_eq_true rfl) (Nat.le_of_ble_eq_true rfl) ?_
  exact W.iret (v := 0) hx hb hr (fun t ht9 hW => ⟨⟨0, (), rfl, ⟨rfl, trivial⟩, trivial⟩, hS.F ht9⟩) hS.2.2 dX1_choose_95
set_option maxHeartbeats 4000000 in
set_option maxRecDepth 100000 in
theorem c_layNext (l : Launch) (G : va_G) (cy : Nat → ClassId) (sz : Nat) (h : Nat) (r : Nat) (b : Nat) (f : Nat → Int32) (g : Nat → Int32) (v0 : Value) (v1 : Value) (v3 : Value)  : Met l yX3_layNext (.code yX3_layNext cX3_layNext 6 none :: TBg) ({ frames := 1, cells := 0, slots := 0, locals := 64 }) (va_Pc [.ref h, .int 0, .int 0, .int 0] (En G cy [(h, .inr (3, [v0, v1, .int 0, v3, .ref r, .ref b, .int 73])), (r, .inl (cy 0, 6, .inl f)), (b, .inl (cy 0, 6, .inl g))] sz)) (va_Qv (fun u : Nat → Nat → Int32 => True) (fun u t => Ex G (va_A [(h, .inr (3, [v0, v1, .int 0, v3, .ref r, .ref b, .int 73])), (r, .inl (cy 0, 6, .inl f)), (b, .inl (cy 0, 6, .inl g))] sz) [(h, .inr (3, [v0, v1, .int 0, v3, .ref r, .ref b, .int 0])), (r, .inl (cy 0, 6, .inl (u 0))), (b, .inl (cy 0, 6, .inl (u 1)))] t) (va_A [(h, .inr (3, [v0, v1, .int 0, v3, .ref r, .ref b, .int 73])), (r, .inl (cy 0, 6, .inl f)), (b, .inl (cy 0, 6, .inl g))] sz)) 0 0 (va_A [(h, .inr (3, [v0, v1, .int 0, v3, .ref r, .ref b, .int 73])), (r, .inl (cy 0, 6, .inl f)), (b, .inl (cy 0, 6, .inl g))] sz) := by
  refine Met.ofW (cc := cX3_layNext) (maxL := 6) (ret := none) (by decide) rfl ?_
  intro p e s m args below meth c s₁ B hml hv
  obtain ⟨rfl, hsz, hP, hK, hD0, hN⟩ := hv
  have hx := B.exec
  have hb := B.bytes
  have hr := B.returns
  have hts := atoms_spec (ws := .code yX3_layNext cX3_layNext 6 none :: TBg) B.pre
  have ht : ∀ w ∈ TBg, w.before _ s = true := fun w h => hts w (List.mem_cons_of_mem _ h)
  have hown : s.vm.findClass RX3 = some m.cls := findClass_of_methodNamed B.named
  have hlocks := B.notSynchronized
  subst hsz
  have hD := hD0.self (sz := s.heap.size)
  generalize hAe : va_A [(h, .inr (3, [v0, v1, .int 0, v3, .ref r, .ref b, .int 73])), (r, .inl (cy 0, 6, .inl f)), (b, .inl (cy 0, 6, .inl g))] s.heap.size = A at hD ⊢
  have hA : ∀ q : Nat, s.heap.size ≤ q → A q := fun q h => by rw [← hAe]; exact Or.inr h
  have hS : va_S A s.heap s.heap [] := va_S.rf
  have hl := lv_entry ([.ref h, .int 0, .int 0, .int 0]) (n := 6) (Nat.le_of_ble_eq_true rfl)
  rw [lg_entry_eq]
  generalize (lg_sl ([.ref h, .int 0, .int 0, .int 0]) ++ List.replicate (6 - (lg_sl ([.ref h, .int 0, .int 0, .int 0])).length) Slot.unset).toArray = ls at hl ⊢
  have hl : lv_has ls 6 [(0, .ref h), (1, .int 0), (2, .int 0), (3, .int 0)] := hl
  refine lv_iload_n hx hb dX3_layNext_0 rfl (lv_at hl 3 rfl) ?_
  refine lv_aload_n hx hb dX3_layNext_1 rfl (lv_at hl 0 rfl) ?_
  refine va_get (ci := 3) (v := .int 73) (C := RX3) (T := TX3) (N := 7) hx hb ht iX3 hown hK hP 0 rfl rfl 6 (by decide) (ht _ k_143) (fun _ h9 => h9) rfl dX3_layNext_2 ?_
  refine lv_icmp_lt (tgt := 9) hx hb dX3_layNext_5 (by decide) (fun _ => ?_) (fun c9 => absurd (by decide) c9)
  refine lv_iload_n hx hb dX3_layNext_9 rfl (lv_at hl 1 rfl) ?_
  refine lv_aload_n hx hb dX3_layNext_10 rfl (lv_at hl 0 rfl) ?_
  refine va_get (ci := 3) (v := .int 0) (C := RX3) (T := TX3) (N := 7) hx hb ht iX3 hown hK hP 0 rfl rfl 2 (by decide) (ht _ k_144) (fun _ h9 => h9) rfl dX3_layNext_11 ?_
  refine lv_icmp_ge (tgt := 23) hx hb dX3_layNext_14 (by decide) (fun _ => ?_) (fun c9 => absurd (by decide) c9)
  refine lv_aload_n hx hb dX3_layNext_23 rfl (lv_at hl 0 rfl) ?_
  refine lv_iload_n hx hb dX3_layNext_24 rfl (lv_at hl 3 rfl) ?_
  refine va_put (ci := 3) (v := .int 0) (ty := .int) (C := RX3) (T := TX3) (N := 7) hx hb ht iX3 tyX3 tyX3_ok nmX3 hown hK hP hD hS 0 rfl rfl 6 (by decide) (ht _ k_143) (fun _ h9 => h9) rfl (by decide +kernel) rfl rfl (Nat.le_of_ble_eq_true rfl) dX3_layNext_25 (fun H locs hP hD hS => ?_)
  have hP : va_P G vwCl [(h, .inr (3, [v0, v1, .int 0, v3, .ref r, .ref b, .int 0])), (r, .inl (cy 0, 6, .inl f)), (b, .inl (cy 0, 6, .inl g))] H := hP
  have hD : va_D A [(h, .inr (3, [v0, v1, .int 0, v3, .ref r, .ref b, .int 0])), (r, .inl (cy 0, 6, .inl f)), (b, .inl (cy 0, 6, .inl g))] := hD
  refine lv_aload_n hx hb dX3_layNext_28 rfl (lv_at hl 0 rfl) ?_
  refine va_get (ci := 3) (v := .ref r) (C := RX3) (T := TX3) (N := 7) hx hb ht iX3 hown hK hP 0 rfl rfl 4 (by decide) (ht _ k_36) (fun _ h9 => h9) rfl dX3_layNext_29 ?_
  refine lv_iconst (v := 0) hx hb dX3_layNext_32 (by decide) ?_
  refine lv_aload_n hx hb dX3_layNext_33 rfl (lv_at hl 0 rfl) ?_
  refine va_get (ci := 3) (v := .ref b) (C := RX3) (T := TX3) (N := 7) hx hb ht iX3 hown hK hP 0 rfl rfl 5 (by decide) (ht _ k_37) (fun _ h9 => h9) rfl dX3_layNext_34 ?_
  refine lv_iconst (v := 0) hx hb dX3_layNext_37 (by decide) ?_
  refine lv_bipush (v := 6) hx hb dX3_layNext_38 (by decide) ?_
  refine va_copyi (ty := .int) hx hb (by rw [hml]; exact hl.1.symm) hown (ht _ k_145) (ht _ k_133) (ht _ k_134) (ht _ k_135) hK hP hD hS 1 2 0 0 rfl rfl rfl rfl rfl (by decide) (by decide) (by decide) (Nat.le_of_ble_eq_true rfl) (Nat.le_of_ble_eq_true rfl) (fun _ _ => rfl) (Nat.le_of_ble_eq_true rfl) (Nat.le_of_ble_eq_true rfl) dX3_layNext_40 (fun H locs hP hD hS => ?_)
  obtain ⟨f_1, ef_1⟩ : ∃ g9 : Nat → Int32, g9 = va_cpy f g ((0 : Int32).toNatClampNeg) ((0 : Int32).toNatClampNeg) ((6 : Int32).toNatClampNeg) := ⟨_, rfl⟩
  rw [← ef_1] at hP hD
  have hP : va_P G vwCl [(h, .inr (3, [v0, v1, .int 0, v3, .ref r, .ref b, .int 0])), (r, .inl (cy 0, 6, .inl f)), (b, .inl (cy 0, 6, .inl f_1))] H := hP
  have hD : va_D A [(h, .inr (3, [v0, v1, .int 0, v3, .ref r, .ref b, .int 0])), (r, .inl (cy 0, 6, .inl f)), (b, .inl (cy 0, 6, .inl f_1))] := hD
  refine W.widen (k := 0) (n := 0) (Nat.le_of_ble_eq_true rfl) (Nat.le_of_ble_eq_true rfl) ?_
  have hP9 : va_P G vwCl [(h, .inr (3, [v0, v1, .int 0, v3, .ref r, .ref b, .int 0])), (r, .inl (cy 0, 6, .inl ((lsf [f, f_1]) 0))), (b, .inl (cy 0, 6, .inl ((lsf [f, f_1]) 1)))] _ := hP.sub [0, 1, 2] rfl
  have hD9 : va_D A [(h, .inr (3, [v0, v1, .int 0, v3, .ref r, .ref b, .int 0])), (r, .inl (cy 0, 6, .inl ((lsf [f, f_1]) 0))), (b, .inl (cy 0, 6, .inl ((lsf [f, f_1]) 1)))] := hD.sub [0, 1, 2] (by decide) rfl
  exact W.vret hx hb hr (fun t ht9 hW => ⟨⟨(lsf [f, f_1]), rfl, trivial, ⟨by rw [ht9]; exact hP9, hD9⟩⟩, hS.F ht9⟩) hS.2.2 dX3_layNext_43
set_option maxHeartbeats 4000000 in
set_option maxRecDepth 100000 in
theorem c_lay (l : Launch) (G : va_G) (cy : Nat → ClassId) (sz : Nat) (h : Nat) (r : Nat) (b : Nat) (f : Nat → Int32) (g : Nat → Int32) (tw : Nat) (t0 : Value) (t1 : Value) (t2 : Value) (t4 : Value) (t5 : Value) (t6 : Value) (t7 : Value) (t8 : Value) (v0 : Value) (v1 : Value) (v2 : Value) (v3 : Value) (v6 : Value)  : Met l yX3_lay (.code yX3_lay cX3_lay 5 none :: TBg) ({ frames := 2, cells := 0, slots := 0, locals := 128 }) (va_Pc [.ref h, .ref tw, .int 0] (En G cy [(h, .inr (3, [v0, v1, v2, v3, .ref r, .ref b, v6])), (r, .inl (cy 0, 6, .inl f)), (b, .inl (cy 0, 6, .inl g)), (tw, .inr (9, [t0, t1, t2, .int 0, t4, t5, t6, t7, t8]))] sz)) (va_Qv (fun u : Nat → Nat → Int32 => True) (fun u t => Ex G (va_A [(h, .inr (3, [v0, v1, v2, v3, .ref r, .ref b, v6])), (r, .inl (cy 0, 6, .inl f)), (b, .inl (cy 0, 6, .inl g)), (tw, .inr (9, [t0, t1, t2, .int 0, t4, t5, t6, t7, t8]))] sz) [(h, .inr (3, [v0, v1, .int 0, v3, .ref r, .ref b, .int 0])), (r, .inl (cy 0, 6, .inl (u 0))), (b, .inl (cy 0, 6, .inl (u 1))), (tw, .inr (9, [t0, t1, t2, .int 0, t4, t5, t6, t7, t8]))] t) (va_A [(h, .inr (3, [v0, v1, v2, v3, .ref r, .ref b, v6])), (r, .inl (cy 0, 6, .inl f)), (b, .inl (cy 0, 6, .inl g)), (tw, .inr (9, [t0, t1, t2, .int 0, t4, t5, t6, t7, t8]))] sz)) 0 0 (va_A [(h, .inr (3, [v0, v1, v2, v3, .ref r, .ref b, v6])), (r, .inl (cy 0, 6, .inl f)), (b, .inl (cy 0, 6, .inl g)), (tw, .inr (9, [t0, t1, t2, .int 0, t4, t5, t6, t7, t8]))] sz) := by
  refine Met.ofW (cc := cX3_lay) (maxL := 5) (ret := none) (by decide) rfl ?_
  intro p e s m args below meth c s₁ B hml hv
  obtain ⟨rfl, hsz, hP, hK, hD0, hN⟩ := hv
  have hx := B.exec
  have hb := B.bytes
  have hr := B.returns
  have hts := atoms_spec (ws := .code yX3_lay cX3_lay 5 none :: TBg) B.pre
  have ht : ∀ w ∈ TBg, w.before _ s = true := fun w h => hts w (List.mem_cons_of_mem _ h)
  have hown : s.vm.findClass RX3 = some m.cls := findClass_of_methodNamed B.named
  have hlocks := B.notSynchronized
  subst hsz
  have hD := hD0.self (sz := s.heap.size)
  generalize hAe : va_A [(h, .inr (3, [v0, v1, v2, v3, .ref r, .ref b, v6])), (r, .inl (cy 0, 6, .inl f)), (b, .inl (cy 0, 6, .inl g)), (tw, .inr (9, [t0, t1, t2, .int 0, t4, t5, t6, t7, t8]))] s.heap.size = A at hD ⊢
  have hA : ∀ q : Nat, s.heap.size ≤ q → A q := fun q h => by rw [← hAe]; exact Or.inr h
  have hS : va_S A s.heap s.heap [] := va_S.rf
  have hl := lv_entry ([.ref h, .ref tw, .int 0]) (n := 5) (Nat.le_of_ble_eq_true rfl)
  rw [lg_entry_eq]
  generalize (lg_sl ([.ref h, .ref tw, .int 0]) ++ List.replicate (5 - (lg_sl ([.ref h, .ref tw, .int 0])).length) Slot.unset).toArray = ls at hl ⊢
  have hl : lv_has ls 5 [(0, .ref h), (1, .ref tw), (2, .int 0)] := hl
  refine lv_aload_n hx hb dX3_lay_0 rfl (lv_at hl 0 rfl) ?_
  refine lv_iconst (v := 0) hx hb dX3_lay_1 (by decide) ?_
  refine va_put (ci := 3) (v := .int 0) (ty := .int) (C := RX3) (T := TX3) (N := 7) hx hb ht iX3 tyX3 tyX3_ok nmX3 hown hK hP hD hS 0 rfl rfl 2 (by decide) (ht _ k_144) (fun _ h9 => h9) rfl (by decide +kernel) rfl rfl (Nat.le_of_ble_eq_true rfl) dX3_lay_2 (fun H locs hP hD hS => ?_)
  have hP : va_P G vwCl [(h, .inr (3, [v0, v1, .int 0, v3, .ref r, .ref b, v6])), (r, .inl (cy 0, 6, .inl f)), (b, .inl (cy 0, 6, .inl g)), (tw, .inr (9, [t0, t1, t2, .int 0, t4, t5, t6, t7, t8]))] H := hP
  have hD : va_D A [(h, .inr (3, [v0, v1, .int 0, v3, .ref r, .ref b, v6])), (r, .inl (cy 0, 6, .inl f)), (b, .inl (cy 0, 6, .inl g)), (tw, .inr (9, [t0, t1, t2, .int 0, t4, t5, t6, t7, t8]))] := hD
  refine lv_iconst (v := 0) hx hb dX3_lay_5 (by decide) ?_
  refine lv_istore_n (lv' := [(3, .int 0), (0, .ref h), (1, .ref tw), (2, .int 0)]) hx hb dX3_lay_6 rfl hl (by decide) rfl (fun ls hl => ?_)
  refine lv_iload_n hx hb dX3_lay_7 rfl (lv_at hl 0 rfl) ?_
  refine lv_aload_n hx hb dX3_lay_8 rfl (lv_at hl 2 rfl) ?_
  refine va_getN (host := "TuneLocks") (ci := 9) (v := .int 0) (C := RX9) (T := TX9) (N := 9) hx hb ht iX9 hown hK hP 3 rfl rfl 3 (by decide) (va_Nw.use rfl (hN.1 _ ns_27)) (fun _ h9 => h9) rfl dX3_lay_9 ?_
  refine lv_icmp_ge (tgt := 85) hx hb dX3_lay_12 (by decide) (fun _ => ?_) (fun c9 => absurd (by decide) c9)
  refine lv_iconst (v := 0) hx hb dX3_lay_85 (by decide) ?_
  refine lv_istore_n (lv' := [(3, .int 0), (0, .ref h), (1, .ref tw), (2, .int 0)]) hx hb dX3_lay_86 rfl hl (by decide) rfl (fun ls hl => ?_)
  refine lv_iload_n hx hb dX3_lay_87 rfl (lv_at hl 0 rfl) ?_
  refine lv_aload_n hx hb dX3_lay_88 rfl (lv_at hl 1 rfl) ?_
  refine va_get (ci := 3) (v := .int 0) (C := RX3) (T := TX3) (N := 7) hx hb ht iX3 hown hK hP 0 rfl rfl 2 (by decide) (ht _ k_144) (fun _ h9 => h9) rfl dX3_lay_89 ?_
  refine lv_icmp_ge (tgt := 154) hx hb dX3_lay_92 (by decide) (fun _ => ?_) (fun c9 => absurd (by decide) c9)
  refine lv_aload_n hx hb dX3_lay_154 rfl (lv_at hl 1 rfl) ?_
  refine lv_bipush (v := 73) hx hb dX3_lay_155 (by decide) ?_
  refine va_put (ci := 3) (v := .int 73) (ty := .int) (C := RX3) (T := TX3) (N := 7) hx hb ht iX3 tyX3 tyX3_ok nmX3 hown hK hP hD hS 0 rfl rfl 6 (by decide) (ht _ k_143) (fun _ h9 => h9) rfl (by decide +kernel) rfl rfl (Nat.le_of_ble_eq_true rfl) dX3_lay_157 (fun H locs hP hD hS => ?_)
  have hP : va_P G vwCl [(h, .inr (3, [v0, v1, .int 0, v3, .ref r, .ref b, .int 73])), (r, .inl (cy 0, 6, .inl f)), (b, .inl (cy 0, 6, .inl g)), (tw, .inr (9, [t0, t1, t2, .int 0, t4, t5, t6, t7, t8]))] H := hP
  have hD : va_D A [(h, .inr (3, [v0, v1, .int 0, v3, .ref r, .ref b, .int 73])), (r, .inl (cy 0, 6, .inl f)), (b, .inl (cy 0, 6, .inl g)), (tw, .inr (9, [t0, t1, t2, .int 0, t4, t5, t6, t7, t8]))] := hD
  refine lv_aload_n hx hb dX3_lay_160 rfl (lv_at hl 1 rfl) ?_
  refine lv_iconst (v := 0) hx hb dX3_lay_161 (by decide) ?_
  refine lv_iconst (v := 0) hx hb dX3_lay_162 (by decide) ?_
  refine lv_iconst (v := 0) hx hb dX3_lay_163 (by decide) ?_
  have hFc := va_free (wc := [(h, .inr (3, [v0, v1, .int 0, v3, .ref r, .ref b, .int 73])), (r, .inl (cy 0, 6, .inl f)), (b, .inl (cy 0, 6, .inl g))]) hD hS hA [0, 1, 2] rfl
  have hPc := hP.sub (ws' := [(h, .inr (3, [v0, v1, .int 0, v3, .ref r, .ref b, .int 73])), (r, .inl (cy 0, 6, .inl f)), (b, .inl (cy 0, 6, .inl g))]) [0, 1, 2] rfl
  have hDc := hD.sub (ws' := [(h, .inr (3, [v0, v1, .int 0, v3, .ref r, .ref b, .int 73])), (r, .inl (cy 0, 6, .inl f)), (b, .inl (cy 0, 6, .inl g))]) [0, 1, 2] (by decide) rfl
  refine va_callv (va_runS (As := [.ref h, .int 0, .int 0, .int 0]) (rest := []) ⟨hx, hb, hml, hown, ht⟩ (c_layNext l G cy _ h r b f g (v0) (v1) (v3) ) (va_cwS 4 ht (gs k_147 k_148 k_108 k_146) rfl rfl rfl (by decide +kernel) ⟨Nat.le_of_ble_eq_true rfl, Nat.le_of_ble_eq_true rfl⟩) ⟨En.blind, fun U hU hW => ⟨rfl, En.of hU hW hPc hK hDc hN⟩⟩ rfl rfl hl.1 rfl (lv_room (Nat.le_of_ble_eq_true rfl)) dX3_lay_164 ⟨Nat.le_of_ble_eq_true rfl, Nat.le_of_ble_eq_true rfl⟩) hS (fun q _ h => hFc q h) hFc (fun u_1 t H locs ht9 hvm hw hB hz1 hk1 hS => ?_)
  obtain ⟨hP1, hD1⟩ := hB
  rw [ht9] at hP1
  obtain ⟨hP, hD⟩ := fr_put (wc := [(h, .inr (3, [v0, v1, .int 0, v3, .ref r, .ref b, .int 73])), (r, .inl (cy 0, 6, .inl f)), (b, .inl (cy 0, 6, .inl g))]) (w1 := [(h, .inr (3, [v0, v1, .int 0, v3, .ref r, .ref b, .int 0])), (r, .inl (cy 0, 6, .inl (u_1 0))), (b, .inl (cy 0, 6, .inl (u_1 1)))]) hP hD [0, 1, 2] rfl rfl rfl hk1 hP1
  clear hFc hPc hDc hP1 hD1 hz1 hk1
  have hP : va_P G vwCl [(h, .inr (3, [v0, v1, .int 0, v3, .ref r, .ref b, .int 0])), (r, .inl (cy 0, 6, .inl (u_1 0))), (b, .inl (cy 0, 6, .inl (u_1 1))), (tw, .inr (9, [t0, t1, t2, .int 0, t4, t5, t6, t7, t8]))] H := hP
  have hD : va_D A [(h, .inr (3, [v0, v1, .int 0, v3, .ref r, .ref b, .int 0])), (r, .inl (cy 0, 6, .inl (u_1 0))), (b, .inl (cy 0, 6, .inl (u_1 1))), (tw, .inr (9, [t0, t1, t2, .int 0, t4, t5, t6, t7, t8]))] := hD
  refine W.widen (k := 0) (n := 0) (Nat.le_of_ble_eq_true rfl) (Nat.le_of_ble_eq_true rfl) ?_
  have hP9 : va_P G vwCl [(h, .inr (3, [v0, v1, .int 0, v3, .ref r, .ref b, .int 0])), (r, .inl (cy 0, 6, .inl ((lsf [(u_1 0), (u_1 1)]) 0))), (b, .inl (cy 0, 6, .inl ((lsf [(u_1 0), (u_1 1)]) 1))), (tw, .inr (9, [t0, t1, t2, .int 0, t4, t5, t6, t7, t8]))] _ := hP.sub [0, 1, 2, 3] rfl
  have hD9 : va_D A [(h, .inr (3, [v0, v1, .int 0, v3, .ref r, .ref b, .int 0])), (r, .inl (cy 0, 6, .inl ((lsf [(u_1 0), (u_1 1)]) 0))), (b, .inl (cy 0, 6, .inl ((lsf [(u_1 0), (u_1 1)]) 1))), (tw, .inr (9, [t0, t1, t2, .int 0, t4, t5, t6, t7, t8]))] := hD.sub [0, 1, 2, 3] (by decide) rfl
  exact W.vret hx hb hr (fun t ht9 hW => ⟨⟨(lsf [(u_1 0), (u_1 1)]), rfl, trivial, ⟨by rw [ht9]; exact hP9, hD9⟩⟩, hS.F ht9⟩) hS.2.2 dX3_lay_167
set_option maxHeartbeats 4000000 in
set_option maxRecDepth 100000 in
theorem c_fewest (l : Launch) (G : va_G) (cy : Nat → ClassId) (sz : Nat) (h : Nat) (v0 : Value) (v1 : Value) (v2 : Value) (v3 : Value) (v4 : Value) (v5 : Value)  : Met l yX3_fewestNotes (.code yX3_fewestNotes cX3_fewestNotes 1 (some .int) :: TBg) ({ frames := 1, cells := 0, slots := 0, locals := 64 }) (va_Pc [.ref h] (En G cy [(h, .inr (3, [v0, v1, v2, v3, v4, v5, .int 0]))] sz)) (va_Qi (fun (r : Int32) (_ : Unit) => r = 0 ∧ True) (fun _ _ => True) (va_A [] sz)) 0 0 (va_A [] sz) := by
  refine Met.ofW (cc := cX3_fewestNotes) (maxL := 1) (ret := (some .int)) (by decide) rfl ?_
  intro p e s m args below meth c s₁ B hml hv
  obtain ⟨rfl, hsz, hP, hK, hD0, hN⟩ := hv
  have hx := B.exec
  have hb := B.bytes
  have hr := B.returns
  have hts := atoms_spec (ws := .code yX3_fewestNotes cX3_fewestNotes 1 (some .int) :: TBg) B.pre
  have ht : ∀ w ∈ TBg, w.before _ s = true := fun w h => hts w (List.mem_cons_of_mem _ h)
  have hown : s.vm.findClass RX3 = some m.cls := findClass_of_methodNamed B.named
  have hlocks := B.notSynchronized
  subst hsz
  generalize hAe : va_A [] s.heap.size = A at ⊢
  have hA : ∀ q : Nat, s.heap.size ≤ q → A q := fun q h => by rw [← hAe]; exact Or.inr h
  have hS : va_S A s.heap s.heap [] := va_S.rf
  have hl := lv_entry ([.ref h]) (n := 1) (Nat.le_of_ble_eq_true rfl)
  rw [lg_entry_eq]
  generalize (lg_sl ([.ref h]) ++ List.replicate (1 - (lg_sl ([.ref h])).length) Slot.unset).toArray = ls at hl ⊢
  have hl : lv_has ls 1 [(0, .ref h)] := hl
  refine lv_aload_n hx hb dX3_fewestNotes_0 rfl (lv_at hl 0 rfl) ?_
  refine va_get (ci := 3) (v := .int 0) (C := RX3) (T := TX3) (N := 7) hx hb ht iX3 hown hK hP 0 rfl rfl 6 (by decide) (ht _ k_143) (fun _ h9 => h9) rfl dX3_fewestNotes_1 ?_
  refine W.widen (k := 0) (n := 0) (Nat.le_of_ble_eq_true rfl) (Nat.le_of_ble_eq_true rfl) ?_
  exact W.iret (v := 0) hx hb hr (fun t ht9 hW => ⟨⟨0, (), rfl, ⟨rfl, trivial⟩, trivial⟩, hS.F ht9⟩) hS.2.2 dX3_fewestNotes_4
set_option maxHeartbeats 4000000 in
set_option maxRecDepth 100000 in
theorem c_laidAt (l : Launch) (G : va_G) (cy : Nat → ClassId) (sz : Nat) (h : Nat) (t : Int32) (v0 : Value) (v1 : Value) (v3 : Value) (v4 : Value) (v5 : Value) (v6 : Value)  : Met l yX3_laidAt (.code yX3_laidAt cX3_laidAt 2 (some .int) :: TBg) ({ frames := 1, cells := 0, slots := 0, locals := 64 }) (va_Pc [.ref h, .int t] (En G cy [(h, .inr (3, [v0, v1, .int 0, v3, v4, v5, v6]))] sz)) (va_Qi (fun (r : Int32) (_ : Unit) => r = (-1) ∧ True) (fun _ _ => True) (va_A [] sz)) 0 0 (va_A [] sz) := by
  refine Met.ofW (cc := cX3_laidAt) (maxL := 2) (ret := (some .int)) (by decide) rfl ?_
  intro p e s m args below meth c s₁ B hml hv
  obtain ⟨rfl, hsz, hP, hK, hD0, hN⟩ := hv
  have hx := B.exec
  have hb := B.bytes
  have hr := B.returns
  have hts := atoms_spec (ws := .code yX3_laidAt cX3_laidAt 2 (some .int) :: TBg) B.pre
  have ht : ∀ w ∈ TBg, w.before _ s = true := fun w h => hts w (List.mem_cons_of_mem _ h)
  have hown : s.vm.findClass RX3 = some m.cls := findClass_of_methodNamed B.named
  have hlocks := B.notSynchronized
  subst hsz
  generalize hAe : va_A [] s.heap.size = A at ⊢
  have hA : ∀ q : Nat, s.heap.size ≤ q → A q := fun q h => by rw [← hAe]; exact Or.inr h
  have hS : va_S A s.heap s.heap [] := va_S.rf
  have hl := lv_entry ([.ref h, .int t]) (n := 2) (Nat.le_of_ble_eq_true rfl)
  rw [lg_entry_eq]
  generalize (lg_sl ([.ref h, .int t]) ++ List.replicate (2 - (lg_sl ([.ref h, .int t])).length) Slot.unset).toArray = ls at hl ⊢
  have hl : lv_has ls 2 [(0, .ref h), (1, .int t)] := hl
  refine lv_iload_n hx hb dX3_laidAt_0 rfl (lv_at hl 1 rfl) ?_
  refine lv_if_lt (tgt := 26) hx hb dX3_laidAt_1 (by decide) (fun c_1 => ?_) (fun c_1 => ?_)
  · skip
    refine lv_iconst (v := (-1)) hx hb dX3_laidAt_26 (by decide) ?_
    refine W.widen (k := 0) (n := 0) (Nat.le_of_ble_eq_true rfl) (Nat.le_of_ble_eq_true rfl) ?_
    exact W.iret (v := (-1)) hx hb hr (fun t ht9 hW => ⟨⟨(-1), (), rfl, ⟨rfl, trivial⟩, trivial⟩, hS.F ht9⟩) hS.2.2 dX3_laidAt_27
  · skip
    refine lv_iload_n hx hb dX3_laidAt_4 rfl (lv_at hl 1 rfl) ?_
    refine lv_aload_n hx hb dX3_laidAt_5 rfl (lv_at hl 0 rfl) ?_
    refine va_get (ci := 3) (v := .int 0) (C := RX3) (T := TX3) (N := 7) hx hb ht iX3 hown hK hP 0 rfl rfl 2 (by decide) (ht _ k_144) (fun _ h9 => h9) rfl dX3_laidAt_6 ?_
    refine lv_icmp_ge (tgt := 26) hx hb dX3_laidAt_9 (by decide) (fun c_2 => ?_) (fun c_2 => ?_)
    · skip
      refine lv_iconst (v := (-1)) hx hb dX3_laidAt_26 (by decide) ?_
      refine W.widen (k := 0) (n := 0) (Nat.le_of_ble_eq_true rfl) (Nat.le_of_ble_eq_true rfl) ?_
      exact W.iret (v := (-1)) hx hb hr (fun t ht9 hW => ⟨⟨(-1), (), rfl, ⟨rfl, trivial⟩, trivial⟩, hS.F ht9⟩) hS.2.2 dX3_laidAt_27
    · exfalso
      have z0 : (0 : Int32).toInt = 0 := (by decide); (try simp only [ow_lt, ow_le, ow_eq] at c_1 c_2); omega
set_option maxHeartbeats 4000000 in
set_option maxRecDepth 100000 in
theorem c_bitCount (l : Launch) (G : va_G) (cy : Nat → ClassId) (sz : Nat)   : Met l yJ6_bitCount_0f7a4 (.code yJ6_bitCount_0f7a4 cJ6_bitCount_0f7a4 1 (some .int) :: TBg) ({ frames := 1, cells := 0, slots := 0, locals := 64 }) (va_Pc [.int 0] (En G cy [] sz)) (va_Qi (fun (r : Int32) (_ : Unit) => r = 0 ∧ True) (fun _ _ => True) (va_A [] sz)) 0 0 (va_A [] sz) := by
  refine Met.ofW (cc := cJ6_bitCount_0f7a4) (maxL := 1) (ret := (some .int)) (by decide) rfl ?_
  intro p e s m args below meth c s₁ B hml hv
  obtain ⟨rfl, hsz, hP, hK, hD0, hN⟩ := hv
  have hx := B.exec
  have hb := B.bytes
  have hr := B.returns
  have hts := atoms_spec (ws := .code yJ6_bitCount_0f7a4 cJ6_bitCount_0f7a4 1 (some .int) :: TBg) B.pre
  have ht : ∀ w ∈ TBg, w.before _ s = true := fun w h => hts w (List.mem_cons_of_mem _ h)
  have hown : s.vm.findClass RJ6 = some m.cls := findClass_of_methodNamed B.named
  have hlocks := B.notSynchronized
  subst hsz
  generalize hAe : va_A [] s.heap.size = A at ⊢
  have hA : ∀ q : Nat, s.heap.size ≤ q → A q := fun q h => by rw [← hAe]; exact Or.inr h
  have hS : va_S A s.heap s.heap [] := va_S.rf
  have hl := lv_entry ([.int 0]) (n := 1) (Nat.le_of_ble_eq_true rfl)
  rw [lg_entry_eq]
  generalize (lg_sl ([.int 0]) ++ List.replicate (1 - (lg_sl ([.int 0])).length) Slot.unset).toArray = ls at hl ⊢
  have hl : lv_has ls 1 [(0, .int 0)] := hl
  refine lv_iload_n hx hb dJ6_bitCount_0f7a4_0 rfl (lv_at hl 0 rfl) ?_
  refine lv_iload_n hx hb dJ6_bitCount_0f7a4_1 rfl (lv_at hl 0 rfl) ?_
  refine lv_iconst (v := 1) hx hb dJ6_bitCount_0f7a4_2 (by decide) ?_
  refine lv_iushr (v := 0) hx hb dJ6_bitCount_0f7a4_3 (by decide +kernel) ?_
  refine lv_ldcw (v := 1431655765) hx hb hown (ht _ k_149) dJ6_bitCount_0f7a4_4 ?_
  refine lv_iand hx hb dJ6_bitCount_0f7a4_7 ?_
  refine ow_top 0 (by decide +kernel) ?_
  refine lv_isub hx hb dJ6_bitCount_0f7a4_8 ?_
  refine ow_top 0 (by decide +kernel) ?_
  refine lv_istore_n (lv' := [(0, .int 0)]) hx hb dJ6_bitCount_0f7a4_9 rfl hl (by decide) rfl (fun ls hl => ?_)
  refine lv_iload_n hx hb dJ6_bitCount_0f7a4_10 rfl (lv_at hl 0 rfl) ?_
  refine lv_ldcw (v := 858993459) hx hb hown (ht _ k_150) dJ6_bitCount_0f7a4_11 ?_
  refine lv_iand hx hb dJ6_bitCount_0f7a4_14 ?_
  refine ow_top 0 (by decide +kernel) ?_
  refine lv_iload_n hx hb dJ6_bitCount_0f7a4_15 rfl (lv_at hl 0 rfl) ?_
  refine lv_iconst (v := 2) hx hb dJ6_bitCount_0f7a4_16 (by decide) ?_
  refine lv_iushr (v := 0) hx hb dJ6_bitCount_0f7a4_17 (by decide +kernel) ?_
  refine lv_ldcw (v := 858993459) hx hb hown (ht _ k_150) dJ6_bitCount_0f7a4_18 ?_
  refine lv_iand hx hb dJ6_bitCount_0f7a4_21 ?_
  refine ow_top 0 (by decide +kernel) ?_
  refine lv_iadd hx hb dJ6_bitCount_0f7a4_22 ?_
  refine ow_top 0 (by decide +kernel) ?_
  refine lv_istore_n (lv' := [(0, .int 0)]) hx hb dJ6_bitCount_0f7a4_23 rfl hl (by decide) rfl (fun ls hl => ?_)
  refine lv_iload_n hx hb dJ6_bitCount_0f7a4_24 rfl (lv_at hl 0 rfl) ?_
  refine lv_iload_n hx hb dJ6_bitCount_0f7a4_25 rfl (lv_at hl 0 rfl) ?_
  refine lv_iconst (v := 4) hx hb dJ6_bitCount_0f7a4_26 (by decide) ?_
  refine lv_iushr (v := 0) hx hb dJ6_bitCount_0f7a4_27 (by decide +kernel) ?_
  refine lv_iadd hx hb dJ6_bitCount_0f7a4_28 ?_
  refine ow_top 0 (by decide +kernel) ?_
  refine lv_ldcw (v := 252645135) hx hb hown (ht _ k_151) dJ6_bitCount_0f7a4_29 ?_
  refine lv_iand hx hb dJ6_bitCount_0f7a4_32 ?_
  refine ow_top 0 (by decide +kernel) ?_
  refine lv_istore_n (lv' := [(0, .int 0)]) hx hb dJ6_bitCount_0f7a4_33 rfl hl (by decide) rfl (fun ls hl => ?_)
  refine lv_iload_n hx hb dJ6_bitCount_0f7a4_34 rfl (lv_at hl 0 rfl) ?_
  refine lv_iload_n hx hb dJ6_bitCount_0f7a4_35 rfl (lv_at hl 0 rfl) ?_
  refine lv_bipush (v := 8) hx hb dJ6_bitCount_0f7a4_36 (by decide) ?_
  refine lv_iushr (v := 0) hx hb dJ6_bitCount_0f7a4_38 (by decide +kernel) ?_
  refine lv_iadd hx hb dJ6_bitCount_0f7a4_39 ?_
  refine ow_top 0 (by decide +kernel) ?_
  refine lv_istore_n (lv' := [(0, .int 0)]) hx hb dJ6_bitCount_0f7a4_40 rfl hl (by decide) rfl (fun ls hl => ?_)
  refine lv_iload_n hx hb dJ6_bitCount_0f7a4_41 rfl (lv_at hl 0 rfl) ?_
  refine lv_iload_n hx hb dJ6_bitCount_0f7a4_42 rfl (lv_at hl 0 rfl) ?_
  refine lv_bipush (v := 16) hx hb dJ6_bitCount_0f7a4_43 (by decide) ?_
  refine lv_iushr (v := 0) hx hb dJ6_bitCount_0f7a4_45 (by decide +kernel) ?_
  refine lv_iadd hx hb dJ6_bitCount_0f7a4_46 ?_
  refine ow_top 0 (by decide +kernel) ?_
  refine lv_istore_n (lv' := [(0, .int 0)]) hx hb dJ6_bitCount_0f7a4_47 rfl hl (by decide) rfl (fun ls hl => ?_)
  refine lv_iload_n hx hb dJ6_bitCount_0f7a4_48 rfl (lv_at hl 0 rfl) ?_
  refine lv_bipush (v := 63) hx hb dJ6_bitCount_0f7a4_49 (by decide) ?_
  refine lv_iand hx hb dJ6_bitCount_0f7a4_51 ?_
  refine ow_top 0 (by decide +kernel) ?_
  refine W.widen (k := 0) (n := 0) (Nat.le_of_ble_eq_true rfl) (Nat.le_of_ble_eq_true rfl) ?_
  exact W.iret (v := 0) hx hb hr (fun t ht9 hW => ⟨⟨0, (), rfl, ⟨rfl, trivial⟩, trivial⟩, hS.F ht9⟩) hS.2.2 dJ6_bitCount_0f7a4_52
set_option maxHeartbeats 4000000 in
set_option maxRecDepth 100000 in
theorem c_canBeSung (l : Launch) (G : va_G) (cy : Nat → ClassId) (sz : Nat) (t : Int32)  : Met l yX11_canBeSung (.code yX11_canBeSung cX11_canBeSung 1 (some .boolean) :: TBg) ({ frames := 1, cells := 0, slots := 0, locals := 64 }) (va_Pc [.int t] (En G cy [] sz)) (va_Qi (fun (r : Int32) (_ : Unit) => r = (if 0 ≤ t ∧ t ≤ 60 then 1 else 0) ∧ True) (fun _ _ => True) (va_A [] sz)) 0 0 (va_A [] sz) := by
  refine Met.ofW (cc := cX11_canBeSung) (maxL := 1) (ret := (some .boolean)) (by decide) rfl ?_
  intro p e s m args below meth c s₁ B hml hv
  obtain ⟨rfl, hsz, hP, hK, hD0, hN⟩ := hv
  have hx := B.exec
  have hb := B.bytes
  have hr := B.returns
  have hts := atoms_spec (ws := .code yX11_canBeSung cX11_canBeSung 1 (some .boolean) :: TBg) B.pre
  have ht : ∀ w ∈ TBg, w.before _ s = true := fun w h => hts w (List.mem_cons_of_mem _ h)
  have hown : s.vm.findClass RX11 = some m.cls := findClass_of_methodNamed B.named
  have hlocks := B.notSynchronized
  subst hsz
  generalize hAe : va_A [] s.heap.size = A at ⊢
  have hA : ∀ q : Nat, s.heap.size ≤ q → A q := fun q h => by rw [← hAe]; exact Or.inr h
  have hS : va_S A s.heap s.heap [] := va_S.rf
  have hl := lv_entry ([.int t]) (n := 1) (Nat.le_of_ble_eq_true rfl)
  rw [lg_entry_eq]
  generalize (lg_sl ([.int t]) ++ List.replicate (1 - (lg_sl ([.int t])).length) Slot.unset).toArray = ls at hl ⊢
  have hl : lv_has ls 1 [(0, .int t)] := hl
  refine lv_iload_n hx hb dX11_canBeSung_0 rfl (lv_at hl 0 rfl) ?_
  refine lv_if_lt (tgt := 14) hx hb dX11_canBeSung_1 (by decide) (fun c_1 => ?_) (fun c_1 => ?_)
  · skip
    refine lv_iconst (v := 0) hx hb dX11_canBeSung_14 (by decide) ?_
    refine W.widen (k := 0) (n := 0) (Nat.le_of_ble_eq_true rfl) (Nat.le_of_ble_eq_true rfl) ?_
    exact W.zret (v := 0) hx hb hr (by first | rfl | decide) (fun t ht9 hW => ⟨⟨0, (), rfl, ⟨(by have z0 : (0 : Int32).toInt = 0 := (by decide); have z1 : (60 : Int32).toInt = 60 := (by decide); split <;> first | rfl | (exfalso; rename_i hc9; (try simp only [ow_lt, ow_le, ow_eq] at hc9 c_1); omega)), trivial⟩, trivial⟩, hS.F ht9⟩) hS.2.2 dX11_canBeSung_15
  · skip
    refine lv_iload_n hx hb dX11_canBeSung_4 rfl (lv_at hl 0 rfl) ?_
    refine lv_bipush (v := 60) hx hb dX11_canBeSung_5 (by decide) ?_
    refine lv_icmp_gt (tgt := 14) hx hb dX11_canBeSung_7 (by decide) (fun c_2 => ?_) (fun c_2 => ?_)
    · skip
      refine lv_iconst (v := 0) hx hb dX11_canBeSung_14 (by decide) ?_
      refine W.widen (k := 0) (n := 0) (Nat.le_of_ble_eq_true rfl) (Nat.le_of_ble_eq_true rfl) ?_
      exact W.zret (v := 0) hx hb hr (by first | rfl | decide) (fun t ht9 hW => ⟨⟨0, (), rfl, ⟨(by have z0 : (0 : Int32).toInt = 0 := (by decide); have z1 : (60 : Int32).toInt = 60 := (by decide); split <;> first | rfl | (exfalso; rename_i hc9; (try simp only [ow_lt, ow_le, ow_eq] at hc9 c_1 c_2); omega)), trivial⟩, trivial⟩, hS.F ht9⟩) hS.2.2 dX11_canBeSung_15
    · skip
      refine lv_iconst (v := 1) hx hb dX11_canBeSung_10 (by decide) ?_
      refine lv_goto (tgt := 15) hx hb dX11_canBeSung_11 (by decide) ?_
      refine W.widen (k := 0) (n := 0) (Nat.le_of_ble_eq_true rfl) (Nat.le_of_ble_eq_true rfl) ?_
      exact W.zret (v := 1) hx hb hr (by first | rfl | decide) (fun t ht9 hW => ⟨⟨1, (), rfl, ⟨(by have z0 : (0 : Int32).toInt = 0 := (by decide); have z1 : (60 : Int32).toInt = 60 := (by decide); split <;> first | rfl | (exfalso; rename_i hc9; (try simp only [ow_lt, ow_le, ow_eq] at hc9 c_1 c_2); omega)), trivial⟩, trivial⟩, hS.F ht9⟩) hS.2.2 dX11_canBeSung_15
set_option maxHeartbeats 4000000 in
set_option maxRecDepth 100000 in
theorem c_Reader (l : Launch) (G : va_G) (cy : Nat → ClassId) (sz : Nat) (h : Nat) (tp : Nat) (tw : Nat) (f : Nat → Int32)  : Met l yX6_init (.code yX6_init cX6_init 4 none :: TBg) ({ frames := 1, cells := 0, slots := 0, locals := 64 }) (va_Pc [.ref h, .ref tp, .int 0, .ref tw] (En G cy [(h, .inr (6, [.null, .int 0, .null, .int 0, .int 0, .int 0, .int 0, .long 0, .int 0, .int 0, .int 0])), (tp, .inl (cy 1, 1700, .inl f))] sz)) (va_Qv (fun u : Unit => True) (fun u t => Ex G (va_A [(h, .inr (6, [.null, .int 0, .null, .int 0, .int 0, .int 0, .int 0, .long 0, .int 0, .int 0, .int 0])), (tp, .inl (cy 1, 1700, .inl f))] sz) [(h, .inr (6, [.ref tp, .int 0, .ref tw, .int 0, .int 0, .int 0, .int 0, .long 0, .int 0, .int 0, .int (-1)])), (tp, .inl (cy 1, 1700, .inl f))] t) (va_A [(h, .inr (6, [.null, .int 0, .null, .int 0, .int 0, .int 0, .int 0, .long 0, .int 0, .int 0, .int 0])), (tp, .inl (cy 1, 1700, .inl f))] sz)) 0 0 (va_A [(h, .inr (6, [.null, .int 0, .null, .int 0, .int 0, .int 0, .int 0, .long 0, .int 0, .int 0, .int 0])), (tp, .inl (cy 1, 1700, .inl f))] sz) := by
  refine Met.ofW (cc := cX6_init) (maxL := 4) (ret := none) (by decide) rfl ?_
  intro p e s m args below meth c s₁ B hml hv
  obtain ⟨rfl, hsz, hP, hK, hD0, hN⟩ := hv
  have hx := B.exec
  have hb := B.bytes
  have hr := B.returns
  have hts := atoms_spec (ws := .code yX6_init cX6_init 4 none :: TBg) B.pre
  have ht : ∀ w ∈ TBg, w.before _ s = true := fun w h => hts w (List.mem_cons_of_mem _ h)
  have hown : s.vm.findClass RX6 = some m.cls := findClass_of_methodNamed B.named
  have hlocks := B.notSynchronized
  have hin : meth.name = "<init>" := (name_of_methodNamed B.named B.method).1
  subst hsz
  have hD := hD0.self (sz := s.heap.size)
  generalize hAe : va_A [(h, .inr (6, [.null, .int 0, .null, .int 0, .int 0, .int 0, .int 0, .long 0, .int 0, .int 0, .int 0])), (tp, .inl (cy 1, 1700, .inl f))] s.heap.size = A at hD ⊢
  have hA : ∀ q : Nat, s.heap.size ≤ q → A q := fun q h => by rw [← hAe]; exact Or.inr h
  have hS : va_S A s.heap s.heap [] := va_S.rf
  have hl := lv_entry ([.ref h, .ref tp, .int 0, .ref tw]) (n := 4) (Nat.le_of_ble_eq_true rfl)
  rw [lg_entry_eq]
  generalize (lg_sl ([.ref h, .ref tp, .int 0, .ref tw]) ++ List.replicate (4 - (lg_sl ([.ref h, .ref tp, .int 0, .ref tw])).length) Slot.unset).toArray = ls at hl ⊢
  have hl : lv_has ls 4 [(0, .ref h), (1, .ref tp), (2, .int 0), (3, .ref tw)] := hl
  refine lv_aload_n hx hb dX6_init_0 rfl (lv_at hl 0 rfl) ?_
  refine W.objInit hx hb hown (ht _ k_152) (ht _ k_1) (ht _ k_2) rfl (by rw [hml]; exact hl.1) rfl dX6_init_1 (Nat.le_of_ble_eq_true rfl) (Nat.le_of_ble_eq_true rfl) ?_
  refine W.eq (g2 := F0 m 4 ls []) rfl ?_
  refine lv_aload_n hx hb dX6_init_4 rfl (lv_at hl 0 rfl) ?_
  refine lv_iconst (v := (-1)) hx hb dX6_init_5 (by decide) ?_
  refine va_put (ci := 6) (v := .int (-1)) (ty := .int) (C := RX6) (T := TX6) (N := 11) hx hb ht iX6 tyX6 tyX6_ok nmX6 hown hK hP hD hS 0 rfl rfl 10 (by decide) (ht _ k_153) (fun _ h9 => h9) rfl (by decide +kernel) rfl rfl (Nat.le_of_ble_eq_true rfl) dX6_init_6 (fun H locs hP hD hS => ?_)
  have hP : va_P G vwCl [(h, .inr (6, [.null, .int 0, .null, .int 0, .int 0, .int 0, .int 0, .long 0, .int 0, .int 0, .int (-1)])), (tp, .inl (cy 1, 1700, .inl f))] H := hP
  have hD : va_D A [(h, .inr (6, [.null, .int 0, .null, .int 0, .int 0, .int 0, .int 0, .long 0, .int 0, .int 0, .int (-1)])), (tp, .inl (cy 1, 1700, .inl f))] := hD
  refine lv_aload_n hx hb dX6_init_9 rfl (lv_at hl 0 rfl) ?_
  refine lv_aload_n hx hb dX6_init_10 rfl (lv_at hl 1 rfl) ?_
  refine va_putF (ci := 6) (v := .ref tp) (ty := .array (.byte)) (C := RX6) (T := TX6) (N := 11) hx hb ht iX6 tyX6 tyX6_ok nmX6 hown hK hP hD hS 0 rfl rfl 0 (by decide) (ht _ k_154) (fun _ h9 => h9) rfl hin rfl (by decide +kernel) rfl rfl (Nat.le_of_ble_eq_true rfl) dX6_init_11 (fun H locs hP hD hS => ?_)
  have hP : va_P G vwCl [(h, .inr (6, [.ref tp, .int 0, .null, .int 0, .int 0, .int 0, .int 0, .long 0, .int 0, .int 0, .int (-1)])), (tp, .inl (cy 1, 1700, .inl f))] H := hP
  have hD : va_D A [(h, .inr (6, [.ref tp, .int 0, .null, .int 0, .int 0, .int 0, .int 0, .long 0, .int 0, .int 0, .int (-1)])), (tp, .inl (cy 1, 1700, .inl f))] := hD
  refine lv_aload_n hx hb dX6_init_14 rfl (lv_at hl 0 rfl) ?_
  refine lv_iload_n hx hb dX6_init_15 rfl (lv_at hl 2 rfl) ?_
  refine lv_aload_n hx hb dX6_init_16 rfl (lv_at hl 1 rfl) ?_
  refine va_alen (v := 1700) hx hb hK hP 1 1 rfl rfl rfl dX6_init_17 ?_
  refine va_mmin hx hb (by rw [hml]; exact hl.1.symm) hown (ht _ k_155) (ht _ k_156) (ht _ k_27) (ht _ k_157) (Nat.le_of_ble_eq_true rfl) (Nat.le_of_ble_eq_true rfl) (Nat.le_of_ble_eq_true rfl) (Nat.le_of_ble_eq_true rfl) dX6_init_18 ?_
  refine ow_top 0 (by decide +kernel) ?_
  refine va_putF (ci := 6) (v := .int 0) (ty := .int) (C := RX6) (T := TX6) (N := 11) hx hb ht iX6 tyX6 tyX6_ok nmX6 hown hK hP hD hS 0 rfl rfl 1 (by decide) (ht _ k_158) (fun _ h9 => h9) rfl hin rfl (by decide +kernel) rfl rfl (Nat.le_of_ble_eq_true rfl) dX6_init_21 (fun H locs hP hD hS => ?_)
  have hP : va_P G vwCl [(h, .inr (6, [.ref tp, .int 0, .null, .int 0, .int 0, .int 0, .int 0, .long 0, .int 0, .int 0, .int (-1)])), (tp, .inl (cy 1, 1700, .inl f))] H := hP
  have hD : va_D A [(h, .inr (6, [.ref tp, .int 0, .null, .int 0, .int 0, .int 0, .int 0, .long 0, .int 0, .int 0, .int (-1)])), (tp, .inl (cy 1, 1700, .inl f))] := hD
  refine lv_aload_n hx hb dX6_init_24 rfl (lv_at hl 0 rfl) ?_
  refine lv_aload_n hx hb dX6_init_25 rfl (lv_at hl 3 rfl) ?_
  refine va_putF (ci := 6) (v := .ref tw) (ty := .object "TuneLocks$Town") (C := RX6) (T := TX6) (N := 11) hx hb ht iX6 tyX6 tyX6_ok nmX6 hown hK hP hD hS 0 rfl rfl 2 (by decide) (ht _ k_159) (fun _ h9 => h9) rfl hin rfl (by decide +kernel) rfl rfl (Nat.le_of_ble_eq_true rfl) dX6_init_26 (fun H locs hP hD hS => ?_)
  have hP : va_P G vwCl [(h, .inr (6, [.ref tp, .int 0, .ref tw, .int 0, .int 0, .int 0, .int 0, .long 0, .int 0, .int 0, .int (-1)])), (tp, .inl (cy 1, 1700, .inl f))] H := hP
  have hD : va_D A [(h, .inr (6, [.ref tp, .int 0, .ref tw, .int 0, .int 0, .int 0, .int 0, .long 0, .int 0, .int 0, .int (-1)])), (tp, .inl (cy 1, 1700, .inl f))] := hD
  refine W.widen (k := 0) (n := 0) (Nat.le_of_ble_eq_true rfl) (Nat.le_of_ble_eq_true rfl) ?_
  have hP9 : va_P G vwCl [(h, .inr (6, [.ref tp, .int 0, .ref tw, .int 0, .int 0, .int 0, .int 0, .long 0, .int 0, .int 0, .int (-1)])), (tp, .inl (cy 1, 1700, .inl f))] _ := hP.sub [0, 1] rfl
  have hD9 : va_D A [(h, .inr (6, [.ref tp, .int 0, .ref tw, .int 0, .int 0, .int 0, .int 0, .long 0, .int 0, .int 0, .int (-1)])), (tp, .inl (cy 1, 1700, .inl f))] := hD.sub [0, 1] (by decide) rfl
  exact W.vret hx hb hr (fun t ht9 hW => ⟨⟨(), rfl, trivial, ⟨by rw [ht9]; exact hP9, hD9⟩⟩, hS.F ht9⟩) hS.2.2 dX6_init_29
set_option maxHeartbeats 4000000 in
set_option maxRecDepth 100000 in
theorem c_takeToken (l : Launch) (G : va_G) (cy : Nat → ClassId) (sz : Nat) (h : Nat) (tp : Nat) (tw : Nat)  : Met l yX6_takeToken (.code yX6_takeToken cX6_takeToken 1 none :: TBg) ({ frames := 1, cells := 0, slots := 0, locals := 64 }) (va_Pc [.ref h] (En G cy [(h, .inr (6, [.ref tp, .int 0, .ref tw, .int 0, .int 0, .int 0, .int 0, .long 0, .int 0, .int 0, .int (-1)]))] sz)) (va_Qv (fun u : Unit => True) (fun u t => Ex G (va_A [(h, .inr (6, [.ref tp, .int 0, .ref tw, .int 0, .int 0, .int 0, .int 0, .long 0, .int 0, .int 0, .int (-1)]))] sz) [(h, .inr (6, [.ref tp, .int 0, .ref tw, .int 0, .int 17, .int 0, .int 0, .long 0, .int 0, .int 0, .int (-1)]))] t) (va_A [(h, .inr (6, [.ref tp, .int 0, .ref tw, .int 0, .int 0, .int 0, .int 0, .long 0, .int 0, .int 0, .int (-1)]))] sz)) 0 0 (va_A [(h, .inr (6, [.ref tp, .int 0, .ref tw, .int 0, .int 0, .int 0, .int 0, .long 0, .int 0, .int 0, .int (-1)]))] sz) := by
  refine Met.ofW (cc := cX6_takeToken) (maxL := 1) (ret := none) (by decide) rfl ?_
  intro p e s m args below meth c s₁ B hml hv
  obtain ⟨rfl, hsz, hP, hK, hD0, hN⟩ := hv
  have hx := B.exec
  have hb := B.bytes
  have hr := B.returns
  have hts := atoms_spec (ws := .code yX6_takeToken cX6_takeToken 1 none :: TBg) B.pre
  have ht : ∀ w ∈ TBg, w.before _ s = true := fun w h => hts w (List.mem_cons_of_mem _ h)
  have hown : s.vm.findClass RX6 = some m.cls := findClass_of_methodNamed B.named
  have hlocks := B.notSynchronized
  subst hsz
  have hD := hD0.self (sz := s.heap.size)
  generalize hAe : va_A [(h, .inr (6, [.ref tp, .int 0, .ref tw, .int 0, .int 0, .int 0, .int 0, .long 0, .int 0, .int 0, .int (-1)]))] s.heap.size = A at hD ⊢
  have hA : ∀ q : Nat, s.heap.size ≤ q → A q := fun q h => by rw [← hAe]; exact Or.inr h
  have hS : va_S A s.heap s.heap [] := va_S.rf
  have hl := lv_entry ([.ref h]) (n := 1) (Nat.le_of_ble_eq_true rfl)
  rw [lg_entry_eq]
  generalize (lg_sl ([.ref h]) ++ List.replicate (1 - (lg_sl ([.ref h])).length) Slot.unset).toArray = ls at hl ⊢
  have hl : lv_has ls 1 [(0, .ref h)] := hl
  refine lv_aload_n hx hb dX6_takeToken_0 rfl (lv_at hl 0 rfl) ?_
  refine va_get (ci := 6) (v := .int 0) (C := RX6) (T := TX6) (N := 11) hx hb ht iX6 hown hK hP 0 rfl rfl 3 (by decide) (ht _ k_160) (fun _ h9 => h9) rfl dX6_takeToken_1 ?_
  refine lv_aload_n hx hb dX6_takeToken_4 rfl (lv_at hl 0 rfl) ?_
  refine va_get (ci := 6) (v := .int 0) (C := RX6) (T := TX6) (N := 11) hx hb ht iX6 hown hK hP 0 rfl rfl 1 (by decide) (ht _ k_158) (fun _ h9 => h9) rfl dX6_takeToken_5 ?_
  refine lv_icmp_ge (tgt := 52) hx hb dX6_takeToken_8 (by decide) (fun _ => ?_) (fun c9 => absurd (by decide) c9)
  refine lv_aload_n hx hb dX6_takeToken_52 rfl (lv_at hl 0 rfl) ?_
  refine lv_aload_n hx hb dX6_takeToken_53 rfl (lv_at hl 0 rfl) ?_
  refine va_get (ci := 6) (v := .int 0) (C := RX6) (T := TX6) (N := 11) hx hb ht iX6 hown hK hP 0 rfl rfl 3 (by decide) (ht _ k_160) (fun _ h9 => h9) rfl dX6_takeToken_54 ?_
  refine va_put (ci := 6) (v := .int 0) (ty := .int) (C := RX6) (T := TX6) (N := 11) hx hb ht iX6 tyX6 tyX6_ok nmX6 hown hK hP hD hS 0 rfl rfl 5 (by decide) (ht _ k_161) (fun _ h9 => h9) rfl (by decide +kernel) rfl rfl (Nat.le_of_ble_eq_true rfl) dX6_takeToken_57 (fun H locs hP hD hS => ?_)
  have hP : va_P G vwCl [(h, .inr (6, [.ref tp, .int 0, .ref tw, .int 0, .int 0, .int 0, .int 0, .long 0, .int 0, .int 0, .int (-1)]))] H := hP
  have hD : va_D A [(h, .inr (6, [.ref tp, .int 0, .ref tw, .int 0, .int 0, .int 0, .int 0, .long 0, .int 0, .int 0, .int (-1)]))] := hD
  refine lv_aload_n hx hb dX6_takeToken_60 rfl (lv_at hl 0 rfl) ?_
  refine va_get (ci := 6) (v := .int 0) (C := RX6) (T := TX6) (N := 11) hx hb ht iX6 hown hK hP 0 rfl rfl 3 (by decide) (ht _ k_160) (fun _ h9 => h9) rfl dX6_takeToken_61 ?_
  refine lv_aload_n hx hb dX6_takeToken_64 rfl (lv_at hl 0 rfl) ?_
  refine va_get (ci := 6) (v := .int 0) (C := RX6) (T := TX6) (N := 11) hx hb ht iX6 hown hK hP 0 rfl rfl 1 (by decide) (ht _ k_158) (fun _ h9 => h9) rfl dX6_takeToken_65 ?_
  refine lv_icmp_lt (tgt := 80) hx hb dX6_takeToken_68 (by decide) (fun c9 => absurd c9 (by decide)) (fun _ => ?_)
  refine lv_aload_n hx hb dX6_takeToken_71 rfl (lv_at hl 0 rfl) ?_
  refine lv_bipush (v := 17) hx hb dX6_takeToken_72 (by decide) ?_
  refine va_put (ci := 6) (v := .int 17) (ty := .int) (C := RX6) (T := TX6) (N := 11) hx hb ht iX6 tyX6 tyX6_ok nmX6 hown hK hP hD hS 0 rfl rfl 4 (by decide) (ht _ k_162) (fun _ h9 => h9) rfl (by decide +kernel) rfl rfl (Nat.le_of_ble_eq_true rfl) dX6_takeToken_74 (fun H locs hP hD hS => ?_)
  have hP : va_P G vwCl [(h, .inr (6, [.ref tp, .int 0, .ref tw, .int 0, .int 17, .int 0, .int 0, .long 0, .int 0, .int 0, .int (-1)]))] H := hP
  have hD : va_D A [(h, .inr (6, [.ref tp, .int 0, .ref tw, .int 0, .int 17, .int 0, .int 0, .long 0, .int 0, .int 0, .int (-1)]))] := hD
  refine lv_goto (tgt := 176) hx hb dX6_takeToken_77 (by decide) ?_
  refine W.widen (k := 0) (n := 0) (Nat.le_of_ble_eq_true rfl) (Nat.le_of_ble_eq_true rfl) ?_
  have hP9 : va_P G vwCl [(h, .inr (6, [.ref tp, .int 0, .ref tw, .int 0, .int 17, .int 0, .int 0, .long 0, .int 0, .int 0, .int (-1)]))] _ := hP.sub [0] rfl
  have hD9 : va_D A [(h, .inr (6, [.ref tp, .int 0, .ref tw, .int 0, .int 17, .int 0, .int 0, .long 0, .int 0, .int 0, .int (-1)]))] := hD.sub [0] (by decide) rfl
  exact W.vret hx hb hr (fun t ht9 hW => ⟨⟨(), rfl, trivial, ⟨by rw [ht9]; exact hP9, hD9⟩⟩, hS.F ht9⟩) hS.2.2 dX6_takeToken_176
set_option maxHeartbeats 4000000 in
set_option maxRecDepth 100000 in
theorem c_townClear (l : Launch) (G : va_G) (cy : Nat → ClassId) (sz : Nat) (tw : Nat) (q : Nat) (sw : Nat) (t0 : Value) (t1 : Value) (t2 : Value) (t4 : Value) (w0 : Value) (w1 : Value) (w3 : Value) (w4 : Value) (f : Nat → Int32)  : Met l yX9_clear (.code yX9_clear cX9_clear 2 none :: TBg) ({ frames := 1, cells := 0, slots := 0, locals := 64 }) (va_Pc [.ref tw] (En G cy [(tw, .inr (9, [t0, t1, t2, .int 0, t4, .int 0, .ref q, .int 0, .ref sw])), (q, .inr (5, [w0, w1, .int 0, w3, w4])), (sw, .inl (cy 2, 12, .inl f))] sz)) (va_Qv (fun u : Nat → Nat → Int32 => True) (fun u t => Ex G (va_A [(tw, .inr (9, [t0, t1, t2, .int 0, t4, .int 0, .ref q, .int 0, .ref sw])), (q, .inr (5, [w0, w1, .int 0, w3, w4])), (sw, .inl (cy 2, 12, .inl f))] sz) [(tw, .inr (9, [t0, t1, t2, .int 0, t4, .int 0, .ref q, .int 0, .ref sw])), (q, .inr (5, [w0, w1, .int 0, w3, w4])), (sw, .inl (cy 2, 12, .inl (u 0)))] t) (va_A [(tw, .inr (9, [t0, t1, t2, .int 0, t4, .int 0, .ref q, .int 0, .ref sw])), (q, .inr (5, [w0, w1, .int 0, w3, w4])), (sw, .inl (cy 2, 12, .inl f))] sz)) 0 0 (va_A [(tw, .inr (9, [t0, t1, t2, .int 0, t4, .int 0, .ref q, .int 0, .ref sw])), (q, .inr (5, [w0, w1, .int 0, w3, w4])), (sw, .inl (cy 2, 12, .inl f))] sz) := by
  refine Met.ofW (cc := cX9_clear) (maxL := 2) (ret := none) (by decide) rfl ?_
  intro p e s m args below meth c s₁ B hml hv
  obtain ⟨rfl, hsz, hP, hK, hD0, hN⟩ := hv
  have hx := B.exec
  have hb := B.bytes
  have hr := B.returns
  have hts := atoms_spec (ws := .code yX9_clear cX9_clear 2 none :: TBg) B.pre
  have ht : ∀ w ∈ TBg, w.before _ s = true := fun w h => hts w (List.mem_cons_of_mem _ h)
  have hown : s.vm.findClass RX9 = some m.cls := findClass_of_methodNamed B.named
  have hlocks := B.notSynchronized
  subst hsz
  have hD := hD0.self (sz := s.heap.size)
  generalize hAe : va_A [(tw, .inr (9, [t0, t1, t2, .int 0, t4, .int 0, .ref q, .int 0, .ref sw])), (q, .inr (5, [w0, w1, .int 0, w3, w4])), (sw, .inl (cy 2, 12, .inl f))] s.heap.size = A at hD ⊢
  have hA : ∀ q : Nat, s.heap.size ≤ q → A q := fun q h => by rw [← hAe]; exact Or.inr h
  have hS : va_S A s.heap s.heap [] := va_S.rf
  have hl := lv_entry ([.ref tw]) (n := 2) (Nat.le_of_ble_eq_true rfl)
  rw [lg_entry_eq]
  generalize (lg_sl ([.ref tw]) ++ List.replicate (2 - (lg_sl ([.ref tw])).length) Slot.unset).toArray = ls at hl ⊢
  have hl : lv_has ls 2 [(0, .ref tw)] := hl
  refine lv_aload_n hx hb dX9_clear_0 rfl (lv_at hl 0 rfl) ?_
  refine lv_iconst (v := 0) hx hb dX9_clear_1 (by decide) ?_
  refine va_put (ci := 9) (v := .int 0) (ty := .int) (C := RX9) (T := TX9) (N := 9) hx hb ht iX9 tyX9 tyX9_ok nmX9 hown hK hP hD hS 0 rfl rfl 3 (by decide) (ht _ k_47) (fun _ h9 => h9) rfl (by decide +kernel) rfl rfl (Nat.le_of_ble_eq_true rfl) dX9_clear_2 (fun H locs hP hD hS => ?_)
  have hP : va_P G vwCl [(tw, .inr (9, [t0, t1, t2, .int 0, t4, .int 0, .ref q, .int 0, .ref sw])), (q, .inr (5, [w0, w1, .int 0, w3, w4])), (sw, .inl (cy 2, 12, .inl f))] H := hP
  have hD : va_D A [(tw, .inr (9, [t0, t1, t2, .int 0, t4, .int 0, .ref q, .int 0, .ref sw])), (q, .inr (5, [w0, w1, .int 0, w3, w4])), (sw, .inl (cy 2, 12, .inl f))] := hD
  refine lv_aload_n hx hb dX9_clear_5 rfl (lv_at hl 0 rfl) ?_
  refine lv_iconst (v := 0) hx hb dX9_clear_6 (by decide) ?_
  refine va_put (ci := 9) (v := .int 0) (ty := .int) (C := RX9) (T := TX9) (N := 9) hx hb ht iX9 tyX9 tyX9_ok nmX9 hown hK hP hD hS 0 rfl rfl 5 (by decide) (ht _ k_118) (fun _ h9 => h9) rfl (by decide +kernel) rfl rfl (Nat.le_of_ble_eq_true rfl) dX9_clear_7 (fun H locs hP hD hS => ?_)
  have hP : va_P G vwCl [(tw, .inr (9, [t0, t1, t2, .int 0, t4, .int 0, .ref q, .int 0, .ref sw])), (q, .inr (5, [w0, w1, .int 0, w3, w4])), (sw, .inl (cy 2, 12, .inl f))] H := hP
  have hD : va_D A [(tw, .inr (9, [t0, t1, t2, .int 0, t4, .int 0, .ref q, .int 0, .ref sw])), (q, .inr (5, [w0, w1, .int 0, w3, w4])), (sw, .inl (cy 2, 12, .inl f))] := hD
  refine lv_aload_n hx hb dX9_clear_10 rfl (lv_at hl 0 rfl) ?_
  refine lv_iconst (v := 0) hx hb dX9_clear_11 (by decide) ?_
  refine va_put (ci := 9) (v := .int 0) (ty := .int) (C := RX9) (T := TX9) (N := 9) hx hb ht iX9 tyX9 tyX9_ok nmX9 hown hK hP hD hS 0 rfl rfl 7 (by decide) (ht _ k_163) (fun _ h9 => h9) rfl (by decide +kernel) rfl rfl (Nat.le_of_ble_eq_true rfl) dX9_clear_12 (fun H locs hP hD hS => ?_)
  have hP : va_P G vwCl [(tw, .inr (9, [t0, t1, t2, .int 0, t4, .int 0, .ref q, .int 0, .ref sw])), (q, .inr (5, [w0, w1, .int 0, w3, w4])), (sw, .inl (cy 2, 12, .inl f))] H := hP
  have hD : va_D A [(tw, .inr (9, [t0, t1, t2, .int 0, t4, .int 0, .ref q, .int 0, .ref sw])), (q, .inr (5, [w0, w1, .int 0, w3, w4])), (sw, .inl (cy 2, 12, .inl f))] := hD
  refine lv_aload_n hx hb dX9_clear_15 rfl (lv_at hl 0 rfl) ?_
  refine va_get (ci := 9) (v := .ref q) (C := RX9) (T := TX9) (N := 9) hx hb ht iX9 hown hK hP 0 rfl rfl 6 (by decide) (ht _ k_62) (fun _ h9 => h9) rfl dX9_clear_16 ?_
  refine lv_iconst (v := 0) hx hb dX9_clear_19 (by decide) ?_
  refine va_putN (host := "TuneLocks") (ci := 5) (v := .int 0) (ty := .int) (C := RX5) (T := TX5) (N := 5) hx hb ht iX5 tyX5 tyX5_ok nmX5 hown hK hP hD hS 1 rfl rfl 2 (by decide) (va_Nw.use rfl (hN.1 _ ns_52)) (fun _ h9 => h9) rfl (by decide +kernel) rfl rfl (Nat.le_of_ble_eq_true rfl) dX9_clear_20 (fun H locs hP hD hS => ?_)
  have hP : va_P G vwCl [(tw, .inr (9, [t0, t1, t2, .int 0, t4, .int 0, .ref q, .int 0, .ref sw])), (q, .inr (5, [w0, w1, .int 0, w3, w4])), (sw, .inl (cy 2, 12, .inl f))] H := hP
  have hD : va_D A [(tw, .inr (9, [t0, t1, t2, .int 0, t4, .int 0, .ref q, .int 0, .ref sw])), (q, .inr (5, [w0, w1, .int 0, w3, w4])), (sw, .inl (cy 2, 12, .inl f))] := hD
  refine lv_iconst (v := 0) hx hb dX9_clear_23 (by decide) ?_
  refine lv_istore_n (lv' := [(1, .int 0), (0, .ref tw)]) hx hb dX9_clear_24 rfl hl (by decide) rfl (fun ls hl => ?_)
  refine lv_iload_n hx hb dX9_clear_25 rfl (lv_at hl 0 rfl) ?_
  refine lv_aload_n hx hb dX9_clear_26 rfl (lv_at hl 1 rfl) ?_
  refine va_get (ci := 9) (v := .ref sw) (C := RX9) (T := TX9) (N := 9) hx hb ht iX9 hown hK hP 0 rfl rfl 8 (by decide) (ht _ k_63) (fun _ h9 => h9) rfl dX9_clear_27 ?_
  refine va_alen (v := 12) hx hb hK hP 2 2 rfl rfl rfl dX9_clear_30 ?_
  refine lv_icmp_ge (tgt := 47) hx hb dX9_clear_31 (by decide) (fun c9 => absurd c9 (by decide)) (fun _ => ?_)
  refine lv_aload_n hx hb dX9_clear_34 rfl (lv_at hl 1 rfl) ?_
  refine va_get (ci := 9) (v := .ref sw) (C := RX9) (T := TX9) (N := 9) hx hb ht iX9 hown hK hP 0 rfl rfl 8 (by decide) (ht _ k_63) (fun _ h9 => h9) rfl dX9_clear_35 ?_
  refine lv_iload_n hx hb dX9_clear_38 rfl (lv_at hl 0 rfl) ?_
  refine lv_iconst (v := 0) hx hb dX9_clear_39 (by decide) ?_
  refine ow_zast hx hb hK hP hD hS 2 rfl (in_lit (by decide +kernel)) dX9_clear_40 (fun f_1 H locs hP hD hS => ?_)
  have hP : va_P G vwCl [(tw, .inr (9, [t0, t1, t2, .int 0, t4, .int 0, .ref q, .int 0, .ref sw])), (q, .inr (5, [w0, w1, .int 0, w3, w4])), (sw, .inl (cy 2, 12, .inl f_1))] H := hP
  have hD : va_D A [(tw, .inr (9, [t0, t1, t2, .int 0, t4, .int 0, .ref q, .int 0, .ref sw])), (q, .inr (5, [w0, w1, .int 0, w3, w4])), (sw, .inl (cy 2, 12, .inl f_1))] := hD
  refine lv_iinc (v := 1) (lv' := [(1, .int 1), (0, .ref tw)]) hx hb dX9_clear_41 hl (k := 0) rfl (by decide) (by decide) rfl (fun ls hl => ?_)
  refine lv_goto (tgt := 25) hx hb dX9_clear_44 (by decide) ?_
  refine lv_iload_n hx hb dX9_clear_25 rfl (lv_at hl 0 rfl) ?_
  refine lv_aload_n hx hb dX9_clear_26 rfl (lv_at hl 1 rfl) ?_
  refine va_get (ci := 9) (v := .ref sw) (C := RX9) (T := TX9) (N := 9) hx hb ht iX9 hown hK hP 0 rfl rfl 8 (by decide) (ht _ k_63) (fun _ h9 => h9) rfl dX9_clear_27 ?_
  refine va_alen (v := 12) hx hb hK hP 2 2 rfl rfl rfl dX9_clear_30 ?_
  refine lv_icmp_ge (tgt := 47) hx hb dX9_clear_31 (by decide) (fun c9 => absurd c9 (by decide)) (fun _ => ?_)
  refine lv_aload_n hx hb dX9_clear_34 rfl (lv_at hl 1 rfl) ?_
  refine va_get (ci := 9) (v := .ref sw) (C := RX9) (T := TX9) (N := 9) hx hb ht iX9 hown hK hP 0 rfl rfl 8 (by decide) (ht _ k_63) (fun _ h9 => h9) rfl dX9_clear_35 ?_
  refine lv_iload_n hx hb dX9_clear_38 rfl (lv_at hl 0 rfl) ?_
  refine lv_iconst (v := 0) hx hb dX9_clear_39 (by decide) ?_
  refine ow_zast hx hb hK hP hD hS 2 rfl (in_lit (by decide +kernel)) dX9_clear_40 (fun f_2 H locs hP hD hS => ?_)
  have hP : va_P G vwCl [(tw, .inr (9, [t0, t1, t2, .int 0, t4, .int 0, .ref q, .int 0, .ref sw])), (q, .inr (5, [w0, w1, .int 0, w3, w4])), (sw, .inl (cy 2, 12, .inl f_2))] H := hP
  have hD : va_D A [(tw, .inr (9, [t0, t1, t2, .int 0, t4, .int 0, .ref q, .int 0, .ref sw])), (q, .inr (5, [w0, w1, .int 0, w3, w4])), (sw, .inl (cy 2, 12, .inl f_2))] := hD
  refine lv_iinc (v := 2) (lv' := [(1, .int 2), (0, .ref tw)]) hx hb dX9_clear_41 hl (k := 0) rfl (by decide) (by decide) rfl (fun ls hl => ?_)
  refine lv_goto (tgt := 25) hx hb dX9_clear_44 (by decide) ?_
  refine lv_iload_n hx hb dX9_clear_25 rfl (lv_at hl 0 rfl) ?_
  refine lv_aload_n hx hb dX9_clear_26 rfl (lv_at hl 1 rfl) ?_
  refine va_get (ci := 9) (v := .ref sw) (C := RX9) (T := TX9) (N := 9) hx hb ht iX9 hown hK hP 0 rfl rfl 8 (by decide) (ht _ k_63) (fun _ h9 => h9) rfl dX9_clear_27 ?_
  refine va_alen (v := 12) hx hb hK hP 2 2 rfl rfl rfl dX9_clear_30 ?_
  refine lv_icmp_ge (tgt := 47) hx hb dX9_clear_31 (by decide) (fun c9 => absurd c9 (by decide)) (fun _ => ?_)
  refine lv_aload_n hx hb dX9_clear_34 rfl (lv_at hl 1 rfl) ?_
  refine va_get (ci := 9) (v := .ref sw) (C := RX9) (T := TX9) (N := 9) hx hb ht iX9 hown hK hP 0 rfl rfl 8 (by decide) (ht _ k_63) (fun _ h9 => h9) rfl dX9_clear_35 ?_
  refine lv_iload_n hx hb dX9_clear_38 rfl (lv_at hl 0 rfl) ?_
  refine lv_iconst (v := 0) hx hb dX9_clear_39 (by decide) ?_
  refine ow_zast hx hb hK hP hD hS 2 rfl (in_lit (by decide +kernel)) dX9_clear_40 (fun f_3 H locs hP hD hS => ?_)
  have hP : va_P G vwCl [(tw, .inr (9, [t0, t1, t2, .int 0, t4, .int 0, .ref q, .int 0, .ref sw])), (q, .inr (5, [w0, w1, .int 0, w3, w4])), (sw, .inl (cy 2, 12, .inl f_3))] H := hP
  have hD : va_D A [(tw, .inr (9, [t0, t1, t2, .int 0, t4, .int 0, .ref q, .int 0, .ref sw])), (q, .inr (5, [w0, w1, .int 0, w3, w4])), (sw, .inl (cy 2, 12, .inl f_3))] := hD
  refine lv_iinc (v := 3) (lv' := [(1, .int 3), (0, .ref tw)]) hx hb dX9_clear_41 hl (k := 0) rfl (by decide) (by decide) rfl (fun ls hl => ?_)
  refine lv_goto (tgt := 25) hx hb dX9_clear_44 (by decide) ?_
  refine lv_iload_n hx hb dX9_clear_25 rfl (lv_at hl 0 rfl) ?_
  refine lv_aload_n hx hb dX9_clear_26 rfl (lv_at hl 1 rfl) ?_
  refine va_get (ci := 9) (v := .ref sw) (C := RX9) (T := TX9) (N := 9) hx hb ht iX9 hown hK hP 0 rfl rfl 8 (by decide) (ht _ k_63) (fun _ h9 => h9) rfl dX9_clear_27 ?_
  refine va_alen (v := 12) hx hb hK hP 2 2 rfl rfl rfl dX9_clear_30 ?_
  refine lv_icmp_ge (tgt := 47) hx hb dX9_clear_31 (by decide) (fun c9 => absurd c9 (by decide)) (fun _ => ?_)
  refine lv_aload_n hx hb dX9_clear_34 rfl (lv_at hl 1 rfl) ?_
  refine va_get (ci := 9) (v := .ref sw) (C := RX9) (T := TX9) (N := 9) hx hb ht iX9 hown hK hP 0 rfl rfl 8 (by decide) (ht _ k_63) (fun _ h9 => h9) rfl dX9_clear_35 ?_
  refine lv_iload_n hx hb dX9_clear_38 rfl (lv_at hl 0 rfl) ?_
  refine lv_iconst (v := 0) hx hb dX9_clear_39 (by decide) ?_
  refine ow_zast hx hb hK hP hD hS 2 rfl (in_lit (by decide +kernel)) dX9_clear_40 (fun f_4 H locs hP hD hS => ?_)
  have hP : va_P G vwCl [(tw, .inr (9, [t0, t1, t2, .int 0, t4, .int 0, .ref q, .int 0, .ref sw])), (q, .inr (5, [w0, w1, .int 0, w3, w4])), (sw, .inl (cy 2, 12, .inl f_4))] H := hP
  have hD : va_D A [(tw, .inr (9, [t0, t1, t2, .int 0, t4, .int 0, .ref q, .int 0, .ref sw])), (q, .inr (5, [w0, w1, .int 0, w3, w4])), (sw, .inl (cy 2, 12, .inl f_4))] := hD
  refine lv_iinc (v := 4) (lv' := [(1, .int 4), (0, .ref tw)]) hx hb dX9_clear_41 hl (k := 0) rfl (by decide) (by decide) rfl (fun ls hl => ?_)
  refine lv_goto (tgt := 25) hx hb dX9_clear_44 (by decide) ?_
  refine lv_iload_n hx hb dX9_clear_25 rfl (lv_at hl 0 rfl) ?_
  refine lv_aload_n hx hb dX9_clear_26 rfl (lv_at hl 1 rfl) ?_
  refine va_get (ci := 9) (v := .ref sw) (C := RX9) (T := TX9) (N := 9) hx hb ht iX9 hown hK hP 0 rfl rfl 8 (by decide) (ht _ k_63) (fun _ h9 => h9) rfl dX9_clear_27 ?_
  refine va_alen (v := 12) hx hb hK hP 2 2 rfl rfl rfl dX9_clear_30 ?_
  refine lv_icmp_ge (tgt := 47) hx hb dX9_clear_31 (by decide) (fun c9 => absurd c9 (by decide)) (fun _ => ?_)
  refine lv_aload_n hx hb dX9_clear_34 rfl (lv_at hl 1 rfl) ?_
  refine va_get (ci := 9) (v := .ref sw) (C := RX9) (T := TX9) (N := 9) hx hb ht iX9 hown hK hP 0 rfl rfl 8 (by decide) (ht _ k_63) (fun _ h9 => h9) rfl dX9_clear_35 ?_
  refine lv_iload_n hx hb dX9_clear_38 rfl (lv_at hl 0 rfl) ?_
  refine lv_iconst (v := 0) hx hb dX9_clear_39 (by decide) ?_
  refine ow_zast hx hb hK hP hD hS 2 rfl (in_lit (by decide +kernel)) dX9_clear_40 (fun f_5 H locs hP hD hS => ?_)
  have hP : va_P G vwCl [(tw, .inr (9, [t0, t1, t2, .int 0, t4, .int 0, .ref q, .int 0, .ref sw])), (q, .inr (5, [w0, w1, .int 0, w3, w4])), (sw, .inl (cy 2, 12, .inl f_5))] H := hP
  have hD : va_D A [(tw, .inr (9, [t0, t1, t2, .int 0, t4, .int 0, .ref q, .int 0, .ref sw])), (q, .inr (5, [w0, w1, .int 0, w3, w4])), (sw, .inl (cy 2, 12, .inl f_5))] := hD
  refine lv_iinc (v := 5) (lv' := [(1, .int 5), (0, .ref tw)]) hx hb dX9_clear_41 hl (k := 0) rfl (by decide) (by decide) rfl (fun ls hl => ?_)
  refine lv_goto (tgt := 25) hx hb dX9_clear_44 (by decide) ?_
  refine lv_iload_n hx hb dX9_clear_25 rfl (lv_at hl 0 rfl) ?_
  refine lv_aload_n hx hb dX9_clear_26 rfl (lv_at hl 1 rfl) ?_
  refine va_get (ci := 9) (v := .ref sw) (C := RX9) (T := TX9) (N := 9) hx hb ht iX9 hown hK hP 0 rfl rfl 8 (by decide) (ht _ k_63) (fun _ h9 => h9) rfl dX9_clear_27 ?_
  refine va_alen (v := 12) hx hb hK hP 2 2 rfl rfl rfl dX9_clear_30 ?_
  refine lv_icmp_ge (tgt := 47) hx hb dX9_clear_31 (by decide) (fun c9 => absurd c9 (by decide)) (fun _ => ?_)
  refine lv_aload_n hx hb dX9_clear_34 rfl (lv_at hl 1 rfl) ?_
  refine va_get (ci := 9) (v := .ref sw) (C := RX9) (T := TX9) (N := 9) hx hb ht iX9 hown hK hP 0 rfl rfl 8 (by decide) (ht _ k_63) (fun _ h9 => h9) rfl dX9_clear_35 ?_
  refine lv_iload_n hx hb dX9_clear_38 rfl (lv_at hl 0 rfl) ?_
  refine lv_iconst (v := 0) hx hb dX9_clear_39 (by decide) ?_
  refine ow_zast hx hb hK hP hD hS 2 rfl (in_lit (by decide +kernel)) dX9_clear_40 (fun f_6 H locs hP hD hS => ?_)
  have hP : va_P G vwCl [(tw, .inr (9, [t0, t1, t2, .int 0, t4, .int 0, .ref q, .int 0, .ref sw])), (q, .inr (5, [w0, w1, .int 0, w3, w4])), (sw, .inl (cy 2, 12, .inl f_6))] H := hP
  have hD : va_D A [(tw, .inr (9, [t0, t1, t2, .int 0, t4, .int 0, .ref q, .int 0, .ref sw])), (q, .inr (5, [w0, w1, .int 0, w3, w4])), (sw, .inl (cy 2, 12, .inl f_6))] := hD
  refine lv_iinc (v := 6) (lv' := [(1, .int 6), (0, .ref tw)]) hx hb dX9_clear_41 hl (k := 0) rfl (by decide) (by decide) rfl (fun ls hl => ?_)
  refine lv_goto (tgt := 25) hx hb dX9_clear_44 (by decide) ?_
  refine lv_iload_n hx hb dX9_clear_25 rfl (lv_at hl 0 rfl) ?_
  refine lv_aload_n hx hb dX9_clear_26 rfl (lv_at hl 1 rfl) ?_
  refine va_get (ci := 9) (v := .ref sw) (C := RX9) (T := TX9) (N := 9) hx hb ht iX9 hown hK hP 0 rfl rfl 8 (by decide) (ht _ k_63) (fun _ h9 => h9) rfl dX9_clear_27 ?_
  refine va_alen (v := 12) hx hb hK hP 2 2 rfl rfl rfl dX9_clear_30 ?_
  refine lv_icmp_ge (tgt := 47) hx hb dX9_clear_31 (by decide) (fun c9 => absurd c9 (by decide)) (fun _ => ?_)
  refine lv_aload_n hx hb dX9_clear_34 rfl (lv_at hl 1 rfl) ?_
  refine va_get (ci := 9) (v := .ref sw) (C := RX9) (T := TX9) (N := 9) hx hb ht iX9 hown hK hP 0 rfl rfl 8 (by decide) (ht _ k_63) (fun _ h9 => h9) rfl dX9_clear_35 ?_
  refine lv_iload_n hx hb dX9_clear_38 rfl (lv_at hl 0 rfl) ?_
  refine lv_iconst (v := 0) hx hb dX9_clear_39 (by decide) ?_
  refine ow_zast hx hb hK hP hD hS 2 rfl (in_lit (by decide +kernel)) dX9_clear_40 (fun f_7 H locs hP hD hS => ?_)
  have hP : va_P G vwCl [(tw, .inr (9, [t0, t1, t2, .int 0, t4, .int 0, .ref q, .int 0, .ref sw])), (q, .inr (5, [w0, w1, .int 0, w3, w4])), (sw, .inl (cy 2, 12, .inl f_7))] H := hP
  have hD : va_D A [(tw, .inr (9, [t0, t1, t2, .int 0, t4, .int 0, .ref q, .int 0, .ref sw])), (q, .inr (5, [w0, w1, .int 0, w3, w4])), (sw, .inl (cy 2, 12, .inl f_7))] := hD
  refine lv_iinc (v := 7) (lv' := [(1, .int 7), (0, .ref tw)]) hx hb dX9_clear_41 hl (k := 0) rfl (by decide) (by decide) rfl (fun ls hl => ?_)
  refine lv_goto (tgt := 25) hx hb dX9_clear_44 (by decide) ?_
  refine lv_iload_n hx hb dX9_clear_25 rfl (lv_at hl 0 rfl) ?_
  refine lv_aload_n hx hb dX9_clear_26 rfl (lv_at hl 1 rfl) ?_
  refine va_get (ci := 9) (v := .ref sw) (C := RX9) (T := TX9) (N := 9) hx hb ht iX9 hown hK hP 0 rfl rfl 8 (by decide) (ht _ k_63) (fun _ h9 => h9) rfl dX9_clear_27 ?_
  refine va_alen (v := 12) hx hb hK hP 2 2 rfl rfl rfl dX9_clear_30 ?_
  refine lv_icmp_ge (tgt := 47) hx hb dX9_clear_31 (by decide) (fun c9 => absurd c9 (by decide)) (fun _ => ?_)
  refine lv_aload_n hx hb dX9_clear_34 rfl (lv_at hl 1 rfl) ?_
  refine va_get (ci := 9) (v := .ref sw) (C := RX9) (T := TX9) (N := 9) hx hb ht iX9 hown hK hP 0 rfl rfl 8 (by decide) (ht _ k_63) (fun _ h9 => h9) rfl dX9_clear_35 ?_
  refine lv_iload_n hx hb dX9_clear_38 rfl (lv_at hl 0 rfl) ?_
  refine lv_iconst (v := 0) hx hb dX9_clear_39 (by decide) ?_
  refine ow_zast hx hb hK hP hD hS 2 rfl (in_lit (by decide +kernel)) dX9_clear_40 (fun f_8 H locs hP hD hS => ?_)
  have hP : va_P G vwCl [(tw, .inr (9, [t0, t1, t2, .int 0, t4, .int 0, .ref q, .int 0, .ref sw])), (q, .inr (5, [w0, w1, .int 0, w3, w4])), (sw, .inl (cy 2, 12, .inl f_8))] H := hP
  have hD : va_D A [(tw, .inr (9, [t0, t1, t2, .int 0, t4, .int 0, .ref q, .int 0, .ref sw])), (q, .inr (5, [w0, w1, .int 0, w3, w4])), (sw, .inl (cy 2, 12, .inl f_8))] := hD
  refine lv_iinc (v := 8) (lv' := [(1, .int 8), (0, .ref tw)]) hx hb dX9_clear_41 hl (k := 0) rfl (by decide) (by decide) rfl (fun ls hl => ?_)
  refine lv_goto (tgt := 25) hx hb dX9_clear_44 (by decide) ?_
  refine lv_iload_n hx hb dX9_clear_25 rfl (lv_at hl 0 rfl) ?_
  refine lv_aload_n hx hb dX9_clear_26 rfl (lv_at hl 1 rfl) ?_
  refine va_get (ci := 9) (v := .ref sw) (C := RX9) (T := TX9) (N := 9) hx hb ht iX9 hown hK hP 0 rfl rfl 8 (by decide) (ht _ k_63) (fun _ h9 => h9) rfl dX9_clear_27 ?_
  refine va_alen (v := 12) hx hb hK hP 2 2 rfl rfl rfl dX9_clear_30 ?_
  refine lv_icmp_ge (tgt := 47) hx hb dX9_clear_31 (by decide) (fun c9 => absurd c9 (by decide)) (fun _ => ?_)
  refine lv_aload_n hx hb dX9_clear_34 rfl (lv_at hl 1 rfl) ?_
  refine va_get (ci := 9) (v := .ref sw) (C := RX9) (T := TX9) (N := 9) hx hb ht iX9 hown hK hP 0 rfl rfl 8 (by decide) (ht _ k_63) (fun _ h9 => h9) rfl dX9_clear_35 ?_
  refine lv_iload_n hx hb dX9_clear_38 rfl (lv_at hl 0 rfl) ?_
  refine lv_iconst (v := 0) hx hb dX9_clear_39 (by decide) ?_
  refine ow_zast hx hb hK hP hD hS 2 rfl (in_lit (by decide +kernel)) dX9_clear_40 (fun f_9 H locs hP hD hS => ?_)
  have hP : va_P G vwCl [(tw, .inr (9, [t0, t1, t2, .int 0, t4, .int 0, .ref q, .int 0, .ref sw])), (q, .inr (5, [w0, w1, .int 0, w3, w4])), (sw, .inl (cy 2, 12, .inl f_9))] H := hP
  have hD : va_D A [(tw, .inr (9, [t0, t1, t2, .int 0, t4, .int 0, .ref q, .int 0, .ref sw])), (q, .inr (5, [w0, w1, .int 0, w3, w4])), (sw, .inl (cy 2, 12, .inl f_9))] := hD
  refine lv_iinc (v := 9) (lv' := [(1, .int 9), (0, .ref tw)]) hx hb dX9_clear_41 hl (k := 0) rfl (by decide) (by decide) rfl (fun ls hl => ?_)
  refine lv_goto (tgt := 25) hx hb dX9_clear_44 (by decide) ?_
  refine lv_iload_n hx hb dX9_clear_25 rfl (lv_at hl 0 rfl) ?_
  refine lv_aload_n hx hb dX9_clear_26 rfl (lv_at hl 1 rfl) ?_
  refine va_get (ci := 9) (v := .ref sw) (C := RX9) (T := TX9) (N := 9) hx hb ht iX9 hown hK hP 0 rfl rfl 8 (by decide) (ht _ k_63) (fun _ h9 => h9) rfl dX9_clear_27 ?_
  refine va_alen (v := 12) hx hb hK hP 2 2 rfl rfl rfl dX9_clear_30 ?_
  refine lv_icmp_ge (tgt := 47) hx hb dX9_clear_31 (by decide) (fun c9 => absurd c9 (by decide)) (fun _ => ?_)
  refine lv_aload_n hx hb dX9_clear_34 rfl (lv_at hl 1 rfl) ?_
  refine va_get (ci := 9) (v := .ref sw) (C := RX9) (T := TX9) (N := 9) hx hb ht iX9 hown hK hP 0 rfl rfl 8 (by decide) (ht _ k_63) (fun _ h9 => h9) rfl dX9_clear_35 ?_
  refine lv_iload_n hx hb dX9_clear_38 rfl (lv_at hl 0 rfl) ?_
  refine lv_iconst (v := 0) hx hb dX9_clear_39 (by decide) ?_
  refine ow_zast hx hb hK hP hD hS 2 rfl (in_lit (by decide +kernel)) dX9_clear_40 (fun f_10 H locs hP hD hS => ?_)
  have hP : va_P G vwCl [(tw, .inr (9, [t0, t1, t2, .int 0, t4, .int 0, .ref q, .int 0, .ref sw])), (q, .inr (5, [w0, w1, .int 0, w3, w4])), (sw, .inl (cy 2, 12, .inl f_10))] H := hP
  have hD : va_D A [(tw, .inr (9, [t0, t1, t2, .int 0, t4, .int 0, .ref q, .int 0, .ref sw])), (q, .inr (5, [w0, w1, .int 0, w3, w4])), (sw, .inl (cy 2, 12, .inl f_10))] := hD
  refine lv_iinc (v := 10) (lv' := [(1, .int 10), (0, .ref tw)]) hx hb dX9_clear_41 hl (k := 0) rfl (by decide) (by decide) rfl (fun ls hl => ?_)
  refine lv_goto (tgt := 25) hx hb dX9_clear_44 (by decide) ?_
  refine lv_iload_n hx hb dX9_clear_25 rfl (lv_at hl 0 rfl) ?_
  refine lv_aload_n hx hb dX9_clear_26 rfl (lv_at hl 1 rfl) ?_
  refine va_get (ci := 9) (v := .ref sw) (C := RX9) (T := TX9) (N := 9) hx hb ht iX9 hown hK hP 0 rfl rfl 8 (by decide) (ht _ k_63) (fun _ h9 => h9) rfl dX9_clear_27 ?_
  refine va_alen (v := 12) hx hb hK hP 2 2 rfl rfl rfl dX9_clear_30 ?_
  refine lv_icmp_ge (tgt := 47) hx hb dX9_clear_31 (by decide) (fun c9 => absurd c9 (by decide)) (fun _ => ?_)
  refine lv_aload_n hx hb dX9_clear_34 rfl (lv_at hl 1 rfl) ?_
  refine va_get (ci := 9) (v := .ref sw) (C := RX9) (T := TX9) (N := 9) hx hb ht iX9 hown hK hP 0 rfl rfl 8 (by decide) (ht _ k_63) (fun _ h9 => h9) rfl dX9_clear_35 ?_
  refine lv_iload_n hx hb dX9_clear_38 rfl (lv_at hl 0 rfl) ?_
  refine lv_iconst (v := 0) hx hb dX9_clear_39 (by decide) ?_
  refine ow_zast hx hb hK hP hD hS 2 rfl (in_lit (by decide +kernel)) dX9_clear_40 (fun f_11 H locs hP hD hS => ?_)
  have hP : va_P G vwCl [(tw, .inr (9, [t0, t1, t2, .int 0, t4, .int 0, .ref q, .int 0, .ref sw])), (q, .inr (5, [w0, w1, .int 0, w3, w4])), (sw, .inl (cy 2, 12, .inl f_11))] H := hP
  have hD : va_D A [(tw, .inr (9, [t0, t1, t2, .int 0, t4, .int 0, .ref q, .int 0, .ref sw])), (q, .inr (5, [w0, w1, .int 0, w3, w4])), (sw, .inl (cy 2, 12, .inl f_11))] := hD
  refine lv_iinc (v := 11) (lv' := [(1, .int 11), (0, .ref tw)]) hx hb dX9_clear_41 hl (k := 0) rfl (by decide) (by decide) rfl (fun ls hl => ?_)
  refine lv_goto (tgt := 25) hx hb dX9_clear_44 (by decide) ?_
  refine lv_iload_n hx hb dX9_clear_25 rfl (lv_at hl 0 rfl) ?_
  refine lv_aload_n hx hb dX9_clear_26 rfl (lv_at hl 1 rfl) ?_
  refine va_get (ci := 9) (v := .ref sw) (C := RX9) (T := TX9) (N := 9) hx hb ht iX9 hown hK hP 0 rfl rfl 8 (by decide) (ht _ k_63) (fun _ h9 => h9) rfl dX9_clear_27 ?_
  refine va_alen (v := 12) hx hb hK hP 2 2 rfl rfl rfl dX9_clear_30 ?_
  refine lv_icmp_ge (tgt := 47) hx hb dX9_clear_31 (by decide) (fun c9 => absurd c9 (by decide)) (fun _ => ?_)
  refine lv_aload_n hx hb dX9_clear_34 rfl (lv_at hl 1 rfl) ?_
  refine va_get (ci := 9) (v := .ref sw) (C := RX9) (T := TX9) (N := 9) hx hb ht iX9 hown hK hP 0 rfl rfl 8 (by decide) (ht _ k_63) (fun _ h9 => h9) rfl dX9_clear_35 ?_
  refine lv_iload_n hx hb dX9_clear_38 rfl (lv_at hl 0 rfl) ?_
  refine lv_iconst (v := 0) hx hb dX9_clear_39 (by decide) ?_
  refine ow_zast hx hb hK hP hD hS 2 rfl (in_lit (by decide +kernel)) dX9_clear_40 (fun f_12 H locs hP hD hS => ?_)
  have hP : va_P G vwCl [(tw, .inr (9, [t0, t1, t2, .int 0, t4, .int 0, .ref q, .int 0, .ref sw])), (q, .inr (5, [w0, w1, .int 0, w3, w4])), (sw, .inl (cy 2, 12, .inl f_12))] H := hP
  have hD : va_D A [(tw, .inr (9, [t0, t1, t2, .int 0, t4, .int 0, .ref q, .int 0, .ref sw])), (q, .inr (5, [w0, w1, .int 0, w3, w4])), (sw, .inl (cy 2, 12, .inl f_12))] := hD
  refine lv_iinc (v := 12) (lv' := [(1, .int 12), (0, .ref tw)]) hx hb dX9_clear_41 hl (k := 0) rfl (by decide) (by decide) rfl (fun ls hl => ?_)
  refine lv_goto (tgt := 25) hx hb dX9_clear_44 (by decide) ?_
  refine lv_iload_n hx hb dX9_clear_25 rfl (lv_at hl 0 rfl) ?_
  refine lv_aload_n hx hb dX9_clear_26 rfl (lv_at hl 1 rfl) ?_
  refine va_get (ci := 9) (v := .ref sw) (C := RX9) (T := TX9) (N := 9) hx hb ht iX9 hown hK hP 0 rfl rfl 8 (by decide) (ht _ k_63) (fun _ h9 => h9) rfl dX9_clear_27 ?_
  refine va_alen (v := 12) hx hb hK hP 2 2 rfl rfl rfl dX9_clear_30 ?_
  refine lv_icmp_ge (tgt := 47) hx hb dX9_clear_31 (by decide) (fun _ => ?_) (fun c9 => absurd (by decide) c9)
  refine W.widen (k := 0) (n := 0) (Nat.le_of_ble_eq_true rfl) (Nat.le_of_ble_eq_true rfl) ?_
  have hP9 : va_P G vwCl [(tw, .inr (9, [t0, t1, t2, .int 0, t4, .int 0, .ref q, .int 0, .ref sw])), (q, .inr (5, [w0, w1, .int 0, w3, w4])), (sw, .inl (cy 2, 12, .inl ((lsf [f_12]) 0)))] _ := hP.sub [0, 1, 2] rfl
  have hD9 : va_D A [(tw, .inr (9, [t0, t1, t2, .int 0, t4, .int 0, .ref q, .int 0, .ref sw])), (q, .inr (5, [w0, w1, .int 0, w3, w4])), (sw, .inl (cy 2, 12, .inl ((lsf [f_12]) 0)))] := hD.sub [0, 1, 2] (by decide) rfl
  exact W.vret hx hb hr (fun t ht9 hW => ⟨⟨(lsf [f_12]), rfl, trivial, ⟨by rw [ht9]; exact hP9, hD9⟩⟩, hS.F ht9⟩) hS.2.2 dX9_clear_47
set_option maxHeartbeats 4000000 in
set_option maxRecDepth 100000 in
theorem c_sweeten (l : Launch) (G : va_G) (cy : Nat → ClassId) (sz : Nat) (tsw : Nat) (tw : Nat) (q : Nat) (sw : Nat) (t0 : Value) (t1 : Value) (t2 : Value) (t4 : Value) (f : Nat → Int32)  : Met l yX9_sweetenUntold (.code yX9_sweetenUntold cX9_sweetenUntold 2 none :: TBg) ({ frames := 1, cells := 0, slots := 0, locals := 64 }) (va_Pc [.ref tw] (EnS G cy [(tw, .inr (9, [t0, t1, t2, .int 0, t4, .int 0, .ref q, .int 0, .ref sw])), (sw, .inl (cy 2, 12, .inl f))] sz tsw)) (va_Qv (fun u : Nat → Nat → Int32 => True) (fun u t => Ex G (va_A [(tw, .inr (9, [t0, t1, t2, .int 0, t4, .int 0, .ref q, .int 0, .ref sw])), (sw, .inl (cy 2, 12, .inl f))] sz) [(tw, .inr (9, [t0, t1, t2, .int 0, t4, .int 0, .ref q, .int 0, .ref sw])), (sw, .inl (cy 2, 12, .inl (u 0)))] t) (va_A [(tw, .inr (9, [t0, t1, t2, .int 0, t4, .int 0, .ref q, .int 0, .ref sw])), (sw, .inl (cy 2, 12, .inl f))] sz)) 0 0 (va_A [(tw, .inr (9, [t0, t1, t2, .int 0, t4, .int 0, .ref q, .int 0, .ref sw])), (sw, .inl (cy 2, 12, .inl f))] sz) := by
  refine Met.ofW (cc := cX9_sweetenUntold) (maxL := 2) (ret := none) (by decide) rfl ?_
  intro p e s m args below meth c s₁ B hml hv
  obtain ⟨rfl, ⟨hsz, hP, hK, hD0, hN⟩, hSW⟩ := hv
  have hx := B.exec
  have hb := B.bytes
  have hr := B.returns
  have hts := atoms_spec (ws := .code yX9_sweetenUntold cX9_sweetenUntold 2 none :: TBg) B.pre
  have ht : ∀ w ∈ TBg, w.before _ s = true := fun w h => hts w (List.mem_cons_of_mem _ h)
  have hown : s.vm.findClass RX9 = some m.cls := findClass_of_methodNamed B.named
  have hlocks := B.notSynchronized
  subst hsz
  have hD := hD0.self (sz := s.heap.size)
  generalize hAe : va_A [(tw, .inr (9, [t0, t1, t2, .int 0, t4, .int 0, .ref q, .int 0, .ref sw])), (sw, .inl (cy 2, 12, .inl f))] s.heap.size = A at hD hSW ⊢
  have hA : ∀ q : Nat, s.heap.size ≤ q → A q := fun q h => by rw [← hAe]; exact Or.inr h
  have hS : va_S A s.heap s.heap [] := va_S.rf
  have hl := lv_entry ([.ref tw]) (n := 2) (Nat.le_of_ble_eq_true rfl)
  rw [lg_entry_eq]
  generalize (lg_sl ([.ref tw]) ++ List.replicate (2 - (lg_sl ([.ref tw])).length) Slot.unset).toArray = ls at hl ⊢
  have hl : lv_has ls 2 [(0, .ref tw)] := hl
  refine lv_iconst (v := 0) hx hb dX9_sweetenUntold_0 (by decide) ?_
  refine lv_istore_n (lv' := [(1, .int 0), (0, .ref tw)]) hx hb dX9_sweetenUntold_1 rfl hl (by decide) rfl (fun ls hl => ?_)
  refine lv_iload_n hx hb dX9_sweetenUntold_2 rfl (lv_at hl 0 rfl) ?_
  refine va_gets (C := "TuneLocks$Town") (n := "SWEET_UNTOLD") (d := "[I") hx hb hSW.1 hS hown (ht _ k_164) (fun _ h9 => h9) dX9_sweetenUntold_3 ?_
  refine va_tlen (v := 6) hx hb hSW.2 hS rfl dX9_sweetenUntold_6 ?_
  refine lv_icmp_ge (tgt := 27) hx hb dX9_sweetenUntold_7 (by decide) (fun c9 => absurd c9 (by decide)) (fun _ => ?_)
  refine lv_aload_n hx hb dX9_sweetenUntold_10 rfl (lv_at hl 1 rfl) ?_
  refine va_get (ci := 9) (v := .ref sw) (C := RX9) (T := TX9) (N := 9) hx hb ht iX9 hown hK hP 0 rfl rfl 8 (by decide) (ht _ k_63) (fun _ h9 => h9) rfl dX9_sweetenUntold_11 ?_
  refine va_gets (C := "TuneLocks$Town") (n := "SWEET_UNTOLD") (d := "[I") hx hb hSW.1 hS hown (ht _ k_164) (fun _ h9 => h9) dX9_sweetenUntold_14 ?_
  refine lv_iload_n hx hb dX9_sweetenUntold_17 rfl (lv_at hl 0 rfl) ?_
  refine va_ti (v := .int 0) hx hb hSW.2 hS (in_lit (by decide +kernel)) rfl dX9_sweetenUntold_18 ?_
  refine lv_iconst (v := 1) hx hb dX9_sweetenUntold_19 (by decide) ?_
  refine ow_zast hx hb hK hP hD hS 1 rfl (in_lit (by decide +kernel)) dX9_sweetenUntold_20 (fun f_1 H locs hP hD hS => ?_)
  have hP : va_P G vwCl [(tw, .inr (9, [t0, t1, t2, .int 0, t4, .int 0, .ref q, .int 0, .ref sw])), (sw, .inl (cy 2, 12, .inl f_1))] H := hP
  have hD : va_D A [(tw, .inr (9, [t0, t1, t2, .int 0, t4, .int 0, .ref q, .int 0, .ref sw])), (sw, .inl (cy 2, 12, .inl f_1))] := hD
  refine lv_iinc (v := 1) (lv' := [(1, .int 1), (0, .ref tw)]) hx hb dX9_sweetenUntold_21 hl (k := 0) rfl (by decide) (by decide) rfl (fun ls hl => ?_)
  refine lv_goto (tgt := 2) hx hb dX9_sweetenUntold_24 (by decide) ?_
  refine lv_iload_n hx hb dX9_sweetenUntold_2 rfl (lv_at hl 0 rfl) ?_
  refine va_gets (C := "TuneLocks$Town") (n := "SWEET_UNTOLD") (d := "[I") hx hb hSW.1 hS hown (ht _ k_164) (fun _ h9 => h9) dX9_sweetenUntold_3 ?_
  refine va_tlen (v := 6) hx hb hSW.2 hS rfl dX9_sweetenUntold_6 ?_
  refine lv_icmp_ge (tgt := 27) hx hb dX9_sweetenUntold_7 (by decide) (fun c9 => absurd c9 (by decide)) (fun _ => ?_)
  refine lv_aload_n hx hb dX9_sweetenUntold_10 rfl (lv_at hl 1 rfl) ?_
  refine va_get (ci := 9) (v := .ref sw) (C := RX9) (T := TX9) (N := 9) hx hb ht iX9 hown hK hP 0 rfl rfl 8 (by decide) (ht _ k_63) (fun _ h9 => h9) rfl dX9_sweetenUntold_11 ?_
  refine va_gets (C := "TuneLocks$Town") (n := "SWEET_UNTOLD") (d := "[I") hx hb hSW.1 hS hown (ht _ k_164) (fun _ h9 => h9) dX9_sweetenUntold_14 ?_
  refine lv_iload_n hx hb dX9_sweetenUntold_17 rfl (lv_at hl 0 rfl) ?_
  refine va_ti (v := .int 3) hx hb hSW.2 hS (in_lit (by decide +kernel)) rfl dX9_sweetenUntold_18 ?_
  refine lv_iconst (v := 1) hx hb dX9_sweetenUntold_19 (by decide) ?_
  refine ow_zast hx hb hK hP hD hS 1 rfl (in_lit (by decide +kernel)) dX9_sweetenUntold_20 (fun f_2 H locs hP hD hS => ?_)
  have hP : va_P G vwCl [(tw, .inr (9, [t0, t1, t2, .int 0, t4, .int 0, .ref q, .int 0, .ref sw])), (sw, .inl (cy 2, 12, .inl f_2))] H := hP
  have hD : va_D A [(tw, .inr (9, [t0, t1, t2, .int 0, t4, .int 0, .ref q, .int 0, .ref sw])), (sw, .inl (cy 2, 12, .inl f_2))] := hD
  refine lv_iinc (v := 2) (lv' := [(1, .int 2), (0, .ref tw)]) hx hb dX9_sweetenUntold_21 hl (k := 0) rfl (by decide) (by decide) rfl (fun ls hl => ?_)
  refine lv_goto (tgt := 2) hx hb dX9_sweetenUntold_24 (by decide) ?_
  refine lv_iload_n hx hb dX9_sweetenUntold_2 rfl (lv_at hl 0 rfl) ?_
  refine va_gets (C := "TuneLocks$Town") (n := "SWEET_UNTOLD") (d := "[I") hx hb hSW.1 hS hown (ht _ k_164) (fun _ h9 => h9) dX9_sweetenUntold_3 ?_
  refine va_tlen (v := 6) hx hb hSW.2 hS rfl dX9_sweetenUntold_6 ?_
  refine lv_icmp_ge (tgt := 27) hx hb dX9_sweetenUntold_7 (by decide) (fun c9 => absurd c9 (by decide)) (fun _ => ?_)
  refine lv_aload_n hx hb dX9_sweetenUntold_10 rfl (lv_at hl 1 rfl) ?_
  refine va_get (ci := 9) (v := .ref sw) (C := RX9) (T := TX9) (N := 9) hx hb ht iX9 hown hK hP 0 rfl rfl 8 (by decide) (ht _ k_63) (fun _ h9 => h9) rfl dX9_sweetenUntold_11 ?_
  refine va_gets (C := "TuneLocks$Town") (n := "SWEET_UNTOLD") (d := "[I") hx hb hSW.1 hS hown (ht _ k_164) (fun _ h9 => h9) dX9_sweetenUntold_14 ?_
  refine lv_iload_n hx hb dX9_sweetenUntold_17 rfl (lv_at hl 0 rfl) ?_
  refine va_ti (v := .int 4) hx hb hSW.2 hS (in_lit (by decide +kernel)) rfl dX9_sweetenUntold_18 ?_
  refine lv_iconst (v := 1) hx hb dX9_sweetenUntold_19 (by decide) ?_
  refine ow_zast hx hb hK hP hD hS 1 rfl (in_lit (by decide +kernel)) dX9_sweetenUntold_20 (fun f_3 H locs hP hD hS => ?_)
  have hP : va_P G vwCl [(tw, .inr (9, [t0, t1, t2, .int 0, t4, .int 0, .ref q, .int 0, .ref sw])), (sw, .inl (cy 2, 12, .inl f_3))] H := hP
  have hD : va_D A [(tw, .inr (9, [t0, t1, t2, .int 0, t4, .int 0, .ref q, .int 0, .ref sw])), (sw, .inl (cy 2, 12, .inl f_3))] := hD
  refine lv_iinc (v := 3) (lv' := [(1, .int 3), (0, .ref tw)]) hx hb dX9_sweetenUntold_21 hl (k := 0) rfl (by decide) (by decide) rfl (fun ls hl => ?_)
  refine lv_goto (tgt := 2) hx hb dX9_sweetenUntold_24 (by decide) ?_
  refine lv_iload_n hx hb dX9_sweetenUntold_2 rfl (lv_at hl 0 rfl) ?_
  refine va_gets (C := "TuneLocks$Town") (n := "SWEET_UNTOLD") (d := "[I") hx hb hSW.1 hS hown (ht _ k_164) (fun _ h9 => h9) dX9_sweetenUntold_3 ?_
  refine va_tlen (v := 6) hx hb hSW.2 hS rfl dX9_sweetenUntold_6 ?_
  refine lv_icmp_ge (tgt := 27) hx hb dX9_sweetenUntold_7 (by decide) (fun c9 => absurd c9 (by decide)) (fun _ => ?_)
  refine lv_aload_n hx hb dX9_sweetenUntold_10 rfl (lv_at hl 1 rfl) ?_
  refine va_get (ci := 9) (v := .ref sw) (C := RX9) (T := TX9) (N := 9) hx hb ht iX9 hown hK hP 0 rfl rfl 8 (by decide) (ht _ k_63) (fun _ h9 => h9) rfl dX9_sweetenUntold_11 ?_
  refine va_gets (C := "TuneLocks$Town") (n := "SWEET_UNTOLD") (d := "[I") hx hb hSW.1 hS hown (ht _ k_164) (fun _ h9 => h9) dX9_sweetenUntold_14 ?_
  refine lv_iload_n hx hb dX9_sweetenUntold_17 rfl (lv_at hl 0 rfl) ?_
  refine va_ti (v := .int 7) hx hb hSW.2 hS (in_lit (by decide +kernel)) rfl dX9_sweetenUntold_18 ?_
  refine lv_iconst (v := 1) hx hb dX9_sweetenUntold_19 (by decide) ?_
  refine ow_zast hx hb hK hP hD hS 1 rfl (in_lit (by decide +kernel)) dX9_sweetenUntold_20 (fun f_4 H locs hP hD hS => ?_)
  have hP : va_P G vwCl [(tw, .inr (9, [t0, t1, t2, .int 0, t4, .int 0, .ref q, .int 0, .ref sw])), (sw, .inl (cy 2, 12, .inl f_4))] H := hP
  have hD : va_D A [(tw, .inr (9, [t0, t1, t2, .int 0, t4, .int 0, .ref q, .int 0, .ref sw])), (sw, .inl (cy 2, 12, .inl f_4))] := hD
  refine lv_iinc (v := 4) (lv' := [(1, .int 4), (0, .ref tw)]) hx hb dX9_sweetenUntold_21 hl (k := 0) rfl (by decide) (by decide) rfl (fun ls hl => ?_)
  refine lv_goto (tgt := 2) hx hb dX9_sweetenUntold_24 (by decide) ?_
  refine lv_iload_n hx hb dX9_sweetenUntold_2 rfl (lv_at hl 0 rfl) ?_
  refine va_gets (C := "TuneLocks$Town") (n := "SWEET_UNTOLD") (d := "[I") hx hb hSW.1 hS hown (ht _ k_164) (fun _ h9 => h9) dX9_sweetenUntold_3 ?_
  refine va_tlen (v := 6) hx hb hSW.2 hS rfl dX9_sweetenUntold_6 ?_
  refine lv_icmp_ge (tgt := 27) hx hb dX9_sweetenUntold_7 (by decide) (fun c9 => absurd c9 (by decide)) (fun _ => ?_)
  refine lv_aload_n hx hb dX9_sweetenUntold_10 rfl (lv_at hl 1 rfl) ?_
  refine va_get (ci := 9) (v := .ref sw) (C := RX9) (T := TX9) (N := 9) hx hb ht iX9 hown hK hP 0 rfl rfl 8 (by decide) (ht _ k_63) (fun _ h9 => h9) rfl dX9_sweetenUntold_11 ?_
  refine va_gets (C := "TuneLocks$Town") (n := "SWEET_UNTOLD") (d := "[I") hx hb hSW.1 hS hown (ht _ k_164) (fun _ h9 => h9) dX9_sweetenUntold_14 ?_
  refine lv_iload_n hx hb dX9_sweetenUntold_17 rfl (lv_at hl 0 rfl) ?_
  refine va_ti (v := .int 8) hx hb hSW.2 hS (in_lit (by decide +kernel)) rfl dX9_sweetenUntold_18 ?_
  refine lv_iconst (v := 1) hx hb dX9_sweetenUntold_19 (by decide) ?_
  refine ow_zast hx hb hK hP hD hS 1 rfl (in_lit (by decide +kernel)) dX9_sweetenUntold_20 (fun f_5 H locs hP hD hS => ?_)
  have hP : va_P G vwCl [(tw, .inr (9, [t0, t1, t2, .int 0, t4, .int 0, .ref q, .int 0, .ref sw])), (sw, .inl (cy 2, 12, .inl f_5))] H := hP
  have hD : va_D A [(tw, .inr (9, [t0, t1, t2, .int 0, t4, .int 0, .ref q, .int 0, .ref sw])), (sw, .inl (cy 2, 12, .inl f_5))] := hD
  refine lv_iinc (v := 5) (lv' := [(1, .int 5), (0, .ref tw)]) hx hb dX9_sweetenUntold_21 hl (k := 0) rfl (by decide) (by decide) rfl (fun ls hl => ?_)
  refine lv_goto (tgt := 2) hx hb dX9_sweetenUntold_24 (by decide) ?_
  refine lv_iload_n hx hb dX9_sweetenUntold_2 rfl (lv_at hl 0 rfl) ?_
  refine va_gets (C := "TuneLocks$Town") (n := "SWEET_UNTOLD") (d := "[I") hx hb hSW.1 hS hown (ht _ k_164) (fun _ h9 => h9) dX9_sweetenUntold_3 ?_
  refine va_tlen (v := 6) hx hb hSW.2 hS rfl dX9_sweetenUntold_6 ?_
  refine lv_icmp_ge (tgt := 27) hx hb dX9_sweetenUntold_7 (by decide) (fun c9 => absurd c9 (by decide)) (fun _ => ?_)
  refine lv_aload_n hx hb dX9_sweetenUntold_10 rfl (lv_at hl 1 rfl) ?_
  refine va_get (ci := 9) (v := .ref sw) (C := RX9) (T := TX9) (N := 9) hx hb ht iX9 hown hK hP 0 rfl rfl 8 (by decide) (ht _ k_63) (fun _ h9 => h9) rfl dX9_sweetenUntold_11 ?_
  refine va_gets (C := "TuneLocks$Town") (n := "SWEET_UNTOLD") (d := "[I") hx hb hSW.1 hS hown (ht _ k_164) (fun _ h9 => h9) dX9_sweetenUntold_14 ?_
  refine lv_iload_n hx hb dX9_sweetenUntold_17 rfl (lv_at hl 0 rfl) ?_
  refine va_ti (v := .int 9) hx hb hSW.2 hS (in_lit (by decide +kernel)) rfl dX9_sweetenUntold_18 ?_
  refine lv_iconst (v := 1) hx hb dX9_sweetenUntold_19 (by decide) ?_
  refine ow_zast hx hb hK hP hD hS 1 rfl (in_lit (by decide +kernel)) dX9_sweetenUntold_20 (fun f_6 H locs hP hD hS => ?_)
  have hP : va_P G vwCl [(tw, .inr (9, [t0, t1, t2, .int 0, t4, .int 0, .ref q, .int 0, .ref sw])), (sw, .inl (cy 2, 12, .inl f_6))] H := hP
  have hD : va_D A [(tw, .inr (9, [t0, t1, t2, .int 0, t4, .int 0, .ref q, .int 0, .ref sw])), (sw, .inl (cy 2, 12, .inl f_6))] := hD
  refine lv_iinc (v := 6) (lv' := [(1, .int 6), (0, .ref tw)]) hx hb dX9_sweetenUntold_21 hl (k := 0) rfl (by decide) (by decide) rfl (fun ls hl => ?_)
  refine lv_goto (tgt := 2) hx hb dX9_sweetenUntold_24 (by decide) ?_
  refine lv_iload_n hx hb dX9_sweetenUntold_2 rfl (lv_at hl 0 rfl) ?_
  refine va_gets (C := "TuneLocks$Town") (n := "SWEET_UNTOLD") (d := "[I") hx hb hSW.1 hS hown (ht _ k_164) (fun _ h9 => h9) dX9_sweetenUntold_3 ?_
  refine va_tlen (v := 6) hx hb hSW.2 hS rfl dX9_sweetenUntold_6 ?_
  refine lv_icmp_ge (tgt := 27) hx hb dX9_sweetenUntold_7 (by decide) (fun _ => ?_) (fun c9 => absurd (by decide) c9)
  refine W.widen (k := 0) (n := 0) (Nat.le_of_ble_eq_true rfl) (Nat.le_of_ble_eq_true rfl) ?_
  have hP9 : va_P G vwCl [(tw, .inr (9, [t0, t1, t2, .int 0, t4, .int 0, .ref q, .int 0, .ref sw])), (sw, .inl (cy 2, 12, .inl ((lsf [f_6]) 0)))] _ := hP.sub [0, 1] rfl
  have hD9 : va_D A [(tw, .inr (9, [t0, t1, t2, .int 0, t4, .int 0, .ref q, .int 0, .ref sw])), (sw, .inl (cy 2, 12, .inl ((lsf [f_6]) 0)))] := hD.sub [0, 1] (by decide) rfl
  exact W.vret hx hb hr (fun t ht9 hW => ⟨⟨(lsf [f_6]), rfl, trivial, ⟨by rw [ht9]; exact hP9, hD9⟩⟩, hS.F ht9⟩) hS.2.2 dX9_sweetenUntold_27
set_option maxHeartbeats 4000000 in
set_option maxRecDepth 100000 in
theorem c_prepare (l : Launch) (G : va_G) (cy : Nat → ClassId) (sz : Nat) (tw : Nat) (q : Nat) (sw : Nat) (t0 : Value) (t1 : Value) (t2 : Value) (t4 : Value)  : Met l yX9_prepare (.code yX9_prepare cX9_prepare 2 none :: TBg) ({ frames := 1, cells := 0, slots := 0, locals := 64 }) (va_Pc [.ref tw] (En G cy [(tw, .inr (9, [t0, t1, t2, .int 0, t4, .int 0, .ref q, .int 0, .ref sw]))] sz)) (va_Qv (fun _ : Unit => True) (fun _ _ => True) (va_A [] sz)) 0 0 (va_A [] sz) := by
  refine Met.ofW (cc := cX9_prepare) (maxL := 2) (ret := none) (by decide) rfl ?_
  intro p e s m args below meth c s₁ B hml hv
  obtain ⟨rfl, hsz, hP, hK, hD0, hN⟩ := hv
  have hx := B.exec
  have hb := B.bytes
  have hr := B.returns
  have hts := atoms_spec (ws := .code yX9_prepare cX9_prepare 2 none :: TBg) B.pre
  have ht : ∀ w ∈ TBg, w.before _ s = true := fun w h => hts w (List.mem_cons_of_mem _ h)
  have hown : s.vm.findClass RX9 = some m.cls := findClass_of_methodNamed B.named
  have hlocks := B.notSynchronized
  subst hsz
  generalize hAe : va_A [] s.heap.size = A at ⊢
  have hA : ∀ q : Nat, s.heap.size ≤ q → A q := fun q h => by rw [← hAe]; exact Or.inr h
  have hS : va_S A s.heap s.heap [] := va_S.rf
  have hl := lv_entry ([.ref tw]) (n := 2) (Nat.le_of_ble_eq_true rfl)
  rw [lg_entry_eq]
  generalize (lg_sl ([.ref tw]) ++ List.replicate (2 - (lg_sl ([.ref tw])).length) Slot.unset).toArray = ls at hl ⊢
  have hl : lv_has ls 2 [(0, .ref tw)] := hl
  refine lv_iconst (v := 0) hx hb dX9_prepare_0 (by decide) ?_
  refine lv_istore_n (lv' := [(1, .int 0), (0, .ref tw)]) hx hb dX9_prepare_1 rfl hl (by decide) rfl (fun ls hl => ?_)
  refine lv_iload_n hx hb dX9_prepare_2 rfl (lv_at hl 0 rfl) ?_
  refine lv_aload_n hx hb dX9_prepare_3 rfl (lv_at hl 1 rfl) ?_
  refine va_get (ci := 9) (v := .int 0) (C := RX9) (T := TX9) (N := 9) hx hb ht iX9 hown hK hP 0 rfl rfl 3 (by decide) (ht _ k_47) (fun _ h9 => h9) rfl dX9_prepare_4 ?_
  refine lv_icmp_ge (tgt := 32) hx hb dX9_prepare_7 (by decide) (fun _ => ?_) (fun c9 => absurd (by decide) c9)
  refine lv_iconst (v := 0) hx hb dX9_prepare_32 (by decide) ?_
  refine lv_istore_n (lv' := [(1, .int 0), (0, .ref tw)]) hx hb dX9_prepare_33 rfl hl (by decide) rfl (fun ls hl => ?_)
  refine lv_iload_n hx hb dX9_prepare_34 rfl (lv_at hl 0 rfl) ?_
  refine lv_aload_n hx hb dX9_prepare_35 rfl (lv_at hl 1 rfl) ?_
  refine va_get (ci := 9) (v := .int 0) (C := RX9) (T := TX9) (N := 9) hx hb ht iX9 hown hK hP 0 rfl rfl 5 (by decide) (ht _ k_118) (fun _ h9 => h9) rfl dX9_prepare_36 ?_
  refine lv_icmp_ge (tgt := 78) hx hb dX9_prepare_39 (by decide) (fun _ => ?_) (fun c9 => absurd (by decide) c9)
  refine W.widen (k := 0) (n := 0) (Nat.le_of_ble_eq_true rfl) (Nat.le_of_ble_eq_true rfl) ?_
  exact W.vret hx hb hr (fun t ht9 hW => ⟨⟨(), rfl, trivial, trivial⟩, hS.F ht9⟩) hS.2.2 dX9_prepare_78
set_option maxHeartbeats 4000000 in
set_option maxRecDepth 100000 in
theorem c_readTown (l : Launch) (G : va_G) (cy : Nat → ClassId) (sz : Nat) (tsw : Nat) (h : Nat) (tp : Nat) (tw : Nat) (q : Nat) (sw : Nat) (t0 : Value) (t1 : Value) (t2 : Value) (t4 : Value) (w0 : Value) (w1 : Value) (w3 : Value) (w4 : Value) (f : Nat → Int32)  : Met l yX6_readTown (.code yX6_readTown cX6_readTown 3 (some .boolean) :: TBg) ({ frames := 2, cells := 0, slots := 0, locals := 128 }) (va_Pc [.ref h] (EnS G cy [(h, .inr (6, [.ref tp, .int 0, .ref tw, .int 0, .int 0, .int 0, .int 0, .long 0, .int 0, .int 0, .int (-1)])), (tw, .inr (9, [t0, t1, t2, .int 0, t4, .int 0, .ref q, .int 0, .ref sw])), (q, .inr (5, [w0, w1, .int 0, w3, w4])), (sw, .inl (cy 2, 12, .inl f))] sz tsw)) (va_Qi (fun (r : Int32) (u : Nat → Nat → Int32) => r = 1 ∧ True) (fun u t => Ex G (va_A [(h, .inr (6, [.ref tp, .int 0, .ref tw, .int 0, .int 0, .int 0, .int 0, .long 0, .int 0, .int 0, .int (-1)])), (tw, .inr (9, [t0, t1, t2, .int 0, t4, .int 0, .ref q, .int 0, .ref sw])), (q, .inr (5, [w0, w1, .int 0, w3, w4])), (sw, .inl (cy 2, 12, .inl f))] sz) [(h, .inr (6, [.ref tp, .int 0, .ref tw, .int 0, .int 17, .int 0, .int 0, .long 0, .int 0, .int 0, .int (-1)])), (tw, .inr (9, [t0, t1, t2, .int 0, t4, .int 0, .ref q, .int 0, .ref sw])), (q, .inr (5, [w0, w1, .int 0, w3, w4])), (sw, .inl (cy 2, 12, .inl (u 0)))] t) (va_A [(h, .inr (6, [.ref tp, .int 0, .ref tw, .int 0, .int 0, .int 0, .int 0, .long 0, .int 0, .int 0, .int (-1)])), (tw, .inr (9, [t0, t1, t2, .int 0, t4, .int 0, .ref q, .int 0, .ref sw])), (q, .inr (5, [w0, w1, .int 0, w3, w4])), (sw, .inl (cy 2, 12, .inl f))] sz)) 0 0 (va_A [(h, .inr (6, [.ref tp, .int 0, .ref tw, .int 0, .int 0, .int 0, .int 0, .long 0, .int 0, .int 0, .int (-1)])), (tw, .inr (9, [t0, t1, t2, .int 0, t4, .int 0, .ref q, .int 0, .ref sw])), (q, .inr (5, [w0, w1, .int 0, w3, w4])), (sw, .inl (cy 2, 12, .inl f))] sz) := by
  refine Met.ofW (cc := cX6_readTown) (maxL := 3) (ret := (some .boolean)) (by decide) rfl ?_
  intro p e s m args below meth c s₁ B hml hv
  obtain ⟨rfl, ⟨hsz, hP, hK, hD0, hN⟩, hSW⟩ := hv
  have hx := B.exec
  have hb := B.bytes
  have hr := B.returns
  have hts := atoms_spec (ws := .code yX6_readTown cX6_readTown 3 (some .boolean) :: TBg) B.pre
  have ht : ∀ w ∈ TBg, w.before _ s = true := fun w h => hts w (List.mem_cons_of_mem _ h)
  have hown : s.vm.findClass RX6 = some m.cls := findClass_of_methodNamed B.named
  have hlocks := B.notSynchronized
  subst hsz
  have hD := hD0.self (sz := s.heap.size)
  generalize hAe : va_A [(h, .inr (6, [.ref tp, .int 0, .ref tw, .int 0, .int 0, .int 0, .int 0, .long 0, .int 0, .int 0, .int (-1)])), (tw, .inr (9, [t0, t1, t2, .int 0, t4, .int 0, .ref q, .int 0, .ref sw])), (q, .inr (5, [w0, w1, .int 0, w3, w4])), (sw, .inl (cy 2, 12, .inl f))] s.heap.size = A at hD hSW ⊢
  have hA : ∀ q : Nat, s.heap.size ≤ q → A q := fun q h => by rw [← hAe]; exact Or.inr h
  have hS : va_S A s.heap s.heap [] := va_S.rf
  have hl := lv_entry ([.ref h]) (n := 3) (Nat.le_of_ble_eq_true rfl)
  rw [lg_entry_eq]
  generalize (lg_sl ([.ref h]) ++ List.replicate (3 - (lg_sl ([.ref h])).length) Slot.unset).toArray = ls at hl ⊢
  have hl : lv_has ls 3 [(0, .ref h)] := hl
  refine lv_aload_n hx hb dX6_readTown_0 rfl (lv_at hl 0 rfl) ?_
  refine va_get (ci := 6) (v := .ref tw) (C := RX6) (T := TX6) (N := 11) hx hb ht iX6 hown hK hP 0 rfl rfl 2 (by decide) (ht _ k_159) (fun _ h9 => h9) rfl dX6_readTown_1 ?_
  have hFc := va_free (wc := [(tw, .inr (9, [t0, t1, t2, .int 0, t4, .int 0, .ref q, .int 0, .ref sw])), (q, .inr (5, [w0, w1, .int 0, w3, w4])), (sw, .inl (cy 2, 12, .inl f))]) hD hS hA [1, 2, 3] rfl
  have hPc := hP.sub (ws' := [(tw, .inr (9, [t0, t1, t2, .int 0, t4, .int 0, .ref q, .int 0, .ref sw])), (q, .inr (5, [w0, w1, .int 0, w3, w4])), (sw, .inl (cy 2, 12, .inl f))]) [1, 2, 3] rfl
  have hDc := hD.sub (ws' := [(tw, .inr (9, [t0, t1, t2, .int 0, t4, .int 0, .ref q, .int 0, .ref sw])), (q, .inr (5, [w0, w1, .int 0, w3, w4])), (sw, .inl (cy 2, 12, .inl f))]) [1, 2, 3] (by decide) rfl
  refine va_callv (va_runV (As := []) (rest := []) ⟨hx, hb, hml, hown, ht⟩ (c_townClear l G cy _ tw q sw (t0) (t1) (t2) (t4) (w0) (w1) (w3) (w4) f ) (cwV 0 ht (gv k_166 k_167 k_168 k_78 k_165) rfl rfl rfl (by decide +kernel) ⟨Nat.le_of_ble_eq_true rfl, Nat.le_of_ble_eq_true rfl⟩) ⟨En.blind, va_recv hK hP (ci := 9) (q0 := 1) rfl rfl, fun U hU hW => ⟨rfl, En.of hU hW hPc hK hDc hN⟩⟩ rfl rfl hl.1 rfl (lv_room (Nat.le_of_ble_eq_true rfl)) dX6_readTown_4 ⟨Nat.le_of_ble_eq_true rfl, Nat.le_of_ble_eq_true rfl⟩) hS (fun q _ h => hFc q h) hFc (fun u_1 t H locs ht9 hvm hw hB hz1 hk1 hS => ?_)
  obtain ⟨hP1, hD1⟩ := hB
  rw [ht9] at hP1
  obtain ⟨hP, hD⟩ := fr_put (wc := [(tw, .inr (9, [t0, t1, t2, .int 0, t4, .int 0, .ref q, .int 0, .ref sw])), (q, .inr (5, [w0, w1, .int 0, w3, w4])), (sw, .inl (cy 2, 12, .inl f))]) (w1 := [(tw, .inr (9, [t0, t1, t2, .int 0, t4, .int 0, .ref q, .int 0, .ref sw])), (q, .inr (5, [w0, w1, .int 0, w3, w4])), (sw, .inl (cy 2, 12, .inl (u_1 0)))]) hP hD [1, 2, 3] rfl rfl rfl hk1 hP1
  clear hFc hPc hDc hP1 hD1 hz1 hk1
  have hP : va_P G vwCl [(h, .inr (6, [.ref tp, .int 0, .ref tw, .int 0, .int 0, .int 0, .int 0, .long 0, .int 0, .int 0, .int (-1)])), (tw, .inr (9, [t0, t1, t2, .int 0, t4, .int 0, .ref q, .int 0, .ref sw])), (q, .inr (5, [w0, w1, .int 0, w3, w4])), (sw, .inl (cy 2, 12, .inl (u_1 0)))] H := hP
  have hD : va_D A [(h, .inr (6, [.ref tp, .int 0, .ref tw, .int 0, .int 0, .int 0, .int 0, .long 0, .int 0, .int 0, .int (-1)])), (tw, .inr (9, [t0, t1, t2, .int 0, t4, .int 0, .ref q, .int 0, .ref sw])), (q, .inr (5, [w0, w1, .int 0, w3, w4])), (sw, .inl (cy 2, 12, .inl (u_1 0)))] := hD
  refine lv_aload_n hx hb dX6_readTown_7 rfl (lv_at hl 0 rfl) ?_
  have hFc := va_free (wc := [(h, .inr (6, [.ref tp, .int 0, .ref tw, .int 0, .int 0, .int 0, .int 0, .long 0, .int 0, .int 0, .int (-1)]))]) hD hS hA [0] rfl
  have hPc := hP.sub (ws' := [(h, .inr (6, [.ref tp, .int 0, .ref tw, .int 0, .int 0, .int 0, .int 0, .long 0, .int 0, .int 0, .int (-1)]))]) [0] rfl
  have hDc := hD.sub (ws' := [(h, .inr (6, [.ref tp, .int 0, .ref tw, .int 0, .int 0, .int 0, .int 0, .long 0, .int 0, .int 0, .int (-1)]))]) [0] (by decide) rfl
  refine va_callv (va_runV (As := []) (rest := []) ⟨hx, hb, hml, hown, ht⟩ (c_takeToken l G cy _ h tp tw ) (cwV 0 ht (gv k_170 k_171 k_172 k_173 k_169) rfl rfl rfl (by decide +kernel) ⟨Nat.le_of_ble_eq_true rfl, Nat.le_of_ble_eq_true rfl⟩) ⟨En.blind, va_recv hK hP (ci := 6) (q0 := 0) rfl rfl, fun U hU hW => ⟨rfl, En.of hU hW hPc hK hDc hN⟩⟩ rfl rfl hl.1 rfl (lv_room (Nat.le_of_ble_eq_true rfl)) dX6_readTown_8 ⟨Nat.le_of_ble_eq_true rfl, Nat.le_of_ble_eq_true rfl⟩) hS (fun q _ h => hFc q h) hFc (fun u_2 t H locs ht9 hvm hw hB hz1 hk1 hS => ?_)
  obtain ⟨hP1, hD1⟩ := hB
  rw [ht9] at hP1
  obtain ⟨hP, hD⟩ := fr_put (wc := [(h, .inr (6, [.ref tp, .int 0, .ref tw, .int 0, .int 0, .int 0, .int 0, .long 0, .int 0, .int 0, .int (-1)]))]) (w1 := [(h, .inr (6, [.ref tp, .int 0, .ref tw, .int 0, .int 17, .int 0, .int 0, .long 0, .int 0, .int 0, .int (-1)]))]) hP hD [0] rfl rfl rfl hk1 hP1
  clear hFc hPc hDc hP1 hD1 hz1 hk1
  have hP : va_P G vwCl [(h, .inr (6, [.ref tp, .int 0, .ref tw, .int 0, .int 17, .int 0, .int 0, .long 0, .int 0, .int 0, .int (-1)])), (tw, .inr (9, [t0, t1, t2, .int 0, t4, .int 0, .ref q, .int 0, .ref sw])), (q, .inr (5, [w0, w1, .int 0, w3, w4])), (sw, .inl (cy 2, 12, .inl (u_1 0)))] H := hP
  have hD : va_D A [(h, .inr (6, [.ref tp, .int 0, .ref tw, .int 0, .int 17, .int 0, .int 0, .long 0, .int 0, .int 0, .int (-1)])), (tw, .inr (9, [t0, t1, t2, .int 0, t4, .int 0, .ref q, .int 0, .ref sw])), (q, .inr (5, [w0, w1, .int 0, w3, w4])), (sw, .inl (cy 2, 12, .inl (u_1 0)))] := hD
  refine lv_iconst (v := 1) hx hb dX6_readTown_11 (by decide) ?_
  refine lv_istore_n (lv' := [(1, .int 1), (0, .ref h)]) hx hb dX6_readTown_12 rfl hl (by decide) rfl (fun ls hl => ?_)
  refine lv_iconst (v := 0) hx hb dX6_readTown_13 (by decide) ?_
  refine lv_istore_n (lv' := [(2, .int 0), (1, .int 1), (0, .ref h)]) hx hb dX6_readTown_14 rfl hl (by decide) rfl (fun ls hl => ?_)
  refine lv_iload_n hx hb dX6_readTown_15 rfl (lv_at hl 0 rfl) ?_
  refine lv_sipush (v := 1700) hx hb dX6_readTown_16 (by decide) ?_
  refine lv_icmp_ge (tgt := 99) hx hb dX6_readTown_19 (by decide) (fun c9 => absurd c9 (by decide)) (fun _ => ?_)
  refine lv_iload_n hx hb dX6_readTown_22 rfl (lv_at hl 1 rfl) ?_
  refine lv_if_eq (tgt := 99) hx hb dX6_readTown_23 (by decide) (fun c9 => absurd c9 (by decide)) (fun _ => ?_)
  refine lv_aload_n hx hb dX6_readTown_26 rfl (lv_at hl 2 rfl) ?_
  refine va_get (ci := 6) (v := .int 17) (C := RX6) (T := TX6) (N := 11) hx hb ht iX6 hown hK hP 0 rfl rfl 4 (by decide) (ht _ k_162) (fun _ h9 => h9) rfl dX6_readTown_27 ?_
  refine lv_bipush (v := 17) hx hb dX6_readTown_30 (by decide) ?_
  refine lv_icmp_eq (tgt := 99) hx hb dX6_readTown_32 (by decide) (fun _ => ?_) (fun c9 => absurd (by decide) c9)
  refine lv_aload_n hx hb dX6_readTown_99 rfl (lv_at hl 2 rfl) ?_
  refine va_get (ci := 6) (v := .int 0) (C := RX6) (T := TX6) (N := 11) hx hb ht iX6 hown hK hP 0 rfl rfl 8 (by decide) (ht _ k_174) (fun _ h9 => h9) rfl dX6_readTown_100 ?_
  refine lv_if_ne (tgt := 113) hx hb dX6_readTown_103 (by decide) (fun c9 => absurd (by decide) c9) (fun _ => ?_)
  refine lv_aload_n hx hb dX6_readTown_106 rfl (lv_at hl 2 rfl) ?_
  refine va_get (ci := 6) (v := .ref tw) (C := RX6) (T := TX6) (N := 11) hx hb ht iX6 hown hK hP 0 rfl rfl 2 (by decide) (ht _ k_159) (fun _ h9 => h9) rfl dX6_readTown_107 ?_
  have hFc := va_free (wc := [(tw, .inr (9, [t0, t1, t2, .int 0, t4, .int 0, .ref q, .int 0, .ref sw])), (sw, .inl (cy 2, 12, .inl (u_1 0)))]) hD hS hA [1, 3] rfl
  have hPc := hP.sub (ws' := [(tw, .inr (9, [t0, t1, t2, .int 0, t4, .int 0, .ref q, .int 0, .ref sw])), (sw, .inl (cy 2, 12, .inl (u_1 0)))]) [1, 3] rfl
  have hDc := hD.sub (ws' := [(tw, .inr (9, [t0, t1, t2, .int 0, t4, .int 0, .ref q, .int 0, .ref sw])), (sw, .inl (cy 2, 12, .inl (u_1 0)))]) [1, 3] (by decide) rfl
  refine va_callv (va_runV (As := []) (rest := []) ⟨hx, hb, hml, hown, ht⟩ (c_sweeten l G cy _ tsw tw q sw (t0) (t1) (t2) (t4) (u_1 0) ) (cwV 0 ht (gv k_176 k_177 k_178 k_78 k_175) rfl rfl rfl (by decide +kernel) ⟨Nat.le_of_ble_eq_true rfl, Nat.le_of_ble_eq_true rfl⟩) ⟨EnS.blind, va_recv hK hP (ci := 9) (q0 := 1) rfl rfl, fun U hU hW => ⟨rfl, En.of hU hW hPc hK hDc hN, SWt.of hSW hS hFc hU hW⟩⟩ rfl rfl hl.1 rfl (lv_room (Nat.le_of_ble_eq_true rfl)) dX6_readTown_110 ⟨Nat.le_of_ble_eq_true rfl, Nat.le_of_ble_eq_true rfl⟩) hS (fun q _ h => hFc q h) hFc (fun u_3 t H locs ht9 hvm hw hB hz1 hk1 hS => ?_)
  obtain ⟨hP1, hD1⟩ := hB
  rw [ht9] at hP1
  obtain ⟨hP, hD⟩ := fr_put (wc := [(tw, .inr (9, [t0, t1, t2, .int 0, t4, .int 0, .ref q, .int 0, .ref sw])), (sw, .inl (cy 2, 12, .inl (u_1 0)))]) (w1 := [(tw, .inr (9, [t0, t1, t2, .int 0, t4, .int 0, .ref q, .int 0, .ref sw])), (sw, .inl (cy 2, 12, .inl (u_3 0)))]) hP hD [1, 3] rfl rfl rfl hk1 hP1
  clear hFc hPc hDc hP1 hD1 hz1 hk1
  have hP : va_P G vwCl [(h, .inr (6, [.ref tp, .int 0, .ref tw, .int 0, .int 17, .int 0, .int 0, .long 0, .int 0, .int 0, .int (-1)])), (tw, .inr (9, [t0, t1, t2, .int 0, t4, .int 0, .ref q, .int 0, .ref sw])), (q, .inr (5, [w0, w1, .int 0, w3, w4])), (sw, .inl (cy 2, 12, .inl (u_3 0)))] H := hP
  have hD : va_D A [(h, .inr (6, [.ref tp, .int 0, .ref tw, .int 0, .int 17, .int 0, .int 0, .long 0, .int 0, .int 0, .int (-1)])), (tw, .inr (9, [t0, t1, t2, .int 0, t4, .int 0, .ref q, .int 0, .ref sw])), (q, .inr (5, [w0, w1, .int 0, w3, w4])), (sw, .inl (cy 2, 12, .inl (u_3 0)))] := hD
  refine lv_iload_n hx hb dX6_readTown_113 rfl (lv_at hl 1 rfl) ?_
  refine W.widen (k := 0) (n := 0) (Nat.le_of_ble_eq_true rfl) (Nat.le_of_ble_eq_true rfl) ?_
  have hP9 : va_P G vwCl [(h, .inr (6, [.ref tp, .int 0, .ref tw, .int 0, .int 17, .int 0, .int 0, .long 0, .int 0, .int 0, .int (-1)])), (tw, .inr (9, [t0, t1, t2, .int 0, t4, .int 0, .ref q, .int 0, .ref sw])), (q, .inr (5, [w0, w1, .int 0, w3, w4])), (sw, .inl (cy 2, 12, .inl ((lsf [(u_3 0)]) 0)))] _ := hP.sub [0, 1, 2, 3] rfl
  have hD9 : va_D A [(h, .inr (6, [.ref tp, .int 0, .ref tw, .int 0, .int 17, .int 0, .int 0, .long 0, .int 0, .int 0, .int (-1)])), (tw, .inr (9, [t0, t1, t2, .int 0, t4, .int 0, .ref q, .int 0, .ref sw])), (q, .inr (5, [w0, w1, .int 0, w3, w4])), (sw, .inl (cy 2, 12, .inl ((lsf [(u_3 0)]) 0)))] := hD.sub [0, 1, 2, 3] (by decide) rfl
  exact W.zret (v := 1) hx hb hr (by first | rfl | decide) (fun t ht9 hW => ⟨⟨1, (lsf [(u_3 0)]), rfl, ⟨rfl, trivial⟩, ⟨by rw [ht9]; exact hP9, hD9⟩⟩, hS.F ht9⟩) hS.2.2 dX6_readTown_114
end
