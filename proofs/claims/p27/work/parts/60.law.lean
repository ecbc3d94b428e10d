/-! THE CLAIM OUT OF ONE WALK OF THE LAW'S BODY. Your part is whole_start (and what it stands on); all else here is the same for every law, but numbers. -/
def R_law : String := "TuneLocksLaw"
def lw_P (b : Addr) (xs : List Int32) (args : Array Value) (s : State) : Prop := args = #[.ref b] ∧ s.IntsAt b xs ∧ xs.length ≤ 3072 ∧ (Jvm.Cond.and given_1 narrow_1).before args s = true
def lw_Q (_ : Array Value) (s : State) (o : Outcome) (t : State) : Prop := o = .returned (some (.int 1)) ∧ Framed s o t [] 600000 7302250
def lw_Z (below : List Frame) (a : Array Value) (s : State) : State → Prop := fun t => ∃ o, t.status = .running ∧ Ended t below o ∧ lw_Q a s o t
/-- the law's own end, with 1 on the stack, nothing written that was there before, its room as the claim has it -/
theorem lw_ret {p : Program} {l : Launch} {e : Env} {s : State} {m : MethodId} {below : List Frame} {meth : Method} {c : Code} {b : Nat} (hx : p.tables.exec = Jvm.exec) (hb : c.code = code) (hr : meth.sig.returnType = ret) (hlocks : meth.locks = false) {pc : Nat} {H : Heap} {ls : Array Slot} (hdg : decode code pc = .ok (.ireturn, 1)) : W p l e room_1 s m #[Value.ref b] below meth c H [] 600000 7302250 (lw_Z below #[Value.ref b] s) (F0 m pc ls [.int 1]) := by
  intro T hT X
  obtain ⟨fs, hret, hrun, hended, hW, hframe⟩ := X.leave (v := some (.int 1)) (hlocks := hlocks) (fun h => by rw [hr] at h; cases h)
  have hmeth' : T.vm.method? m = some meth := X.method'
  refine ⟨T.setFrames fs, ?_, .returned (some (.int 1)), hrun, hended, rfl, ⟨_, rfl⟩, hW, hframe⟩
  jvm_step X.here [X.here.top, hx, hb, hdg, hmeth', hr, ret, narrow_b1]
  (try refine ⟨rfl, ?_⟩); (try refine ⟨rfl, ?_⟩)
  first | (intro acts; rw [hret _ acts rfl rfl rfl]) | rw [hret _ _ rfl rfl rfl]
  exact Steps.refl _
/-- what holds at the law's entry: the machine, the code, the tables' words (any of lw_tbl by 'hts w (by decide +kernel)'), the script of L ints xs at the cell b, what the Statement gives of the start (any of its parts by flat_of_before) -/
def lw_At (p : Program) (s : State) (m : MethodId) (meth : Method) (c : Code) (b L : Nat) (xs : Nat → Int32) : Prop :=
  p.tables.exec = Jvm.exec ∧ c.code = code ∧ meth.sig.returnType = ret ∧ c.maxLocals = 4 ∧ s.vm.findClass R_law = some m.cls ∧ (∀ w ∈ lw_tbl, w.before #[Value.ref b] s = true) ∧ va_X b L xs s s.heap ∧ b < s.heap.size ∧ meth.locks = false ∧ (Jvm.Cond.and given_1 narrow_1).before #[Value.ref b] s = true

theorem k_854 : (Cond.code yX11_feed cX11_feed 6 (some .int)) ∈ TBg := tb_mem 453 (by decide +kernel) (by decide +kernel)
theorem k_855 : (Cond.methodLink RL 13 yX11_feed) ∈ TBg := tb_mem 450 (by decide +kernel) (by decide +kernel)
theorem k_856 : (Cond.instanceMethod yX11_feed) ∈ TBg := tb_mem 451 (by decide +kernel) (by decide +kernel)
theorem k_857 : (Cond.selects RX11 yX11_feed yX11_feed) ∈ TBg := tb_mem 452 (by decide +kernel) (by decide +kernel)
theorem k_858 : (Cond.code yX12_feed cX12_feed 8 (some .int)) ∈ TBg := tb_mem 1561 (by decide +kernel) (by decide +kernel)
theorem k_859 : (Cond.methodLink RL 17 yX12_feed) ∈ TBg := tb_mem 1558 (by decide +kernel) (by decide +kernel)
theorem k_860 : (Cond.instanceMethod yX12_feed) ∈ TBg := tb_mem 1559 (by decide +kernel) (by decide +kernel)
theorem k_861 : (Cond.selects RX12 yX12_feed yX12_feed) ∈ TBg := tb_mem 1560 (by decide +kernel) (by decide +kernel)
theorem k_862 : (Cond.code yX11_end cX11_end 2 (some .int)) ∈ TBg := tb_mem 461 (by decide +kernel) (by decide +kernel)
theorem k_863 : (Cond.methodLink RL 18 yX11_end) ∈ TBg := tb_mem 458 (by decide +kernel) (by decide +kernel)
theorem k_864 : (Cond.instanceMethod yX11_end) ∈ TBg := tb_mem 459 (by decide +kernel) (by decide +kernel)
theorem k_865 : (Cond.selects RX11 yX11_end yX11_end) ∈ TBg := tb_mem 460 (by decide +kernel) (by decide +kernel)
theorem k_866 : (Cond.code yX12_end cX12_end 2 (some .int)) ∈ TBg := tb_mem 1565 (by decide +kernel) (by decide +kernel)
theorem k_867 : (Cond.methodLink RL 22 yX12_end) ∈ TBg := tb_mem 1562 (by decide +kernel) (by decide +kernel)
theorem k_868 : (Cond.instanceMethod yX12_end) ∈ TBg := tb_mem 1563 (by decide +kernel) (by decide +kernel)
theorem k_869 : (Cond.selects RX12 yX12_end yX12_end) ∈ TBg := tb_mem 1564 (by decide +kernel) (by decide +kernel)
theorem k_870 : (Cond.code yX11_town cX11_town 5 (some .int)) ∈ TBg := tb_mem 465 (by decide +kernel) (by decide +kernel)
theorem k_871 : (Cond.methodLink RL 23 yX11_town) ∈ TBg := tb_mem 462 (by decide +kernel) (by decide +kernel)
theorem k_872 : (Cond.instanceMethod yX11_town) ∈ TBg := tb_mem 463 (by decide +kernel) (by decide +kernel)
theorem k_873 : (Cond.selects RX11 yX11_town yX11_town) ∈ TBg := tb_mem 464 (by decide +kernel) (by decide +kernel)
theorem k_874 : (Cond.code yX12_town cX12_town 2 (some .int)) ∈ TBg := tb_mem 1195 (by decide +kernel) (by decide +kernel)
theorem k_875 : (Cond.methodLink RL 27 yX12_town) ∈ TBg := tb_mem 1192 (by decide +kernel) (by decide +kernel)
theorem k_876 : (Cond.instanceMethod yX12_town) ∈ TBg := tb_mem 1193 (by decide +kernel) (by decide +kernel)
theorem k_877 : (Cond.selects RX12 yX12_town yX12_town) ∈ TBg := tb_mem 1194 (by decide +kernel) (by decide +kernel)
theorem k_878 : (Cond.code yX11_fault cX11_fault 2 (some .int)) ∈ TBg := tb_mem 759 (by decide +kernel) (by decide +kernel)
theorem k_879 : (Cond.methodLink RL 28 yX11_fault) ∈ TBg := tb_mem 756 (by decide +kernel) (by decide +kernel)
theorem k_880 : (Cond.instanceMethod yX11_fault) ∈ TBg := tb_mem 757 (by decide +kernel) (by decide +kernel)
theorem k_881 : (Cond.selects RX11 yX11_fault yX11_fault) ∈ TBg := tb_mem 758 (by decide +kernel) (by decide +kernel)
theorem k_882 : (Cond.code yX12_fault cX12_fault 2 (some .int)) ∈ TBg := tb_mem 1326 (by decide +kernel) (by decide +kernel)
theorem k_883 : (Cond.methodLink RL 31 yX12_fault) ∈ TBg := tb_mem 1323 (by decide +kernel) (by decide +kernel)
theorem k_884 : (Cond.instanceMethod yX12_fault) ∈ TBg := tb_mem 1324 (by decide +kernel) (by decide +kernel)
theorem k_885 : (Cond.selects RX12 yX12_fault yX12_fault) ∈ TBg := tb_mem 1325 (by decide +kernel) (by decide +kernel)
theorem k_886 : (Cond.code yX11_notes cX11_notes 2 (some .int)) ∈ TBg := tb_mem 763 (by decide +kernel) (by decide +kernel)
theorem k_887 : (Cond.methodLink RL 32 yX11_notes) ∈ TBg := tb_mem 760 (by decide +kernel) (by decide +kernel)
theorem k_888 : (Cond.instanceMethod yX11_notes) ∈ TBg := tb_mem 761 (by decide +kernel) (by decide +kernel)
theorem k_889 : (Cond.selects RX11 yX11_notes yX11_notes) ∈ TBg := tb_mem 762 (by decide +kernel) (by decide +kernel)
theorem k_890 : (Cond.code yX12_notes cX12_notes 2 (some .int)) ∈ TBg := tb_mem 1330 (by decide +kernel) (by decide +kernel)
theorem k_891 : (Cond.methodLink RL 35 yX12_notes) ∈ TBg := tb_mem 1327 (by decide +kernel) (by decide +kernel)
theorem k_892 : (Cond.instanceMethod yX12_notes) ∈ TBg := tb_mem 1328 (by decide +kernel) (by decide +kernel)
theorem k_893 : (Cond.selects RX12 yX12_notes yX12_notes) ∈ TBg := tb_mem 1329 (by decide +kernel) (by decide +kernel)
theorem k_894 : (Cond.code yX11_step cX11_step 3 (some .int)) ∈ TBg := tb_mem 771 (by decide +kernel) (by decide +kernel)
theorem k_895 : (Cond.methodLink RL 36 yX11_step) ∈ TBg := tb_mem 768 (by decide +kernel) (by decide +kernel)
theorem k_896 : (Cond.instanceMethod yX11_step) ∈ TBg := tb_mem 769 (by decide +kernel) (by decide +kernel)
theorem k_897 : (Cond.selects RX11 yX11_step yX11_step) ∈ TBg := tb_mem 770 (by decide +kernel) (by decide +kernel)
theorem k_898 : (Cond.code yX12_step cX12_step 3 (some .int)) ∈ TBg := tb_mem 1349 (by decide +kernel) (by decide +kernel)
theorem k_899 : (Cond.methodLink RL 40 yX12_step) ∈ TBg := tb_mem 1346 (by decide +kernel) (by decide +kernel)
theorem k_900 : (Cond.instanceMethod yX12_step) ∈ TBg := tb_mem 1347 (by decide +kernel) (by decide +kernel)
theorem k_901 : (Cond.selects RX12 yX12_step yX12_step) ∈ TBg := tb_mem 1348 (by decide +kernel) (by decide +kernel)
theorem k_902 : (Cond.code yX11_off cX11_off 4 (some .int)) ∈ TBg := tb_mem 777 (by decide +kernel) (by decide +kernel)
theorem k_903 : (Cond.methodLink RL 41 yX11_off) ∈ TBg := tb_mem 774 (by decide +kernel) (by decide +kernel)
theorem k_904 : (Cond.instanceMethod yX11_off) ∈ TBg := tb_mem 775 (by decide +kernel) (by decide +kernel)
theorem k_905 : (Cond.selects RX11 yX11_off yX11_off) ∈ TBg := tb_mem 776 (by decide +kernel) (by decide +kernel)
theorem k_906 : (Cond.code yX12_off cX12_off 4 (some .int)) ∈ TBg := tb_mem 1358 (by decide +kernel) (by decide +kernel)
theorem k_907 : (Cond.methodLink RL 45 yX12_off) ∈ TBg := tb_mem 1355 (by decide +kernel) (by decide +kernel)
theorem k_908 : (Cond.instanceMethod yX12_off) ∈ TBg := tb_mem 1356 (by decide +kernel) (by decide +kernel)
theorem k_909 : (Cond.selects RX12 yX12_off yX12_off) ∈ TBg := tb_mem 1357 (by decide +kernel) (by decide +kernel)
theorem k_910 : (Cond.code yX11_in cX11_in 4 (some .int)) ∈ TBg := tb_mem 782 (by decide +kernel) (by decide +kernel)
theorem k_911 : (Cond.methodLink RL 46 yX11_in) ∈ TBg := tb_mem 779 (by decide +kernel) (by decide +kernel)
theorem k_912 : (Cond.instanceMethod yX11_in) ∈ TBg := tb_mem 780 (by decide +kernel) (by decide +kernel)
theorem k_913 : (Cond.selects RX11 yX11_in yX11_in) ∈ TBg := tb_mem 781 (by decide +kernel) (by decide +kernel)
theorem k_914 : (Cond.code yX12_in cX12_in 4 (some .int)) ∈ TBg := tb_mem 1373 (by decide +kernel) (by decide +kernel)
theorem k_915 : (Cond.methodLink RL 49 yX12_in) ∈ TBg := tb_mem 1370 (by decide +kernel) (by decide +kernel)
theorem k_916 : (Cond.instanceMethod yX12_in) ∈ TBg := tb_mem 1371 (by decide +kernel) (by decide +kernel)
theorem k_917 : (Cond.selects RX12 yX12_in yX12_in) ∈ TBg := tb_mem 1372 (by decide +kernel) (by decide +kernel)
theorem k_918 : (Cond.code yX11_doors cX11_doors 5 (some .int)) ∈ TBg := tb_mem 794 (by decide +kernel) (by decide +kernel)
theorem k_919 : (Cond.methodLink RL 50 yX11_doors) ∈ TBg := tb_mem 791 (by decide +kernel) (by decide +kernel)
theorem k_920 : (Cond.instanceMethod yX11_doors) ∈ TBg := tb_mem 792 (by decide +kernel) (by decide +kernel)
theorem k_921 : (Cond.selects RX11 yX11_doors yX11_doors) ∈ TBg := tb_mem 793 (by decide +kernel) (by decide +kernel)
theorem k_922 : (Cond.code yX12_doors cX12_doors 5 (some .int)) ∈ TBg := tb_mem 1389 (by decide +kernel) (by decide +kernel)
theorem k_923 : (Cond.methodLink RL 54 yX12_doors) ∈ TBg := tb_mem 1386 (by decide +kernel) (by decide +kernel)
theorem k_924 : (Cond.instanceMethod yX12_doors) ∈ TBg := tb_mem 1387 (by decide +kernel) (by decide +kernel)
theorem k_925 : (Cond.selects RX12 yX12_doors yX12_doors) ∈ TBg := tb_mem 1388 (by decide +kernel) (by decide +kernel)
theorem k_926 : (Cond.code yX11_asked cX11_asked 4 (some .int)) ∈ TBg := tb_mem 799 (by decide +kernel) (by decide +kernel)
theorem k_927 : (Cond.methodLink RL 55 yX11_asked) ∈ TBg := tb_mem 796 (by decide +kernel) (by decide +kernel)
theorem k_928 : (Cond.instanceMethod yX11_asked) ∈ TBg := tb_mem 797 (by decide +kernel) (by decide +kernel)
theorem k_929 : (Cond.selects RX11 yX11_asked yX11_asked) ∈ TBg := tb_mem 798 (by decide +kernel) (by decide +kernel)
theorem k_930 : (Cond.code yX12_asked cX12_asked 4 (some .int)) ∈ TBg := tb_mem 1416 (by decide +kernel) (by decide +kernel)
theorem k_931 : (Cond.methodLink RL 59 yX12_asked) ∈ TBg := tb_mem 1413 (by decide +kernel) (by decide +kernel)
theorem k_932 : (Cond.instanceMethod yX12_asked) ∈ TBg := tb_mem 1414 (by decide +kernel) (by decide +kernel)
theorem k_933 : (Cond.selects RX12 yX12_asked yX12_asked) ∈ TBg := tb_mem 1415 (by decide +kernel) (by decide +kernel)
theorem k_934 : (Cond.code yX11_dealt cX11_dealt 2 (some .int)) ∈ TBg := tb_mem 812 (by decide +kernel) (by decide +kernel)
theorem k_935 : (Cond.methodLink RL 60 yX11_dealt) ∈ TBg := tb_mem 809 (by decide +kernel) (by decide +kernel)
theorem k_936 : (Cond.instanceMethod yX11_dealt) ∈ TBg := tb_mem 810 (by decide +kernel) (by decide +kernel)
theorem k_937 : (Cond.selects RX11 yX11_dealt yX11_dealt) ∈ TBg := tb_mem 811 (by decide +kernel) (by decide +kernel)
theorem k_938 : (Cond.code yX12_dealt cX12_dealt 7 (some .int)) ∈ TBg := tb_mem 1424 (by decide +kernel) (by decide +kernel)
theorem k_939 : (Cond.methodLink RL 63 yX12_dealt) ∈ TBg := tb_mem 1421 (by decide +kernel) (by decide +kernel)
theorem k_940 : (Cond.instanceMethod yX12_dealt) ∈ TBg := tb_mem 1422 (by decide +kernel) (by decide +kernel)
theorem k_941 : (Cond.selects RX12 yX12_dealt yX12_dealt) ∈ TBg := tb_mem 1423 (by decide +kernel) (by decide +kernel)
theorem k_942 : (Cond.code yX11_master cX11_master 3 (some .int)) ∈ TBg := tb_mem 831 (by decide +kernel) (by decide +kernel)
theorem k_943 : (Cond.methodLink RL 64 yX11_master) ∈ TBg := tb_mem 828 (by decide +kernel) (by decide +kernel)
theorem k_944 : (Cond.instanceMethod yX11_master) ∈ TBg := tb_mem 829 (by decide +kernel) (by decide +kernel)
theorem k_945 : (Cond.selects RX11 yX11_master yX11_master) ∈ TBg := tb_mem 830 (by decide +kernel) (by decide +kernel)
theorem k_946 : (Cond.code yX12_master cX12_master 3 (some .int)) ∈ TBg := tb_mem 1431 (by decide +kernel) (by decide +kernel)
theorem k_947 : (Cond.methodLink RL 67 yX12_master) ∈ TBg := tb_mem 1428 (by decide +kernel) (by decide +kernel)
theorem k_948 : (Cond.instanceMethod yX12_master) ∈ TBg := tb_mem 1429 (by decide +kernel) (by decide +kernel)
theorem k_949 : (Cond.selects RX12 yX12_master yX12_master) ∈ TBg := tb_mem 1430 (by decide +kernel) (by decide +kernel)
theorem k_950 : (Cond.code yX11_round cX11_round 3 (some .int)) ∈ TBg := tb_mem 868 (by decide +kernel) (by decide +kernel)
theorem k_951 : (Cond.methodLink RL 68 yX11_round) ∈ TBg := tb_mem 865 (by decide +kernel) (by decide +kernel)
theorem k_952 : (Cond.instanceMethod yX11_round) ∈ TBg := tb_mem 866 (by decide +kernel) (by decide +kernel)
theorem k_953 : (Cond.selects RX11 yX11_round yX11_round) ∈ TBg := tb_mem 867 (by decide +kernel) (by decide +kernel)
theorem k_954 : (Cond.code yX12_round cX12_round 3 (some .int)) ∈ TBg := tb_mem 1459 (by decide +kernel) (by decide +kernel)
theorem k_955 : (Cond.methodLink RL 71 yX12_round) ∈ TBg := tb_mem 1456 (by decide +kernel) (by decide +kernel)
theorem k_956 : (Cond.instanceMethod yX12_round) ∈ TBg := tb_mem 1457 (by decide +kernel) (by decide +kernel)
theorem k_957 : (Cond.selects RX12 yX12_round yX12_round) ∈ TBg := tb_mem 1458 (by decide +kernel) (by decide +kernel)
theorem k_958 : (Cond.code yX11_good cX11_good 4 (some .int)) ∈ TBg := tb_mem 881 (by decide +kernel) (by decide +kernel)
theorem k_959 : (Cond.methodLink RL 72 yX11_good) ∈ TBg := tb_mem 878 (by decide +kernel) (by decide +kernel)
theorem k_960 : (Cond.instanceMethod yX11_good) ∈ TBg := tb_mem 879 (by decide +kernel) (by decide +kernel)
theorem k_961 : (Cond.selects RX11 yX11_good yX11_good) ∈ TBg := tb_mem 880 (by decide +kernel) (by decide +kernel)
theorem k_962 : (Cond.code yX12_good cX12_good 5 (some .int)) ∈ TBg := tb_mem 1475 (by decide +kernel) (by decide +kernel)
theorem k_963 : (Cond.methodLink RL 75 yX12_good) ∈ TBg := tb_mem 1472 (by decide +kernel) (by decide +kernel)
theorem k_964 : (Cond.instanceMethod yX12_good) ∈ TBg := tb_mem 1473 (by decide +kernel) (by decide +kernel)
theorem k_965 : (Cond.selects RX12 yX12_good yX12_good) ∈ TBg := tb_mem 1474 (by decide +kernel) (by decide +kernel)
theorem k_966 : (Cond.code yX11_deaf cX11_deaf 8 (some .int)) ∈ TBg := tb_mem 890 (by decide +kernel) (by decide +kernel)
theorem k_967 : (Cond.methodLink RL 76 yX11_deaf) ∈ TBg := tb_mem 887 (by decide +kernel) (by decide +kernel)
theorem k_968 : (Cond.instanceMethod yX11_deaf) ∈ TBg := tb_mem 888 (by decide +kernel) (by decide +kernel)
theorem k_969 : (Cond.selects RX11 yX11_deaf yX11_deaf) ∈ TBg := tb_mem 889 (by decide +kernel) (by decide +kernel)
theorem k_970 : (Cond.code yX12_deaf cX12_deaf 7 (some .int)) ∈ TBg := tb_mem 1479 (by decide +kernel) (by decide +kernel)
theorem k_971 : (Cond.methodLink RL 79 yX12_deaf) ∈ TBg := tb_mem 1476 (by decide +kernel) (by decide +kernel)
theorem k_972 : (Cond.instanceMethod yX12_deaf) ∈ TBg := tb_mem 1477 (by decide +kernel) (by decide +kernel)
theorem k_973 : (Cond.selects RX12 yX12_deaf yX12_deaf) ∈ TBg := tb_mem 1478 (by decide +kernel) (by decide +kernel)
theorem k_974 : (Cond.code yX11_least cX11_least 6 (some .int)) ∈ TBg := tb_mem 808 (by decide +kernel) (by decide +kernel)
theorem k_975 : (Cond.methodLink RL 80 yX11_least) ∈ TBg := tb_mem 805 (by decide +kernel) (by decide +kernel)
theorem k_976 : (Cond.instanceMethod yX11_least) ∈ TBg := tb_mem 806 (by decide +kernel) (by decide +kernel)
theorem k_977 : (Cond.selects RX11 yX11_least yX11_least) ∈ TBg := tb_mem 807 (by decide +kernel) (by decide +kernel)
theorem k_978 : (Cond.code yX12_least cX12_least 5 (some .int)) ∈ TBg := tb_mem 1494 (by decide +kernel) (by decide +kernel)
theorem k_979 : (Cond.methodLink RL 83 yX12_least) ∈ TBg := tb_mem 1491 (by decide +kernel) (by decide +kernel)
theorem k_980 : (Cond.instanceMethod yX12_least) ∈ TBg := tb_mem 1492 (by decide +kernel) (by decide +kernel)
theorem k_981 : (Cond.selects RX12 yX12_least yX12_least) ∈ TBg := tb_mem 1493 (by decide +kernel) (by decide +kernel)
theorem k_982 : (Cond.code yX11_sing cX11_sing 3 (some .int)) ∈ TBg := tb_mem 903 (by decide +kernel) (by decide +kernel)
theorem k_983 : (Cond.methodLink RL 84 yX11_sing) ∈ TBg := tb_mem 900 (by decide +kernel) (by decide +kernel)
theorem k_984 : (Cond.instanceMethod yX11_sing) ∈ TBg := tb_mem 901 (by decide +kernel) (by decide +kernel)
theorem k_985 : (Cond.selects RX11 yX11_sing yX11_sing) ∈ TBg := tb_mem 902 (by decide +kernel) (by decide +kernel)
theorem k_986 : (Cond.methodLink RL 87 yX12_sing) ∈ TBg := tb_mem 1495 (by decide +kernel) (by decide +kernel)
theorem k_987 : (Cond.code yX11_song cX11_song 6 (some .int)) ∈ TBg := tb_mem 919 (by decide +kernel) (by decide +kernel)
theorem k_988 : (Cond.methodLink RL 88 yX11_song) ∈ TBg := tb_mem 916 (by decide +kernel) (by decide +kernel)
theorem k_989 : (Cond.instanceMethod yX11_song) ∈ TBg := tb_mem 917 (by decide +kernel) (by decide +kernel)
theorem k_990 : (Cond.selects RX11 yX11_song yX11_song) ∈ TBg := tb_mem 918 (by decide +kernel) (by decide +kernel)
theorem k_991 : (Cond.code yX12_song cX12_song 6 (some .int)) ∈ TBg := tb_mem 1502 (by decide +kernel) (by decide +kernel)
theorem k_992 : (Cond.methodLink RL 91 yX12_song) ∈ TBg := tb_mem 1499 (by decide +kernel) (by decide +kernel)
theorem k_993 : (Cond.instanceMethod yX12_song) ∈ TBg := tb_mem 1500 (by decide +kernel) (by decide +kernel)
theorem k_994 : (Cond.selects RX12 yX12_song yX12_song) ∈ TBg := tb_mem 1501 (by decide +kernel) (by decide +kernel)
theorem k_995 : (Cond.code yX11_silence cX11_silence 2 (some .int)) ∈ TBg := tb_mem 923 (by decide +kernel) (by decide +kernel)
theorem k_996 : (Cond.methodLink RL 92 yX11_silence) ∈ TBg := tb_mem 920 (by decide +kernel) (by decide +kernel)
theorem k_997 : (Cond.instanceMethod yX11_silence) ∈ TBg := tb_mem 921 (by decide +kernel) (by decide +kernel)
theorem k_998 : (Cond.selects RX11 yX11_silence yX11_silence) ∈ TBg := tb_mem 922 (by decide +kernel) (by decide +kernel)
theorem k_999 : (Cond.code yX12_silence cX12_silence 2 (some .int)) ∈ TBg := tb_mem 1507 (by decide +kernel) (by decide +kernel)
theorem k_1000 : (Cond.methodLink RL 95 yX12_silence) ∈ TBg := tb_mem 1504 (by decide +kernel) (by decide +kernel)
theorem k_1001 : (Cond.instanceMethod yX12_silence) ∈ TBg := tb_mem 1505 (by decide +kernel) (by decide +kernel)
theorem k_1002 : (Cond.selects RX12 yX12_silence yX12_silence) ∈ TBg := tb_mem 1506 (by decide +kernel) (by decide +kernel)
theorem k_1003 : (Cond.code yX11_shut cX11_shut 2 (some .boolean)) ∈ TBg := tb_mem 927 (by decide +kernel) (by decide +kernel)
theorem k_1004 : (Cond.methodLink RL 96 yX11_shut) ∈ TBg := tb_mem 924 (by decide +kernel) (by decide +kernel)
theorem k_1005 : (Cond.instanceMethod yX11_shut) ∈ TBg := tb_mem 925 (by decide +kernel) (by decide +kernel)
theorem k_1006 : (Cond.selects RX11 yX11_shut yX11_shut) ∈ TBg := tb_mem 926 (by decide +kernel) (by decide +kernel)
theorem k_1007 : (Cond.code yX12_shut cX12_shut 2 (some .boolean)) ∈ TBg := tb_mem 1511 (by decide +kernel) (by decide +kernel)
theorem k_1008 : (Cond.methodLink RL 100 yX12_shut) ∈ TBg := tb_mem 1508 (by decide +kernel) (by decide +kernel)
theorem k_1009 : (Cond.instanceMethod yX12_shut) ∈ TBg := tb_mem 1509 (by decide +kernel) (by decide +kernel)
theorem k_1010 : (Cond.selects RX12 yX12_shut yX12_shut) ∈ TBg := tb_mem 1510 (by decide +kernel) (by decide +kernel)
theorem k_1011 : (Cond.code yX11_night cX11_night 3 (some .boolean)) ∈ TBg := tb_mem 931 (by decide +kernel) (by decide +kernel)
theorem k_1012 : (Cond.methodLink RL 101 yX11_night) ∈ TBg := tb_mem 928 (by decide +kernel) (by decide +kernel)
theorem k_1013 : (Cond.instanceMethod yX11_night) ∈ TBg := tb_mem 929 (by decide +kernel) (by decide +kernel)
theorem k_1014 : (Cond.selects RX11 yX11_night yX11_night) ∈ TBg := tb_mem 930 (by decide +kernel) (by decide +kernel)
theorem k_1015 : (Cond.code yX12_night cX12_night 3 (some .boolean)) ∈ TBg := tb_mem 1515 (by decide +kernel) (by decide +kernel)
theorem k_1016 : (Cond.methodLink RL 105 yX12_night) ∈ TBg := tb_mem 1512 (by decide +kernel) (by decide +kernel)
theorem k_1017 : (Cond.instanceMethod yX12_night) ∈ TBg := tb_mem 1513 (by decide +kernel) (by decide +kernel)
theorem k_1018 : (Cond.selects RX12 yX12_night yX12_night) ∈ TBg := tb_mem 1514 (by decide +kernel) (by decide +kernel)
theorem k_1019 : (Cond.code yX11_lock cX11_lock 3 (some .int)) ∈ TBg := tb_mem 935 (by decide +kernel) (by decide +kernel)
theorem k_1020 : (Cond.methodLink RL 106 yX11_lock) ∈ TBg := tb_mem 932 (by decide +kernel) (by decide +kernel)
theorem k_1021 : (Cond.instanceMethod yX11_lock) ∈ TBg := tb_mem 933 (by decide +kernel) (by decide +kernel)
theorem k_1022 : (Cond.selects RX11 yX11_lock yX11_lock) ∈ TBg := tb_mem 934 (by decide +kernel) (by decide +kernel)
theorem k_1023 : (Cond.code yX12_lock cX12_lock 3 (some .int)) ∈ TBg := tb_mem 1519 (by decide +kernel) (by decide +kernel)
theorem k_1024 : (Cond.methodLink RL 109 yX12_lock) ∈ TBg := tb_mem 1516 (by decide +kernel) (by decide +kernel)
theorem k_1025 : (Cond.instanceMethod yX12_lock) ∈ TBg := tb_mem 1517 (by decide +kernel) (by decide +kernel)
theorem k_1026 : (Cond.selects RX12 yX12_lock yX12_lock) ∈ TBg := tb_mem 1518 (by decide +kernel) (by decide +kernel)
theorem k_1027 : (Cond.code yX11_heard cX11_heard 3 (some .int)) ∈ TBg := tb_mem 940 (by decide +kernel) (by decide +kernel)
theorem k_1028 : (Cond.methodLink RL 110 yX11_heard) ∈ TBg := tb_mem 937 (by decide +kernel) (by decide +kernel)
theorem k_1029 : (Cond.instanceMethod yX11_heard) ∈ TBg := tb_mem 938 (by decide +kernel) (by decide +kernel)
theorem k_1030 : (Cond.selects RX11 yX11_heard yX11_heard) ∈ TBg := tb_mem 939 (by decide +kernel) (by decide +kernel)
theorem k_1031 : (Cond.code yX12_heard cX12_heard 3 (some .int)) ∈ TBg := tb_mem 1523 (by decide +kernel) (by decide +kernel)
theorem k_1032 : (Cond.methodLink RL 113 yX12_heard) ∈ TBg := tb_mem 1520 (by decide +kernel) (by decide +kernel)
theorem k_1033 : (Cond.instanceMethod yX12_heard) ∈ TBg := tb_mem 1521 (by decide +kernel) (by decide +kernel)
theorem k_1034 : (Cond.selects RX12 yX12_heard yX12_heard) ∈ TBg := tb_mem 1522 (by decide +kernel) (by decide +kernel)
theorem k_1035 : (Cond.code yX11_watch cX11_watch 4 (some .int)) ∈ TBg := tb_mem 944 (by decide +kernel) (by decide +kernel)
theorem k_1036 : (Cond.methodLink RL 114 yX11_watch) ∈ TBg := tb_mem 941 (by decide +kernel) (by decide +kernel)
theorem k_1037 : (Cond.instanceMethod yX11_watch) ∈ TBg := tb_mem 942 (by decide +kernel) (by decide +kernel)
theorem k_1038 : (Cond.selects RX11 yX11_watch yX11_watch) ∈ TBg := tb_mem 943 (by decide +kernel) (by decide +kernel)
theorem k_1039 : (Cond.code yX12_watch cX12_watch 4 (some .int)) ∈ TBg := tb_mem 1527 (by decide +kernel) (by decide +kernel)
theorem k_1040 : (Cond.methodLink RL 118 yX12_watch) ∈ TBg := tb_mem 1524 (by decide +kernel) (by decide +kernel)
theorem k_1041 : (Cond.instanceMethod yX12_watch) ∈ TBg := tb_mem 1525 (by decide +kernel) (by decide +kernel)
theorem k_1042 : (Cond.selects RX12 yX12_watch yX12_watch) ∈ TBg := tb_mem 1526 (by decide +kernel) (by decide +kernel)
theorem k_1043 : (Cond.code yX11_untell cX11_untell 2 (some .boolean)) ∈ TBg := tb_mem 952 (by decide +kernel) (by decide +kernel)
theorem k_1044 : (Cond.methodLink RL 119 yX11_untell) ∈ TBg := tb_mem 949 (by decide +kernel) (by decide +kernel)
theorem k_1045 : (Cond.instanceMethod yX11_untell) ∈ TBg := tb_mem 950 (by decide +kernel) (by decide +kernel)
theorem k_1046 : (Cond.selects RX11 yX11_untell yX11_untell) ∈ TBg := tb_mem 951 (by decide +kernel) (by decide +kernel)
theorem k_1047 : (Cond.code yX12_untell cX12_untell 2 (some .boolean)) ∈ TBg := tb_mem 1531 (by decide +kernel) (by decide +kernel)
theorem k_1048 : (Cond.methodLink RL 122 yX12_untell) ∈ TBg := tb_mem 1528 (by decide +kernel) (by decide +kernel)
theorem k_1049 : (Cond.instanceMethod yX12_untell) ∈ TBg := tb_mem 1529 (by decide +kernel) (by decide +kernel)
theorem k_1050 : (Cond.selects RX12 yX12_untell yX12_untell) ∈ TBg := tb_mem 1530 (by decide +kernel) (by decide +kernel)
theorem k_1051 : (Cond.code yX11_later cX11_later 2 (some .int)) ∈ TBg := tb_mem 960 (by decide +kernel) (by decide +kernel)
theorem k_1052 : (Cond.methodLink RL 123 yX11_later) ∈ TBg := tb_mem 957 (by decide +kernel) (by decide +kernel)
theorem k_1053 : (Cond.instanceMethod yX11_later) ∈ TBg := tb_mem 958 (by decide +kernel) (by decide +kernel)
theorem k_1054 : (Cond.selects RX11 yX11_later yX11_later) ∈ TBg := tb_mem 959 (by decide +kernel) (by decide +kernel)
theorem k_1055 : (Cond.code yX12_later cX12_later 2 (some .int)) ∈ TBg := tb_mem 1535 (by decide +kernel) (by decide +kernel)
theorem k_1056 : (Cond.methodLink RL 126 yX12_later) ∈ TBg := tb_mem 1532 (by decide +kernel) (by decide +kernel)
theorem k_1057 : (Cond.instanceMethod yX12_later) ∈ TBg := tb_mem 1533 (by decide +kernel) (by decide +kernel)
theorem k_1058 : (Cond.selects RX12 yX12_later yX12_later) ∈ TBg := tb_mem 1534 (by decide +kernel) (by decide +kernel)
theorem k_1059 : (Cond.code yX11_left cX11_left 2 (some .int)) ∈ TBg := tb_mem 965 (by decide +kernel) (by decide +kernel)
theorem k_1060 : (Cond.methodLink RL 127 yX11_left) ∈ TBg := tb_mem 962 (by decide +kernel) (by decide +kernel)
theorem k_1061 : (Cond.instanceMethod yX11_left) ∈ TBg := tb_mem 963 (by decide +kernel) (by decide +kernel)
theorem k_1062 : (Cond.selects RX11 yX11_left yX11_left) ∈ TBg := tb_mem 964 (by decide +kernel) (by decide +kernel)
theorem k_1063 : (Cond.methodLink RL 130 yX12_left) ∈ TBg := tb_mem 1537 (by decide +kernel) (by decide +kernel)
theorem k_1064 : (Cond.code yX11_next cX11_next 12 (some .int)) ∈ TBg := tb_mem 982 (by decide +kernel) (by decide +kernel)
theorem k_1065 : (Cond.methodLink RL 131 yX11_next) ∈ TBg := tb_mem 979 (by decide +kernel) (by decide +kernel)
theorem k_1066 : (Cond.instanceMethod yX11_next) ∈ TBg := tb_mem 980 (by decide +kernel) (by decide +kernel)
theorem k_1067 : (Cond.selects RX11 yX11_next yX11_next) ∈ TBg := tb_mem 981 (by decide +kernel) (by decide +kernel)
theorem k_1068 : (Cond.code yX12_next cX12_next 9 (some .int)) ∈ TBg := tb_mem 1544 (by decide +kernel) (by decide +kernel)
theorem k_1069 : (Cond.methodLink RL 134 yX12_next) ∈ TBg := tb_mem 1541 (by decide +kernel) (by decide +kernel)
theorem k_1070 : (Cond.instanceMethod yX12_next) ∈ TBg := tb_mem 1542 (by decide +kernel) (by decide +kernel)
theorem k_1071 : (Cond.selects RX12 yX12_next yX12_next) ∈ TBg := tb_mem 1543 (by decide +kernel) (by decide +kernel)
theorem k_1072 : (Cond.code yX11_image cX11_image 2 (some .int)) ∈ TBg := tb_mem 988 (by decide +kernel) (by decide +kernel)
theorem k_1073 : (Cond.methodLink RL 135 yX11_image) ∈ TBg := tb_mem 985 (by decide +kernel) (by decide +kernel)
theorem k_1074 : (Cond.instanceMethod yX11_image) ∈ TBg := tb_mem 986 (by decide +kernel) (by decide +kernel)
theorem k_1075 : (Cond.selects RX11 yX11_image yX11_image) ∈ TBg := tb_mem 987 (by decide +kernel) (by decide +kernel)
theorem k_1076 : (Cond.code yX12_image cX12_image 3 (some .int)) ∈ TBg := tb_mem 1549 (by decide +kernel) (by decide +kernel)
theorem k_1077 : (Cond.methodLink RL 138 yX12_image) ∈ TBg := tb_mem 1546 (by decide +kernel) (by decide +kernel)
theorem k_1078 : (Cond.instanceMethod yX12_image) ∈ TBg := tb_mem 1547 (by decide +kernel) (by decide +kernel)
theorem k_1079 : (Cond.selects RX12 yX12_image yX12_image) ∈ TBg := tb_mem 1548 (by decide +kernel) (by decide +kernel)
theorem k_1080 : (Cond.code yX11_back cX11_back 2 (some .int)) ∈ TBg := tb_mem 1002 (by decide +kernel) (by decide +kernel)
theorem k_1081 : (Cond.methodLink RL 139 yX11_back) ∈ TBg := tb_mem 999 (by decide +kernel) (by decide +kernel)
theorem k_1082 : (Cond.instanceMethod yX11_back) ∈ TBg := tb_mem 1000 (by decide +kernel) (by decide +kernel)
theorem k_1083 : (Cond.selects RX11 yX11_back yX11_back) ∈ TBg := tb_mem 1001 (by decide +kernel) (by decide +kernel)
theorem k_1084 : (Cond.code yX12_back cX12_back 3 (some .int)) ∈ TBg := tb_mem 1553 (by decide +kernel) (by decide +kernel)
theorem k_1085 : (Cond.methodLink RL 142 yX12_back) ∈ TBg := tb_mem 1550 (by decide +kernel) (by decide +kernel)
theorem k_1086 : (Cond.instanceMethod yX12_back) ∈ TBg := tb_mem 1551 (by decide +kernel) (by decide +kernel)
theorem k_1087 : (Cond.selects RX12 yX12_back yX12_back) ∈ TBg := tb_mem 1552 (by decide +kernel) (by decide +kernel)
theorem k_1088 : (Cond.code yX11_about cX11_about 2 (some .int)) ∈ TBg := tb_mem 1006 (by decide +kernel) (by decide +kernel)
theorem k_1089 : (Cond.methodLink RL 143 yX11_about) ∈ TBg := tb_mem 1003 (by decide +kernel) (by decide +kernel)
theorem k_1090 : (Cond.instanceMethod yX11_about) ∈ TBg := tb_mem 1004 (by decide +kernel) (by decide +kernel)
theorem k_1091 : (Cond.selects RX11 yX11_about yX11_about) ∈ TBg := tb_mem 1005 (by decide +kernel) (by decide +kernel)
theorem k_1092 : (Cond.code yX12_about cX12_about 2 (some .int)) ∈ TBg := tb_mem 1557 (by decide +kernel) (by decide +kernel)
theorem k_1093 : (Cond.methodLink RL 146 yX12_about) ∈ TBg := tb_mem 1554 (by decide +kernel) (by decide +kernel)
theorem k_1094 : (Cond.instanceMethod yX12_about) ∈ TBg := tb_mem 1555 (by decide +kernel) (by decide +kernel)
theorem k_1095 : (Cond.selects RX12 yX12_about yX12_about) ∈ TBg := tb_mem 1556 (by decide +kernel) (by decide +kernel)
theorem dL_law_172 : decode code 172 = .ok (.aload_n 1, 1) := by decide +kernel
theorem dL_law_173 : decode code 173 = .ok (.aload_n 0, 1) := by decide +kernel
theorem dL_law_174 : decode code 174 = .ok (.iload_n 3, 1) := by decide +kernel
theorem dL_law_175 : decode code 175 = .ok (.iconst 1, 1) := by decide +kernel
theorem dL_law_176 : decode code 176 = .ok (.iadd, 1) := by decide +kernel
theorem dL_law_177 : decode code 177 = .ok (.iaload, 1) := by decide +kernel
theorem dL_law_178 : decode code 178 = .ok (.aload_n 0, 1) := by decide +kernel
theorem dL_law_179 : decode code 179 = .ok (.iload_n 3, 1) := by decide +kernel
theorem dL_law_180 : decode code 180 = .ok (.iconst 2, 1) := by decide +kernel
theorem dL_law_181 : decode code 181 = .ok (.iadd, 1) := by decide +kernel
theorem dL_law_182 : decode code 182 = .ok (.iaload, 1) := by decide +kernel
theorem dL_law_183 : decode code 183 = .ok (.aload_n 0, 1) := by decide +kernel
theorem dL_law_184 : decode code 184 = .ok (.iload_n 3, 1) := by decide +kernel
theorem dL_law_185 : decode code 185 = .ok (.iconst 3, 1) := by decide +kernel
theorem dL_law_186 : decode code 186 = .ok (.iadd, 1) := by decide +kernel
theorem dL_law_187 : decode code 187 = .ok (.iaload, 1) := by decide +kernel
theorem dL_law_188 : decode code 188 = .ok (.aload_n 0, 1) := by decide +kernel
theorem dL_law_189 : decode code 189 = .ok (.iload_n 3, 1) := by decide +kernel
theorem dL_law_190 : decode code 190 = .ok (.iconst 4, 1) := by decide +kernel
theorem dL_law_191 : decode code 191 = .ok (.iadd, 1) := by decide +kernel
theorem dL_law_192 : decode code 192 = .ok (.iaload, 1) := by decide +kernel
theorem dL_law_193 : decode code 193 = .ok (.aload_n 0, 1) := by decide +kernel
theorem dL_law_194 : decode code 194 = .ok (.iload_n 3, 1) := by decide +kernel
theorem dL_law_195 : decode code 195 = .ok (.iconst 5, 1) := by decide +kernel
theorem dL_law_196 : decode code 196 = .ok (.iadd, 1) := by decide +kernel
theorem dL_law_197 : decode code 197 = .ok (.iaload, 1) := by decide +kernel
theorem dL_law_198 : decode code 198 = .ok (.invokevirtual 13, 3) := by decide +kernel
theorem dL_law_201 : decode code 201 = .ok (.pop, 1) := by decide +kernel
theorem dL_law_202 : decode code 202 = .ok (.aload_n 2, 1) := by decide +kernel
theorem dL_law_203 : decode code 203 = .ok (.aload_n 0, 1) := by decide +kernel
theorem dL_law_204 : decode code 204 = .ok (.iload_n 3, 1) := by decide +kernel
theorem dL_law_205 : decode code 205 = .ok (.iconst 1, 1) := by decide +kernel
theorem dL_law_206 : decode code 206 = .ok (.iadd, 1) := by decide +kernel
theorem dL_law_207 : decode code 207 = .ok (.iaload, 1) := by decide +kernel
theorem dL_law_208 : decode code 208 = .ok (.aload_n 0, 1) := by decide +kernel
theorem dL_law_209 : decode code 209 = .ok (.iload_n 3, 1) := by decide +kernel
theorem dL_law_210 : decode code 210 = .ok (.iconst 2, 1) := by decide +kernel
theorem dL_law_211 : decode code 211 = .ok (.iadd, 1) := by decide +kernel
theorem dL_law_212 : decode code 212 = .ok (.iaload, 1) := by decide +kernel
theorem dL_law_213 : decode code 213 = .ok (.aload_n 0, 1) := by decide +kernel
theorem dL_law_214 : decode code 214 = .ok (.iload_n 3, 1) := by decide +kernel
theorem dL_law_215 : decode code 215 = .ok (.iconst 3, 1) := by decide +kernel
theorem dL_law_216 : decode code 216 = .ok (.iadd, 1) := by decide +kernel
theorem dL_law_217 : decode code 217 = .ok (.iaload, 1) := by decide +kernel
theorem dL_law_218 : decode code 218 = .ok (.aload_n 0, 1) := by decide +kernel
theorem dL_law_219 : decode code 219 = .ok (.iload_n 3, 1) := by decide +kernel
theorem dL_law_220 : decode code 220 = .ok (.iconst 4, 1) := by decide +kernel
theorem dL_law_221 : decode code 221 = .ok (.iadd, 1) := by decide +kernel
theorem dL_law_222 : decode code 222 = .ok (.iaload, 1) := by decide +kernel
theorem dL_law_223 : decode code 223 = .ok (.aload_n 0, 1) := by decide +kernel
theorem dL_law_224 : decode code 224 = .ok (.iload_n 3, 1) := by decide +kernel
theorem dL_law_225 : decode code 225 = .ok (.iconst 5, 1) := by decide +kernel
theorem dL_law_226 : decode code 226 = .ok (.iadd, 1) := by decide +kernel
theorem dL_law_227 : decode code 227 = .ok (.iaload, 1) := by decide +kernel
theorem dL_law_228 : decode code 228 = .ok (.invokevirtual 17, 3) := by decide +kernel
theorem dL_law_231 : decode code 231 = .ok (.pop, 1) := by decide +kernel
theorem dL_law_232 : decode code 232 = .ok (.goto 979, 3) := by decide +kernel
theorem dL_law_235 : decode code 235 = .ok (.aload_n 1, 1) := by decide +kernel
theorem dL_law_236 : decode code 236 = .ok (.aload_n 0, 1) := by decide +kernel
theorem dL_law_237 : decode code 237 = .ok (.iload_n 3, 1) := by decide +kernel
theorem dL_law_238 : decode code 238 = .ok (.iconst 1, 1) := by decide +kernel
theorem dL_law_239 : decode code 239 = .ok (.iadd, 1) := by decide +kernel
theorem dL_law_240 : decode code 240 = .ok (.iaload, 1) := by decide +kernel
theorem dL_law_241 : decode code 241 = .ok (.invokevirtual 18, 3) := by decide +kernel
theorem dL_law_244 : decode code 244 = .ok (.pop, 1) := by decide +kernel
theorem dL_law_245 : decode code 245 = .ok (.aload_n 2, 1) := by decide +kernel
theorem dL_law_246 : decode code 246 = .ok (.aload_n 0, 1) := by decide +kernel
theorem dL_law_247 : decode code 247 = .ok (.iload_n 3, 1) := by decide +kernel
theorem dL_law_248 : decode code 248 = .ok (.iconst 1, 1) := by decide +kernel
theorem dL_law_249 : decode code 249 = .ok (.iadd, 1) := by decide +kernel
theorem dL_law_250 : decode code 250 = .ok (.iaload, 1) := by decide +kernel
theorem dL_law_251 : decode code 251 = .ok (.invokevirtual 22, 3) := by decide +kernel
theorem dL_law_254 : decode code 254 = .ok (.pop, 1) := by decide +kernel
theorem dL_law_255 : decode code 255 = .ok (.goto 956, 3) := by decide +kernel
theorem dL_law_258 : decode code 258 = .ok (.aload_n 1, 1) := by decide +kernel
theorem dL_law_259 : decode code 259 = .ok (.invokevirtual 23, 3) := by decide +kernel
theorem dL_law_262 : decode code 262 = .ok (.pop, 1) := by decide +kernel
theorem dL_law_263 : decode code 263 = .ok (.aload_n 2, 1) := by decide +kernel
theorem dL_law_264 : decode code 264 = .ok (.invokevirtual 27, 3) := by decide +kernel
theorem dL_law_267 : decode code 267 = .ok (.pop, 1) := by decide +kernel
theorem dL_law_268 : decode code 268 = .ok (.goto 943, 3) := by decide +kernel
theorem dL_law_271 : decode code 271 = .ok (.aload_n 1, 1) := by decide +kernel
theorem dL_law_272 : decode code 272 = .ok (.aload_n 0, 1) := by decide +kernel
theorem dL_law_273 : decode code 273 = .ok (.iload_n 3, 1) := by decide +kernel
theorem dL_law_274 : decode code 274 = .ok (.iconst 1, 1) := by decide +kernel
theorem dL_law_275 : decode code 275 = .ok (.iadd, 1) := by decide +kernel
theorem dL_law_276 : decode code 276 = .ok (.iaload, 1) := by decide +kernel
theorem dL_law_277 : decode code 277 = .ok (.invokevirtual 28, 3) := by decide +kernel
theorem dL_law_280 : decode code 280 = .ok (.pop, 1) := by decide +kernel
theorem dL_law_281 : decode code 281 = .ok (.aload_n 2, 1) := by decide +kernel
theorem dL_law_282 : decode code 282 = .ok (.aload_n 0, 1) := by decide +kernel
theorem dL_law_283 : decode code 283 = .ok (.iload_n 3, 1) := by decide +kernel
theorem dL_law_284 : decode code 284 = .ok (.iconst 1, 1) := by decide +kernel
theorem dL_law_285 : decode code 285 = .ok (.iadd, 1) := by decide +kernel
theorem dL_law_286 : decode code 286 = .ok (.iaload, 1) := by decide +kernel
theorem dL_law_287 : decode code 287 = .ok (.invokevirtual 31, 3) := by decide +kernel
theorem dL_law_290 : decode code 290 = .ok (.pop, 1) := by decide +kernel
theorem dL_law_291 : decode code 291 = .ok (.goto 920, 3) := by decide +kernel
theorem dL_law_294 : decode code 294 = .ok (.aload_n 1, 1) := by decide +kernel
theorem dL_law_295 : decode code 295 = .ok (.aload_n 0, 1) := by decide +kernel
theorem dL_law_296 : decode code 296 = .ok (.iload_n 3, 1) := by decide +kernel
theorem dL_law_297 : decode code 297 = .ok (.iconst 1, 1) := by decide +kernel
theorem dL_law_298 : decode code 298 = .ok (.iadd, 1) := by decide +kernel
theorem dL_law_299 : decode code 299 = .ok (.iaload, 1) := by decide +kernel
theorem dL_law_300 : decode code 300 = .ok (.invokevirtual 32, 3) := by decide +kernel
theorem dL_law_303 : decode code 303 = .ok (.pop, 1) := by decide +kernel
theorem dL_law_304 : decode code 304 = .ok (.aload_n 2, 1) := by decide +kernel
theorem dL_law_305 : decode code 305 = .ok (.aload_n 0, 1) := by decide +kernel
theorem dL_law_306 : decode code 306 = .ok (.iload_n 3, 1) := by decide +kernel
theorem dL_law_307 : decode code 307 = .ok (.iconst 1, 1) := by decide +kernel
theorem dL_law_308 : decode code 308 = .ok (.iadd, 1) := by decide +kernel
theorem dL_law_309 : decode code 309 = .ok (.iaload, 1) := by decide +kernel
theorem dL_law_310 : decode code 310 = .ok (.invokevirtual 35, 3) := by decide +kernel
theorem dL_law_313 : decode code 313 = .ok (.pop, 1) := by decide +kernel
theorem dL_law_314 : decode code 314 = .ok (.goto 897, 3) := by decide +kernel
theorem dL_law_317 : decode code 317 = .ok (.aload_n 1, 1) := by decide +kernel
theorem dL_law_318 : decode code 318 = .ok (.aload_n 0, 1) := by decide +kernel
theorem dL_law_319 : decode code 319 = .ok (.iload_n 3, 1) := by decide +kernel
theorem dL_law_320 : decode code 320 = .ok (.iconst 1, 1) := by decide +kernel
theorem dL_law_321 : decode code 321 = .ok (.iadd, 1) := by decide +kernel
theorem dL_law_322 : decode code 322 = .ok (.iaload, 1) := by decide +kernel
theorem dL_law_323 : decode code 323 = .ok (.aload_n 0, 1) := by decide +kernel
theorem dL_law_324 : decode code 324 = .ok (.iload_n 3, 1) := by decide +kernel
theorem dL_law_325 : decode code 325 = .ok (.iconst 2, 1) := by decide +kernel
theorem dL_law_326 : decode code 326 = .ok (.iadd, 1) := by decide +kernel
theorem dL_law_327 : decode code 327 = .ok (.iaload, 1) := by decide +kernel
theorem dL_law_328 : decode code 328 = .ok (.invokevirtual 36, 3) := by decide +kernel
theorem dL_law_331 : decode code 331 = .ok (.pop, 1) := by decide +kernel
theorem dL_law_332 : decode code 332 = .ok (.aload_n 2, 1) := by decide +kernel
theorem dL_law_333 : decode code 333 = .ok (.aload_n 0, 1) := by decide +kernel
theorem dL_law_334 : decode code 334 = .ok (.iload_n 3, 1) := by decide +kernel
theorem dL_law_335 : decode code 335 = .ok (.iconst 1, 1) := by decide +kernel
theorem dL_law_336 : decode code 336 = .ok (.iadd, 1) := by decide +kernel
theorem dL_law_337 : decode code 337 = .ok (.iaload, 1) := by decide +kernel
theorem dL_law_338 : decode code 338 = .ok (.aload_n 0, 1) := by decide +kernel
theorem dL_law_339 : decode code 339 = .ok (.iload_n 3, 1) := by decide +kernel
theorem dL_law_340 : decode code 340 = .ok (.iconst 2, 1) := by decide +kernel
theorem dL_law_341 : decode code 341 = .ok (.iadd, 1) := by decide +kernel
theorem dL_law_342 : decode code 342 = .ok (.iaload, 1) := by decide +kernel
theorem dL_law_343 : decode code 343 = .ok (.invokevirtual 40, 3) := by decide +kernel
theorem dL_law_346 : decode code 346 = .ok (.pop, 1) := by decide +kernel
theorem dL_law_347 : decode code 347 = .ok (.goto 864, 3) := by decide +kernel
theorem dL_law_350 : decode code 350 = .ok (.aload_n 1, 1) := by decide +kernel
theorem dL_law_351 : decode code 351 = .ok (.aload_n 0, 1) := by decide +kernel
theorem dL_law_352 : decode code 352 = .ok (.iload_n 3, 1) := by decide +kernel
theorem dL_law_353 : decode code 353 = .ok (.iconst 1, 1) := by decide +kernel
theorem dL_law_354 : decode code 354 = .ok (.iadd, 1) := by decide +kernel
theorem dL_law_355 : decode code 355 = .ok (.iaload, 1) := by decide +kernel
theorem dL_law_356 : decode code 356 = .ok (.aload_n 0, 1) := by decide +kernel
theorem dL_law_357 : decode code 357 = .ok (.iload_n 3, 1) := by decide +kernel
theorem dL_law_358 : decode code 358 = .ok (.iconst 2, 1) := by decide +kernel
theorem dL_law_359 : decode code 359 = .ok (.iadd, 1) := by decide +kernel
theorem dL_law_360 : decode code 360 = .ok (.iaload, 1) := by decide +kernel
theorem dL_law_361 : decode code 361 = .ok (.aload_n 0, 1) := by decide +kernel
theorem dL_law_362 : decode code 362 = .ok (.iload_n 3, 1) := by decide +kernel
theorem dL_law_363 : decode code 363 = .ok (.iconst 3, 1) := by decide +kernel
theorem dL_law_364 : decode code 364 = .ok (.iadd, 1) := by decide +kernel
theorem dL_law_365 : decode code 365 = .ok (.iaload, 1) := by decide +kernel
theorem dL_law_366 : decode code 366 = .ok (.invokevirtual 41, 3) := by decide +kernel
theorem dL_law_369 : decode code 369 = .ok (.pop, 1) := by decide +kernel
theorem dL_law_370 : decode code 370 = .ok (.aload_n 2, 1) := by decide +kernel
theorem dL_law_371 : decode code 371 = .ok (.aload_n 0, 1) := by decide +kernel
theorem dL_law_372 : decode code 372 = .ok (.iload_n 3, 1) := by decide +kernel
theorem dL_law_373 : decode code 373 = .ok (.iconst 1, 1) := by decide +kernel
theorem dL_law_374 : decode code 374 = .ok (.iadd, 1) := by decide +kernel
theorem dL_law_375 : decode code 375 = .ok (.iaload, 1) := by decide +kernel
theorem dL_law_376 : decode code 376 = .ok (.aload_n 0, 1) := by decide +kernel
theorem dL_law_377 : decode code 377 = .ok (.iload_n 3, 1) := by decide +kernel
theorem dL_law_378 : decode code 378 = .ok (.iconst 2, 1) := by decide +kernel
theorem dL_law_379 : decode code 379 = .ok (.iadd, 1) := by decide +kernel
theorem dL_law_380 : decode code 380 = .ok (.iaload, 1) := by decide +kernel
theorem dL_law_381 : decode code 381 = .ok (.aload_n 0, 1) := by decide +kernel
theorem dL_law_382 : decode code 382 = .ok (.iload_n 3, 1) := by decide +kernel
theorem dL_law_383 : decode code 383 = .ok (.iconst 3, 1) := by decide +kernel
theorem dL_law_384 : decode code 384 = .ok (.iadd, 1) := by decide +kernel
theorem dL_law_385 : decode code 385 = .ok (.iaload, 1) := by decide +kernel
theorem dL_law_386 : decode code 386 = .ok (.invokevirtual 45, 3) := by decide +kernel
theorem dL_law_389 : decode code 389 = .ok (.pop, 1) := by decide +kernel
theorem dL_law_390 : decode code 390 = .ok (.goto 821, 3) := by decide +kernel
theorem dL_law_393 : decode code 393 = .ok (.aload_n 1, 1) := by decide +kernel
theorem dL_law_394 : decode code 394 = .ok (.aload_n 0, 1) := by decide +kernel
theorem dL_law_395 : decode code 395 = .ok (.iload_n 3, 1) := by decide +kernel
theorem dL_law_396 : decode code 396 = .ok (.iconst 1, 1) := by decide +kernel
theorem dL_law_397 : decode code 397 = .ok (.iadd, 1) := by decide +kernel
theorem dL_law_398 : decode code 398 = .ok (.iaload, 1) := by decide +kernel
theorem dL_law_399 : decode code 399 = .ok (.aload_n 0, 1) := by decide +kernel
theorem dL_law_400 : decode code 400 = .ok (.iload_n 3, 1) := by decide +kernel
theorem dL_law_401 : decode code 401 = .ok (.iconst 2, 1) := by decide +kernel
theorem dL_law_402 : decode code 402 = .ok (.iadd, 1) := by decide +kernel
theorem dL_law_403 : decode code 403 = .ok (.iaload, 1) := by decide +kernel
theorem dL_law_404 : decode code 404 = .ok (.aload_n 0, 1) := by decide +kernel
theorem dL_law_405 : decode code 405 = .ok (.iload_n 3, 1) := by decide +kernel
theorem dL_law_406 : decode code 406 = .ok (.iconst 3, 1) := by decide +kernel
theorem dL_law_407 : decode code 407 = .ok (.iadd, 1) := by decide +kernel
theorem dL_law_408 : decode code 408 = .ok (.iaload, 1) := by decide +kernel
theorem dL_law_409 : decode code 409 = .ok (.invokevirtual 46, 3) := by decide +kernel
theorem dL_law_412 : decode code 412 = .ok (.pop, 1) := by decide +kernel
theorem dL_law_413 : decode code 413 = .ok (.aload_n 2, 1) := by decide +kernel
theorem dL_law_414 : decode code 414 = .ok (.aload_n 0, 1) := by decide +kernel
theorem dL_law_415 : decode code 415 = .ok (.iload_n 3, 1) := by decide +kernel
theorem dL_law_416 : decode code 416 = .ok (.iconst 1, 1) := by decide +kernel
theorem dL_law_417 : decode code 417 = .ok (.iadd, 1) := by decide +kernel
theorem dL_law_418 : decode code 418 = .ok (.iaload, 1) := by decide +kernel
theorem dL_law_419 : decode code 419 = .ok (.aload_n 0, 1) := by decide +kernel
theorem dL_law_420 : decode code 420 = .ok (.iload_n 3, 1) := by decide +kernel
theorem dL_law_421 : decode code 421 = .ok (.iconst 2, 1) := by decide +kernel
theorem dL_law_422 : decode code 422 = .ok (.iadd, 1) := by decide +kernel
theorem dL_law_423 : decode code 423 = .ok (.iaload, 1) := by decide +kernel
theorem dL_law_424 : decode code 424 = .ok (.aload_n 0, 1) := by decide +kernel
theorem dL_law_425 : decode code 425 = .ok (.iload_n 3, 1) := by decide +kernel
theorem dL_law_426 : decode code 426 = .ok (.iconst 3, 1) := by decide +kernel
theorem dL_law_427 : decode code 427 = .ok (.iadd, 1) := by decide +kernel
theorem dL_law_428 : decode code 428 = .ok (.iaload, 1) := by decide +kernel
theorem dL_law_429 : decode code 429 = .ok (.invokevirtual 49, 3) := by decide +kernel
theorem dL_law_432 : decode code 432 = .ok (.pop, 1) := by decide +kernel
theorem dL_law_433 : decode code 433 = .ok (.goto 778, 3) := by decide +kernel
theorem dL_law_436 : decode code 436 = .ok (.aload_n 1, 1) := by decide +kernel
theorem dL_law_437 : decode code 437 = .ok (.aload_n 0, 1) := by decide +kernel
theorem dL_law_438 : decode code 438 = .ok (.iload_n 3, 1) := by decide +kernel
theorem dL_law_439 : decode code 439 = .ok (.iconst 1, 1) := by decide +kernel
theorem dL_law_440 : decode code 440 = .ok (.iadd, 1) := by decide +kernel
theorem dL_law_441 : decode code 441 = .ok (.iaload, 1) := by decide +kernel
theorem dL_law_442 : decode code 442 = .ok (.aload_n 0, 1) := by decide +kernel
theorem dL_law_443 : decode code 443 = .ok (.iload_n 3, 1) := by decide +kernel
theorem dL_law_444 : decode code 444 = .ok (.iconst 2, 1) := by decide +kernel
theorem dL_law_445 : decode code 445 = .ok (.iadd, 1) := by decide +kernel
theorem dL_law_446 : decode code 446 = .ok (.iaload, 1) := by decide +kernel
theorem dL_law_447 : decode code 447 = .ok (.ifCond .eq 7, 3) := by decide +kernel
theorem dL_law_455 : decode code 455 = .ok (.invokevirtual 50, 3) := by decide +kernel
theorem dL_law_458 : decode code 458 = .ok (.pop, 1) := by decide +kernel
theorem dL_law_459 : decode code 459 = .ok (.aload_n 2, 1) := by decide +kernel
theorem dL_law_460 : decode code 460 = .ok (.aload_n 0, 1) := by decide +kernel
theorem dL_law_461 : decode code 461 = .ok (.iload_n 3, 1) := by decide +kernel
theorem dL_law_462 : decode code 462 = .ok (.iconst 1, 1) := by decide +kernel
theorem dL_law_463 : decode code 463 = .ok (.iadd, 1) := by decide +kernel
theorem dL_law_464 : decode code 464 = .ok (.iaload, 1) := by decide +kernel
theorem dL_law_465 : decode code 465 = .ok (.aload_n 0, 1) := by decide +kernel
theorem dL_law_466 : decode code 466 = .ok (.iload_n 3, 1) := by decide +kernel
theorem dL_law_467 : decode code 467 = .ok (.iconst 2, 1) := by decide +kernel
theorem dL_law_468 : decode code 468 = .ok (.iadd, 1) := by decide +kernel
theorem dL_law_469 : decode code 469 = .ok (.iaload, 1) := by decide +kernel
theorem dL_law_470 : decode code 470 = .ok (.ifCond .eq 7, 3) := by decide +kernel
theorem dL_law_478 : decode code 478 = .ok (.invokevirtual 54, 3) := by decide +kernel
theorem dL_law_481 : decode code 481 = .ok (.pop, 1) := by decide +kernel
theorem dL_law_482 : decode code 482 = .ok (.goto 729, 3) := by decide +kernel
theorem dL_law_477 : decode code 477 = .ok (.iconst 0, 1) := by decide +kernel
theorem dL_law_473 : decode code 473 = .ok (.iconst 1, 1) := by decide +kernel
theorem dL_law_474 : decode code 474 = .ok (.goto 4, 3) := by decide +kernel
theorem dL_law_454 : decode code 454 = .ok (.iconst 0, 1) := by decide +kernel
theorem dL_law_450 : decode code 450 = .ok (.iconst 1, 1) := by decide +kernel
theorem dL_law_451 : decode code 451 = .ok (.goto 4, 3) := by decide +kernel
theorem dL_law_485 : decode code 485 = .ok (.aload_n 1, 1) := by decide +kernel
theorem dL_law_486 : decode code 486 = .ok (.aload_n 0, 1) := by decide +kernel
theorem dL_law_487 : decode code 487 = .ok (.iload_n 3, 1) := by decide +kernel
theorem dL_law_488 : decode code 488 = .ok (.iconst 1, 1) := by decide +kernel
theorem dL_law_489 : decode code 489 = .ok (.iadd, 1) := by decide +kernel
theorem dL_law_490 : decode code 490 = .ok (.iaload, 1) := by decide +kernel
theorem dL_law_491 : decode code 491 = .ok (.aload_n 0, 1) := by decide +kernel
theorem dL_law_492 : decode code 492 = .ok (.iload_n 3, 1) := by decide +kernel
theorem dL_law_493 : decode code 493 = .ok (.iconst 2, 1) := by decide +kernel
theorem dL_law_494 : decode code 494 = .ok (.iadd, 1) := by decide +kernel
theorem dL_law_495 : decode code 495 = .ok (.iaload, 1) := by decide +kernel
theorem dL_law_496 : decode code 496 = .ok (.aload_n 0, 1) := by decide +kernel
theorem dL_law_497 : decode code 497 = .ok (.iload_n 3, 1) := by decide +kernel
theorem dL_law_498 : decode code 498 = .ok (.iconst 3, 1) := by decide +kernel
theorem dL_law_499 : decode code 499 = .ok (.iadd, 1) := by decide +kernel
theorem dL_law_500 : decode code 500 = .ok (.iaload, 1) := by decide +kernel
theorem dL_law_501 : decode code 501 = .ok (.ifCond .eq 7, 3) := by decide +kernel
theorem dL_law_509 : decode code 509 = .ok (.invokevirtual 55, 3) := by decide +kernel
theorem dL_law_512 : decode code 512 = .ok (.pop, 1) := by decide +kernel
theorem dL_law_513 : decode code 513 = .ok (.aload_n 2, 1) := by decide +kernel
theorem dL_law_514 : decode code 514 = .ok (.aload_n 0, 1) := by decide +kernel
theorem dL_law_515 : decode code 515 = .ok (.iload_n 3, 1) := by decide +kernel
theorem dL_law_516 : decode code 516 = .ok (.iconst 1, 1) := by decide +kernel
theorem dL_law_517 : decode code 517 = .ok (.iadd, 1) := by decide +kernel
theorem dL_law_518 : decode code 518 = .ok (.iaload, 1) := by decide +kernel
theorem dL_law_519 : decode code 519 = .ok (.aload_n 0, 1) := by decide +kernel
theorem dL_law_520 : decode code 520 = .ok (.iload_n 3, 1) := by decide +kernel
theorem dL_law_521 : decode code 521 = .ok (.iconst 2, 1) := by decide +kernel
theorem dL_law_522 : decode code 522 = .ok (.iadd, 1) := by decide +kernel
theorem dL_law_523 : decode code 523 = .ok (.iaload, 1) := by decide +kernel
theorem dL_law_524 : decode code 524 = .ok (.aload_n 0, 1) := by decide +kernel
theorem dL_law_525 : decode code 525 = .ok (.iload_n 3, 1) := by decide +kernel
theorem dL_law_526 : decode code 526 = .ok (.iconst 3, 1) := by decide +kernel
theorem dL_law_527 : decode code 527 = .ok (.iadd, 1) := by decide +kernel
theorem dL_law_528 : decode code 528 = .ok (.iaload, 1) := by decide +kernel
theorem dL_law_529 : decode code 529 = .ok (.ifCond .eq 7, 3) := by decide +kernel
theorem dL_law_537 : decode code 537 = .ok (.invokevirtual 59, 3) := by decide +kernel
theorem dL_law_540 : decode code 540 = .ok (.pop, 1) := by decide +kernel
theorem dL_law_541 : decode code 541 = .ok (.goto 670, 3) := by decide +kernel
theorem dL_law_536 : decode code 536 = .ok (.iconst 0, 1) := by decide +kernel
theorem dL_law_532 : decode code 532 = .ok (.iconst 1, 1) := by decide +kernel
theorem dL_law_533 : decode code 533 = .ok (.goto 4, 3) := by decide +kernel
theorem dL_law_508 : decode code 508 = .ok (.iconst 0, 1) := by decide +kernel
theorem dL_law_504 : decode code 504 = .ok (.iconst 1, 1) := by decide +kernel
theorem dL_law_505 : decode code 505 = .ok (.goto 4, 3) := by decide +kernel
theorem dL_law_544 : decode code 544 = .ok (.aload_n 1, 1) := by decide +kernel
theorem dL_law_545 : decode code 545 = .ok (.aload_n 0, 1) := by decide +kernel
theorem dL_law_546 : decode code 546 = .ok (.iload_n 3, 1) := by decide +kernel
theorem dL_law_547 : decode code 547 = .ok (.iconst 1, 1) := by decide +kernel
theorem dL_law_548 : decode code 548 = .ok (.iadd, 1) := by decide +kernel
theorem dL_law_549 : decode code 549 = .ok (.iaload, 1) := by decide +kernel
theorem dL_law_550 : decode code 550 = .ok (.invokevirtual 60, 3) := by decide +kernel
theorem dL_law_553 : decode code 553 = .ok (.pop, 1) := by decide +kernel
theorem dL_law_554 : decode code 554 = .ok (.aload_n 2, 1) := by decide +kernel
theorem dL_law_555 : decode code 555 = .ok (.aload_n 0, 1) := by decide +kernel
theorem dL_law_556 : decode code 556 = .ok (.iload_n 3, 1) := by decide +kernel
theorem dL_law_557 : decode code 557 = .ok (.iconst 1, 1) := by decide +kernel
theorem dL_law_558 : decode code 558 = .ok (.iadd, 1) := by decide +kernel
theorem dL_law_559 : decode code 559 = .ok (.iaload, 1) := by decide +kernel
theorem dL_law_560 : decode code 560 = .ok (.invokevirtual 63, 3) := by decide +kernel
theorem dL_law_563 : decode code 563 = .ok (.pop, 1) := by decide +kernel
theorem dL_law_564 : decode code 564 = .ok (.goto 647, 3) := by decide +kernel
theorem dL_law_567 : decode code 567 = .ok (.aload_n 1, 1) := by decide +kernel
theorem dL_law_568 : decode code 568 = .ok (.aload_n 0, 1) := by decide +kernel
theorem dL_law_569 : decode code 569 = .ok (.iload_n 3, 1) := by decide +kernel
theorem dL_law_570 : decode code 570 = .ok (.iconst 1, 1) := by decide +kernel
theorem dL_law_571 : decode code 571 = .ok (.iadd, 1) := by decide +kernel
theorem dL_law_572 : decode code 572 = .ok (.iaload, 1) := by decide +kernel
theorem dL_law_573 : decode code 573 = .ok (.aload_n 0, 1) := by decide +kernel
theorem dL_law_574 : decode code 574 = .ok (.iload_n 3, 1) := by decide +kernel
theorem dL_law_575 : decode code 575 = .ok (.iconst 2, 1) := by decide +kernel
theorem dL_law_576 : decode code 576 = .ok (.iadd, 1) := by decide +kernel
theorem dL_law_577 : decode code 577 = .ok (.iaload, 1) := by decide +kernel
theorem dL_law_578 : decode code 578 = .ok (.invokevirtual 64, 3) := by decide +kernel
theorem dL_law_581 : decode code 581 = .ok (.pop, 1) := by decide +kernel
theorem dL_law_582 : decode code 582 = .ok (.aload_n 2, 1) := by decide +kernel
theorem dL_law_583 : decode code 583 = .ok (.aload_n 0, 1) := by decide +kernel
theorem dL_law_584 : decode code 584 = .ok (.iload_n 3, 1) := by decide +kernel
theorem dL_law_585 : decode code 585 = .ok (.iconst 1, 1) := by decide +kernel
theorem dL_law_586 : decode code 586 = .ok (.iadd, 1) := by decide +kernel
theorem dL_law_587 : decode code 587 = .ok (.iaload, 1) := by decide +kernel
theorem dL_law_588 : decode code 588 = .ok (.aload_n 0, 1) := by decide +kernel
theorem dL_law_589 : decode code 589 = .ok (.iload_n 3, 1) := by decide +kernel
theorem dL_law_590 : decode code 590 = .ok (.iconst 2, 1) := by decide +kernel
theorem dL_law_591 : decode code 591 = .ok (.iadd, 1) := by decide +kernel
theorem dL_law_592 : decode code 592 = .ok (.iaload, 1) := by decide +kernel
theorem dL_law_593 : decode code 593 = .ok (.invokevirtual 67, 3) := by decide +kernel
theorem dL_law_596 : decode code 596 = .ok (.pop, 1) := by decide +kernel
theorem dL_law_597 : decode code 597 = .ok (.goto 614, 3) := by decide +kernel
theorem dL_law_600 : decode code 600 = .ok (.aload_n 1, 1) := by decide +kernel
theorem dL_law_601 : decode code 601 = .ok (.aload_n 0, 1) := by decide +kernel
theorem dL_law_602 : decode code 602 = .ok (.iload_n 3, 1) := by decide +kernel
theorem dL_law_603 : decode code 603 = .ok (.iconst 1, 1) := by decide +kernel
theorem dL_law_604 : decode code 604 = .ok (.iadd, 1) := by decide +kernel
theorem dL_law_605 : decode code 605 = .ok (.iaload, 1) := by decide +kernel
theorem dL_law_606 : decode code 606 = .ok (.aload_n 0, 1) := by decide +kernel
theorem dL_law_607 : decode code 607 = .ok (.iload_n 3, 1) := by decide +kernel
theorem dL_law_608 : decode code 608 = .ok (.iconst 2, 1) := by decide +kernel
theorem dL_law_609 : decode code 609 = .ok (.iadd, 1) := by decide +kernel
theorem dL_law_610 : decode code 610 = .ok (.iaload, 1) := by decide +kernel
theorem dL_law_611 : decode code 611 = .ok (.invokevirtual 68, 3) := by decide +kernel
theorem dL_law_614 : decode code 614 = .ok (.pop, 1) := by decide +kernel
theorem dL_law_615 : decode code 615 = .ok (.aload_n 2, 1) := by decide +kernel
theorem dL_law_616 : decode code 616 = .ok (.aload_n 0, 1) := by decide +kernel
theorem dL_law_617 : decode code 617 = .ok (.iload_n 3, 1) := by decide +kernel
theorem dL_law_618 : decode code 618 = .ok (.iconst 1, 1) := by decide +kernel
theorem dL_law_619 : decode code 619 = .ok (.iadd, 1) := by decide +kernel
theorem dL_law_620 : decode code 620 = .ok (.iaload, 1) := by decide +kernel
theorem dL_law_621 : decode code 621 = .ok (.aload_n 0, 1) := by decide +kernel
theorem dL_law_622 : decode code 622 = .ok (.iload_n 3, 1) := by decide +kernel
theorem dL_law_623 : decode code 623 = .ok (.iconst 2, 1) := by decide +kernel
theorem dL_law_624 : decode code 624 = .ok (.iadd, 1) := by decide +kernel
theorem dL_law_625 : decode code 625 = .ok (.iaload, 1) := by decide +kernel
theorem dL_law_626 : decode code 626 = .ok (.invokevirtual 71, 3) := by decide +kernel
theorem dL_law_629 : decode code 629 = .ok (.pop, 1) := by decide +kernel
theorem dL_law_630 : decode code 630 = .ok (.goto 581, 3) := by decide +kernel
theorem dL_law_633 : decode code 633 = .ok (.aload_n 1, 1) := by decide +kernel
theorem dL_law_634 : decode code 634 = .ok (.aload_n 0, 1) := by decide +kernel
theorem dL_law_635 : decode code 635 = .ok (.iload_n 3, 1) := by decide +kernel
theorem dL_law_636 : decode code 636 = .ok (.iconst 1, 1) := by decide +kernel
theorem dL_law_637 : decode code 637 = .ok (.iadd, 1) := by decide +kernel
theorem dL_law_638 : decode code 638 = .ok (.iaload, 1) := by decide +kernel
theorem dL_law_639 : decode code 639 = .ok (.aload_n 0, 1) := by decide +kernel
theorem dL_law_640 : decode code 640 = .ok (.iload_n 3, 1) := by decide +kernel
theorem dL_law_641 : decode code 641 = .ok (.iconst 2, 1) := by decide +kernel
theorem dL_law_642 : decode code 642 = .ok (.iadd, 1) := by decide +kernel
theorem dL_law_643 : decode code 643 = .ok (.iaload, 1) := by decide +kernel
theorem dL_law_644 : decode code 644 = .ok (.invokevirtual 72, 3) := by decide +kernel
theorem dL_law_647 : decode code 647 = .ok (.pop, 1) := by decide +kernel
theorem dL_law_648 : decode code 648 = .ok (.aload_n 2, 1) := by decide +kernel
theorem dL_law_649 : decode code 649 = .ok (.aload_n 0, 1) := by decide +kernel
theorem dL_law_650 : decode code 650 = .ok (.iload_n 3, 1) := by decide +kernel
theorem dL_law_651 : decode code 651 = .ok (.iconst 1, 1) := by decide +kernel
theorem dL_law_652 : decode code 652 = .ok (.iadd, 1) := by decide +kernel
theorem dL_law_653 : decode code 653 = .ok (.iaload, 1) := by decide +kernel
theorem dL_law_654 : decode code 654 = .ok (.aload_n 0, 1) := by decide +kernel
theorem dL_law_655 : decode code 655 = .ok (.iload_n 3, 1) := by decide +kernel
theorem dL_law_656 : decode code 656 = .ok (.iconst 2, 1) := by decide +kernel
theorem dL_law_657 : decode code 657 = .ok (.iadd, 1) := by decide +kernel
theorem dL_law_658 : decode code 658 = .ok (.iaload, 1) := by decide +kernel
theorem dL_law_659 : decode code 659 = .ok (.invokevirtual 75, 3) := by decide +kernel
theorem dL_law_662 : decode code 662 = .ok (.pop, 1) := by decide +kernel
theorem dL_law_663 : decode code 663 = .ok (.goto 548, 3) := by decide +kernel
theorem dL_law_666 : decode code 666 = .ok (.aload_n 1, 1) := by decide +kernel
theorem dL_law_667 : decode code 667 = .ok (.aload_n 0, 1) := by decide +kernel
theorem dL_law_668 : decode code 668 = .ok (.iload_n 3, 1) := by decide +kernel
theorem dL_law_669 : decode code 669 = .ok (.iconst 1, 1) := by decide +kernel
theorem dL_law_670 : decode code 670 = .ok (.iadd, 1) := by decide +kernel
theorem dL_law_671 : decode code 671 = .ok (.iaload, 1) := by decide +kernel
theorem dL_law_672 : decode code 672 = .ok (.aload_n 0, 1) := by decide +kernel
theorem dL_law_673 : decode code 673 = .ok (.iload_n 3, 1) := by decide +kernel
theorem dL_law_674 : decode code 674 = .ok (.iconst 2, 1) := by decide +kernel
theorem dL_law_675 : decode code 675 = .ok (.iadd, 1) := by decide +kernel
theorem dL_law_676 : decode code 676 = .ok (.iaload, 1) := by decide +kernel
theorem dL_law_677 : decode code 677 = .ok (.aload_n 0, 1) := by decide +kernel
theorem dL_law_678 : decode code 678 = .ok (.iload_n 3, 1) := by decide +kernel
theorem dL_law_679 : decode code 679 = .ok (.iconst 3, 1) := by decide +kernel
theorem dL_law_680 : decode code 680 = .ok (.iadd, 1) := by decide +kernel
theorem dL_law_681 : decode code 681 = .ok (.iaload, 1) := by decide +kernel
theorem dL_law_682 : decode code 682 = .ok (.invokevirtual 76, 3) := by decide +kernel
theorem dL_law_685 : decode code 685 = .ok (.pop, 1) := by decide +kernel
theorem dL_law_686 : decode code 686 = .ok (.aload_n 2, 1) := by decide +kernel
theorem dL_law_687 : decode code 687 = .ok (.aload_n 0, 1) := by decide +kernel
theorem dL_law_688 : decode code 688 = .ok (.iload_n 3, 1) := by decide +kernel
theorem dL_law_689 : decode code 689 = .ok (.iconst 1, 1) := by decide +kernel
theorem dL_law_690 : decode code 690 = .ok (.iadd, 1) := by decide +kernel
theorem dL_law_691 : decode code 691 = .ok (.iaload, 1) := by decide +kernel
theorem dL_law_692 : decode code 692 = .ok (.aload_n 0, 1) := by decide +kernel
theorem dL_law_693 : decode code 693 = .ok (.iload_n 3, 1) := by decide +kernel
theorem dL_law_694 : decode code 694 = .ok (.iconst 2, 1) := by decide +kernel
theorem dL_law_695 : decode code 695 = .ok (.iadd, 1) := by decide +kernel
theorem dL_law_696 : decode code 696 = .ok (.iaload, 1) := by decide +kernel
theorem dL_law_697 : decode code 697 = .ok (.aload_n 0, 1) := by decide +kernel
theorem dL_law_698 : decode code 698 = .ok (.iload_n 3, 1) := by decide +kernel
theorem dL_law_699 : decode code 699 = .ok (.iconst 3, 1) := by decide +kernel
theorem dL_law_700 : decode code 700 = .ok (.iadd, 1) := by decide +kernel
theorem dL_law_701 : decode code 701 = .ok (.iaload, 1) := by decide +kernel
theorem dL_law_702 : decode code 702 = .ok (.invokevirtual 79, 3) := by decide +kernel
theorem dL_law_705 : decode code 705 = .ok (.pop, 1) := by decide +kernel
theorem dL_law_706 : decode code 706 = .ok (.goto 505, 3) := by decide +kernel
theorem dL_law_709 : decode code 709 = .ok (.aload_n 1, 1) := by decide +kernel
theorem dL_law_710 : decode code 710 = .ok (.aload_n 0, 1) := by decide +kernel
theorem dL_law_711 : decode code 711 = .ok (.iload_n 3, 1) := by decide +kernel
theorem dL_law_712 : decode code 712 = .ok (.iconst 1, 1) := by decide +kernel
theorem dL_law_713 : decode code 713 = .ok (.iadd, 1) := by decide +kernel
theorem dL_law_714 : decode code 714 = .ok (.iaload, 1) := by decide +kernel
theorem dL_law_715 : decode code 715 = .ok (.aload_n 0, 1) := by decide +kernel
theorem dL_law_716 : decode code 716 = .ok (.iload_n 3, 1) := by decide +kernel
theorem dL_law_717 : decode code 717 = .ok (.iconst 2, 1) := by decide +kernel
theorem dL_law_718 : decode code 718 = .ok (.iadd, 1) := by decide +kernel
theorem dL_law_719 : decode code 719 = .ok (.iaload, 1) := by decide +kernel
theorem dL_law_720 : decode code 720 = .ok (.ifCond .eq 7, 3) := by decide +kernel
theorem dL_law_728 : decode code 728 = .ok (.invokevirtual 80, 3) := by decide +kernel
theorem dL_law_731 : decode code 731 = .ok (.pop, 1) := by decide +kernel
theorem dL_law_732 : decode code 732 = .ok (.aload_n 2, 1) := by decide +kernel
theorem dL_law_733 : decode code 733 = .ok (.aload_n 0, 1) := by decide +kernel
theorem dL_law_734 : decode code 734 = .ok (.iload_n 3, 1) := by decide +kernel
theorem dL_law_735 : decode code 735 = .ok (.iconst 1, 1) := by decide +kernel
theorem dL_law_736 : decode code 736 = .ok (.iadd, 1) := by decide +kernel
theorem dL_law_737 : decode code 737 = .ok (.iaload, 1) := by decide +kernel
theorem dL_law_738 : decode code 738 = .ok (.aload_n 0, 1) := by decide +kernel
theorem dL_law_739 : decode code 739 = .ok (.iload_n 3, 1) := by decide +kernel
theorem dL_law_740 : decode code 740 = .ok (.iconst 2, 1) := by decide +kernel
theorem dL_law_741 : decode code 741 = .ok (.iadd, 1) := by decide +kernel
theorem dL_law_742 : decode code 742 = .ok (.iaload, 1) := by decide +kernel
theorem dL_law_743 : decode code 743 = .ok (.ifCond .eq 7, 3) := by decide +kernel
theorem dL_law_751 : decode code 751 = .ok (.invokevirtual 83, 3) := by decide +kernel
theorem dL_law_754 : decode code 754 = .ok (.pop, 1) := by decide +kernel
theorem dL_law_755 : decode code 755 = .ok (.goto 456, 3) := by decide +kernel
theorem dL_law_750 : decode code 750 = .ok (.iconst 0, 1) := by decide +kernel
theorem dL_law_746 : decode code 746 = .ok (.iconst 1, 1) := by decide +kernel
theorem dL_law_747 : decode code 747 = .ok (.goto 4, 3) := by decide +kernel
theorem dL_law_727 : decode code 727 = .ok (.iconst 0, 1) := by decide +kernel
theorem dL_law_723 : decode code 723 = .ok (.iconst 1, 1) := by decide +kernel
theorem dL_law_724 : decode code 724 = .ok (.goto 4, 3) := by decide +kernel
theorem dL_law_758 : decode code 758 = .ok (.aload_n 1, 1) := by decide +kernel
theorem dL_law_759 : decode code 759 = .ok (.aload_n 0, 1) := by decide +kernel
theorem dL_law_760 : decode code 760 = .ok (.iload_n 3, 1) := by decide +kernel
theorem dL_law_761 : decode code 761 = .ok (.iconst 1, 1) := by decide +kernel
theorem dL_law_762 : decode code 762 = .ok (.iadd, 1) := by decide +kernel
theorem dL_law_763 : decode code 763 = .ok (.iaload, 1) := by decide +kernel
theorem dL_law_764 : decode code 764 = .ok (.aload_n 0, 1) := by decide +kernel
theorem dL_law_765 : decode code 765 = .ok (.iload_n 3, 1) := by decide +kernel
theorem dL_law_766 : decode code 766 = .ok (.iconst 2, 1) := by decide +kernel
theorem dL_law_767 : decode code 767 = .ok (.iadd, 1) := by decide +kernel
theorem dL_law_768 : decode code 768 = .ok (.iaload, 1) := by decide +kernel
theorem dL_law_769 : decode code 769 = .ok (.invokevirtual 84, 3) := by decide +kernel
theorem dL_law_772 : decode code 772 = .ok (.pop, 1) := by decide +kernel
theorem dL_law_773 : decode code 773 = .ok (.aload_n 2, 1) := by decide +kernel
theorem dL_law_774 : decode code 774 = .ok (.aload_n 0, 1) := by decide +kernel
theorem dL_law_775 : decode code 775 = .ok (.iload_n 3, 1) := by decide +kernel
theorem dL_law_776 : decode code 776 = .ok (.iconst 1, 1) := by decide +kernel
theorem dL_law_777 : decode code 777 = .ok (.iadd, 1) := by decide +kernel
theorem dL_law_778 : decode code 778 = .ok (.iaload, 1) := by decide +kernel
theorem dL_law_779 : decode code 779 = .ok (.aload_n 0, 1) := by decide +kernel
theorem dL_law_780 : decode code 780 = .ok (.iload_n 3, 1) := by decide +kernel
theorem dL_law_781 : decode code 781 = .ok (.iconst 2, 1) := by decide +kernel
theorem dL_law_782 : decode code 782 = .ok (.iadd, 1) := by decide +kernel
theorem dL_law_783 : decode code 783 = .ok (.iaload, 1) := by decide +kernel
theorem dL_law_784 : decode code 784 = .ok (.invokevirtual 87, 3) := by decide +kernel
theorem dL_law_787 : decode code 787 = .ok (.pop, 1) := by decide +kernel
theorem dL_law_788 : decode code 788 = .ok (.goto 423, 3) := by decide +kernel
theorem dL_law_791 : decode code 791 = .ok (.aload_n 1, 1) := by decide +kernel
theorem dL_law_792 : decode code 792 = .ok (.aload_n 0, 1) := by decide +kernel
theorem dL_law_793 : decode code 793 = .ok (.iload_n 3, 1) := by decide +kernel
theorem dL_law_794 : decode code 794 = .ok (.iconst 1, 1) := by decide +kernel
theorem dL_law_795 : decode code 795 = .ok (.iadd, 1) := by decide +kernel
theorem dL_law_796 : decode code 796 = .ok (.iaload, 1) := by decide +kernel
theorem dL_law_797 : decode code 797 = .ok (.aload_n 0, 1) := by decide +kernel
theorem dL_law_798 : decode code 798 = .ok (.iload_n 3, 1) := by decide +kernel
theorem dL_law_799 : decode code 799 = .ok (.iconst 2, 1) := by decide +kernel
theorem dL_law_800 : decode code 800 = .ok (.iadd, 1) := by decide +kernel
theorem dL_law_801 : decode code 801 = .ok (.iaload, 1) := by decide +kernel
theorem dL_law_802 : decode code 802 = .ok (.invokevirtual 88, 3) := by decide +kernel
theorem dL_law_805 : decode code 805 = .ok (.pop, 1) := by decide +kernel
theorem dL_law_806 : decode code 806 = .ok (.aload_n 2, 1) := by decide +kernel
theorem dL_law_807 : decode code 807 = .ok (.aload_n 0, 1) := by decide +kernel
theorem dL_law_808 : decode code 808 = .ok (.iload_n 3, 1) := by decide +kernel
theorem dL_law_809 : decode code 809 = .ok (.iconst 1, 1) := by decide +kernel
theorem dL_law_810 : decode code 810 = .ok (.iadd, 1) := by decide +kernel
theorem dL_law_811 : decode code 811 = .ok (.iaload, 1) := by decide +kernel
theorem dL_law_812 : decode code 812 = .ok (.aload_n 0, 1) := by decide +kernel
theorem dL_law_813 : decode code 813 = .ok (.iload_n 3, 1) := by decide +kernel
theorem dL_law_814 : decode code 814 = .ok (.iconst 2, 1) := by decide +kernel
theorem dL_law_815 : decode code 815 = .ok (.iadd, 1) := by decide +kernel
theorem dL_law_816 : decode code 816 = .ok (.iaload, 1) := by decide +kernel
theorem dL_law_817 : decode code 817 = .ok (.invokevirtual 91, 3) := by decide +kernel
theorem dL_law_820 : decode code 820 = .ok (.pop, 1) := by decide +kernel
theorem dL_law_821 : decode code 821 = .ok (.goto 390, 3) := by decide +kernel
theorem dL_law_824 : decode code 824 = .ok (.aload_n 1, 1) := by decide +kernel
theorem dL_law_825 : decode code 825 = .ok (.invokevirtual 92, 3) := by decide +kernel
theorem dL_law_828 : decode code 828 = .ok (.pop, 1) := by decide +kernel
theorem dL_law_829 : decode code 829 = .ok (.aload_n 2, 1) := by decide +kernel
theorem dL_law_830 : decode code 830 = .ok (.invokevirtual 95, 3) := by decide +kernel
theorem dL_law_833 : decode code 833 = .ok (.pop, 1) := by decide +kernel
theorem dL_law_834 : decode code 834 = .ok (.goto 377, 3) := by decide +kernel
theorem dL_law_837 : decode code 837 = .ok (.aload_n 1, 1) := by decide +kernel
theorem dL_law_838 : decode code 838 = .ok (.aload_n 0, 1) := by decide +kernel
theorem dL_law_839 : decode code 839 = .ok (.iload_n 3, 1) := by decide +kernel
theorem dL_law_840 : decode code 840 = .ok (.iconst 1, 1) := by decide +kernel
theorem dL_law_841 : decode code 841 = .ok (.iadd, 1) := by decide +kernel
theorem dL_law_842 : decode code 842 = .ok (.iaload, 1) := by decide +kernel
theorem dL_law_843 : decode code 843 = .ok (.invokevirtual 96, 3) := by decide +kernel
theorem dL_law_846 : decode code 846 = .ok (.pop, 1) := by decide +kernel
theorem dL_law_847 : decode code 847 = .ok (.aload_n 2, 1) := by decide +kernel
theorem dL_law_848 : decode code 848 = .ok (.aload_n 0, 1) := by decide +kernel
theorem dL_law_849 : decode code 849 = .ok (.iload_n 3, 1) := by decide +kernel
theorem dL_law_850 : decode code 850 = .ok (.iconst 1, 1) := by decide +kernel
theorem dL_law_851 : decode code 851 = .ok (.iadd, 1) := by decide +kernel
theorem dL_law_852 : decode code 852 = .ok (.iaload, 1) := by decide +kernel
theorem dL_law_853 : decode code 853 = .ok (.invokevirtual 100, 3) := by decide +kernel
theorem dL_law_856 : decode code 856 = .ok (.pop, 1) := by decide +kernel
theorem dL_law_857 : decode code 857 = .ok (.goto 354, 3) := by decide +kernel
theorem dL_law_860 : decode code 860 = .ok (.aload_n 1, 1) := by decide +kernel
theorem dL_law_861 : decode code 861 = .ok (.aload_n 0, 1) := by decide +kernel
theorem dL_law_862 : decode code 862 = .ok (.iload_n 3, 1) := by decide +kernel
theorem dL_law_863 : decode code 863 = .ok (.iconst 1, 1) := by decide +kernel
theorem dL_law_864 : decode code 864 = .ok (.iadd, 1) := by decide +kernel
theorem dL_law_865 : decode code 865 = .ok (.iaload, 1) := by decide +kernel
theorem dL_law_866 : decode code 866 = .ok (.ifCond .eq 7, 3) := by decide +kernel
theorem dL_law_874 : decode code 874 = .ok (.invokevirtual 101, 3) := by decide +kernel
theorem dL_law_877 : decode code 877 = .ok (.pop, 1) := by decide +kernel
theorem dL_law_878 : decode code 878 = .ok (.aload_n 2, 1) := by decide +kernel
theorem dL_law_879 : decode code 879 = .ok (.aload_n 0, 1) := by decide +kernel
theorem dL_law_880 : decode code 880 = .ok (.iload_n 3, 1) := by decide +kernel
theorem dL_law_881 : decode code 881 = .ok (.iconst 1, 1) := by decide +kernel
theorem dL_law_882 : decode code 882 = .ok (.iadd, 1) := by decide +kernel
theorem dL_law_883 : decode code 883 = .ok (.iaload, 1) := by decide +kernel
theorem dL_law_884 : decode code 884 = .ok (.ifCond .eq 7, 3) := by decide +kernel
theorem dL_law_892 : decode code 892 = .ok (.invokevirtual 105, 3) := by decide +kernel
theorem dL_law_895 : decode code 895 = .ok (.pop, 1) := by decide +kernel
theorem dL_law_896 : decode code 896 = .ok (.goto 315, 3) := by decide +kernel
theorem dL_law_891 : decode code 891 = .ok (.iconst 0, 1) := by decide +kernel
theorem dL_law_887 : decode code 887 = .ok (.iconst 1, 1) := by decide +kernel
theorem dL_law_888 : decode code 888 = .ok (.goto 4, 3) := by decide +kernel
theorem dL_law_873 : decode code 873 = .ok (.iconst 0, 1) := by decide +kernel
theorem dL_law_869 : decode code 869 = .ok (.iconst 1, 1) := by decide +kernel
theorem dL_law_870 : decode code 870 = .ok (.goto 4, 3) := by decide +kernel
theorem dL_law_899 : decode code 899 = .ok (.aload_n 1, 1) := by decide +kernel
theorem dL_law_900 : decode code 900 = .ok (.aload_n 0, 1) := by decide +kernel
theorem dL_law_901 : decode code 901 = .ok (.iload_n 3, 1) := by decide +kernel
theorem dL_law_902 : decode code 902 = .ok (.iconst 1, 1) := by decide +kernel
theorem dL_law_903 : decode code 903 = .ok (.iadd, 1) := by decide +kernel
theorem dL_law_904 : decode code 904 = .ok (.iaload, 1) := by decide +kernel
theorem dL_law_905 : decode code 905 = .ok (.aload_n 0, 1) := by decide +kernel
theorem dL_law_906 : decode code 906 = .ok (.iload_n 3, 1) := by decide +kernel
theorem dL_law_907 : decode code 907 = .ok (.iconst 2, 1) := by decide +kernel
theorem dL_law_908 : decode code 908 = .ok (.iadd, 1) := by decide +kernel
theorem dL_law_909 : decode code 909 = .ok (.iaload, 1) := by decide +kernel
theorem dL_law_910 : decode code 910 = .ok (.invokevirtual 106, 3) := by decide +kernel
theorem dL_law_913 : decode code 913 = .ok (.pop, 1) := by decide +kernel
theorem dL_law_914 : decode code 914 = .ok (.aload_n 2, 1) := by decide +kernel
theorem dL_law_915 : decode code 915 = .ok (.aload_n 0, 1) := by decide +kernel
theorem dL_law_916 : decode code 916 = .ok (.iload_n 3, 1) := by decide +kernel
theorem dL_law_917 : decode code 917 = .ok (.iconst 1, 1) := by decide +kernel
theorem dL_law_918 : decode code 918 = .ok (.iadd, 1) := by decide +kernel
theorem dL_law_919 : decode code 919 = .ok (.iaload, 1) := by decide +kernel
theorem dL_law_920 : decode code 920 = .ok (.aload_n 0, 1) := by decide +kernel
theorem dL_law_921 : decode code 921 = .ok (.iload_n 3, 1) := by decide +kernel
theorem dL_law_922 : decode code 922 = .ok (.iconst 2, 1) := by decide +kernel
theorem dL_law_923 : decode code 923 = .ok (.iadd, 1) := by decide +kernel
theorem dL_law_924 : decode code 924 = .ok (.iaload, 1) := by decide +kernel
theorem dL_law_925 : decode code 925 = .ok (.invokevirtual 109, 3) := by decide +kernel
theorem dL_law_928 : decode code 928 = .ok (.pop, 1) := by decide +kernel
theorem dL_law_929 : decode code 929 = .ok (.goto 282, 3) := by decide +kernel
theorem dL_law_932 : decode code 932 = .ok (.aload_n 1, 1) := by decide +kernel
theorem dL_law_933 : decode code 933 = .ok (.aload_n 0, 1) := by decide +kernel
theorem dL_law_934 : decode code 934 = .ok (.iload_n 3, 1) := by decide +kernel
theorem dL_law_935 : decode code 935 = .ok (.iconst 1, 1) := by decide +kernel
theorem dL_law_936 : decode code 936 = .ok (.iadd, 1) := by decide +kernel
theorem dL_law_937 : decode code 937 = .ok (.iaload, 1) := by decide +kernel
theorem dL_law_938 : decode code 938 = .ok (.aload_n 0, 1) := by decide +kernel
theorem dL_law_939 : decode code 939 = .ok (.iload_n 3, 1) := by decide +kernel
theorem dL_law_940 : decode code 940 = .ok (.iconst 2, 1) := by decide +kernel
theorem dL_law_941 : decode code 941 = .ok (.iadd, 1) := by decide +kernel
theorem dL_law_942 : decode code 942 = .ok (.iaload, 1) := by decide +kernel
theorem dL_law_943 : decode code 943 = .ok (.invokevirtual 110, 3) := by decide +kernel
theorem dL_law_946 : decode code 946 = .ok (.pop, 1) := by decide +kernel
theorem dL_law_947 : decode code 947 = .ok (.aload_n 2, 1) := by decide +kernel
theorem dL_law_948 : decode code 948 = .ok (.aload_n 0, 1) := by decide +kernel
theorem dL_law_949 : decode code 949 = .ok (.iload_n 3, 1) := by decide +kernel
theorem dL_law_950 : decode code 950 = .ok (.iconst 1, 1) := by decide +kernel
theorem dL_law_951 : decode code 951 = .ok (.iadd, 1) := by decide +kernel
theorem dL_law_952 : decode code 952 = .ok (.iaload, 1) := by decide +kernel
theorem dL_law_953 : decode code 953 = .ok (.aload_n 0, 1) := by decide +kernel
theorem dL_law_954 : decode code 954 = .ok (.iload_n 3, 1) := by decide +kernel
theorem dL_law_955 : decode code 955 = .ok (.iconst 2, 1) := by decide +kernel
theorem dL_law_956 : decode code 956 = .ok (.iadd, 1) := by decide +kernel
theorem dL_law_957 : decode code 957 = .ok (.iaload, 1) := by decide +kernel
theorem dL_law_958 : decode code 958 = .ok (.invokevirtual 113, 3) := by decide +kernel
theorem dL_law_961 : decode code 961 = .ok (.pop, 1) := by decide +kernel
theorem dL_law_962 : decode code 962 = .ok (.goto 249, 3) := by decide +kernel
theorem dL_law_965 : decode code 965 = .ok (.aload_n 1, 1) := by decide +kernel
theorem dL_law_966 : decode code 966 = .ok (.aload_n 0, 1) := by decide +kernel
theorem dL_law_967 : decode code 967 = .ok (.iload_n 3, 1) := by decide +kernel
theorem dL_law_968 : decode code 968 = .ok (.iconst 1, 1) := by decide +kernel
theorem dL_law_969 : decode code 969 = .ok (.iadd, 1) := by decide +kernel
theorem dL_law_970 : decode code 970 = .ok (.iaload, 1) := by decide +kernel
theorem dL_law_971 : decode code 971 = .ok (.aload_n 0, 1) := by decide +kernel
theorem dL_law_972 : decode code 972 = .ok (.iload_n 3, 1) := by decide +kernel
theorem dL_law_973 : decode code 973 = .ok (.iconst 2, 1) := by decide +kernel
theorem dL_law_974 : decode code 974 = .ok (.iadd, 1) := by decide +kernel
theorem dL_law_975 : decode code 975 = .ok (.iaload, 1) := by decide +kernel
theorem dL_law_976 : decode code 976 = .ok (.ifCond .eq 7, 3) := by decide +kernel
theorem dL_law_984 : decode code 984 = .ok (.aload_n 0, 1) := by decide +kernel
theorem dL_law_985 : decode code 985 = .ok (.iload_n 3, 1) := by decide +kernel
theorem dL_law_986 : decode code 986 = .ok (.iconst 3, 1) := by decide +kernel
theorem dL_law_987 : decode code 987 = .ok (.iadd, 1) := by decide +kernel
theorem dL_law_988 : decode code 988 = .ok (.iaload, 1) := by decide +kernel
theorem dL_law_989 : decode code 989 = .ok (.ifCond .eq 7, 3) := by decide +kernel
theorem dL_law_997 : decode code 997 = .ok (.invokevirtual 114, 3) := by decide +kernel
theorem dL_law_1000 : decode code 1000 = .ok (.pop, 1) := by decide +kernel
theorem dL_law_1001 : decode code 1001 = .ok (.aload_n 2, 1) := by decide +kernel
theorem dL_law_1002 : decode code 1002 = .ok (.aload_n 0, 1) := by decide +kernel
theorem dL_law_1003 : decode code 1003 = .ok (.iload_n 3, 1) := by decide +kernel
theorem dL_law_1004 : decode code 1004 = .ok (.iconst 1, 1) := by decide +kernel
theorem dL_law_1005 : decode code 1005 = .ok (.iadd, 1) := by decide +kernel
theorem dL_law_1006 : decode code 1006 = .ok (.iaload, 1) := by decide +kernel
theorem dL_law_1007 : decode code 1007 = .ok (.aload_n 0, 1) := by decide +kernel
theorem dL_law_1008 : decode code 1008 = .ok (.iload_n 3, 1) := by decide +kernel
theorem dL_law_1009 : decode code 1009 = .ok (.iconst 2, 1) := by decide +kernel
theorem dL_law_1010 : decode code 1010 = .ok (.iadd, 1) := by decide +kernel
theorem dL_law_1011 : decode code 1011 = .ok (.iaload, 1) := by decide +kernel
theorem dL_law_1012 : decode code 1012 = .ok (.ifCond .eq 7, 3) := by decide +kernel
theorem dL_law_1020 : decode code 1020 = .ok (.aload_n 0, 1) := by decide +kernel
theorem dL_law_1021 : decode code 1021 = .ok (.iload_n 3, 1) := by decide +kernel
theorem dL_law_1022 : decode code 1022 = .ok (.iconst 3, 1) := by decide +kernel
theorem dL_law_1023 : decode code 1023 = .ok (.iadd, 1) := by decide +kernel
theorem dL_law_1024 : decode code 1024 = .ok (.iaload, 1) := by decide +kernel
theorem dL_law_1025 : decode code 1025 = .ok (.ifCond .eq 7, 3) := by decide +kernel
theorem dL_law_1033 : decode code 1033 = .ok (.invokevirtual 118, 3) := by decide +kernel
theorem dL_law_1036 : decode code 1036 = .ok (.pop, 1) := by decide +kernel
theorem dL_law_1037 : decode code 1037 = .ok (.goto 174, 3) := by decide +kernel
theorem dL_law_1032 : decode code 1032 = .ok (.iconst 0, 1) := by decide +kernel
theorem dL_law_1028 : decode code 1028 = .ok (.iconst 1, 1) := by decide +kernel
theorem dL_law_1029 : decode code 1029 = .ok (.goto 4, 3) := by decide +kernel
theorem dL_law_1019 : decode code 1019 = .ok (.iconst 0, 1) := by decide +kernel
theorem dL_law_1015 : decode code 1015 = .ok (.iconst 1, 1) := by decide +kernel
theorem dL_law_1016 : decode code 1016 = .ok (.goto 4, 3) := by decide +kernel
theorem dL_law_996 : decode code 996 = .ok (.iconst 0, 1) := by decide +kernel
theorem dL_law_992 : decode code 992 = .ok (.iconst 1, 1) := by decide +kernel
theorem dL_law_993 : decode code 993 = .ok (.goto 4, 3) := by decide +kernel
theorem dL_law_983 : decode code 983 = .ok (.iconst 0, 1) := by decide +kernel
theorem dL_law_979 : decode code 979 = .ok (.iconst 1, 1) := by decide +kernel
theorem dL_law_980 : decode code 980 = .ok (.goto 4, 3) := by decide +kernel
theorem dL_law_1040 : decode code 1040 = .ok (.aload_n 1, 1) := by decide +kernel
theorem dL_law_1041 : decode code 1041 = .ok (.aload_n 0, 1) := by decide +kernel
theorem dL_law_1042 : decode code 1042 = .ok (.iload_n 3, 1) := by decide +kernel
theorem dL_law_1043 : decode code 1043 = .ok (.iconst 1, 1) := by decide +kernel
theorem dL_law_1044 : decode code 1044 = .ok (.iadd, 1) := by decide +kernel
theorem dL_law_1045 : decode code 1045 = .ok (.iaload, 1) := by decide +kernel
theorem dL_law_1046 : decode code 1046 = .ok (.invokevirtual 119, 3) := by decide +kernel
theorem dL_law_1049 : decode code 1049 = .ok (.pop, 1) := by decide +kernel
theorem dL_law_1050 : decode code 1050 = .ok (.aload_n 2, 1) := by decide +kernel
theorem dL_law_1051 : decode code 1051 = .ok (.aload_n 0, 1) := by decide +kernel
theorem dL_law_1052 : decode code 1052 = .ok (.iload_n 3, 1) := by decide +kernel
theorem dL_law_1053 : decode code 1053 = .ok (.iconst 1, 1) := by decide +kernel
theorem dL_law_1054 : decode code 1054 = .ok (.iadd, 1) := by decide +kernel
theorem dL_law_1055 : decode code 1055 = .ok (.iaload, 1) := by decide +kernel
theorem dL_law_1056 : decode code 1056 = .ok (.invokevirtual 122, 3) := by decide +kernel
theorem dL_law_1059 : decode code 1059 = .ok (.pop, 1) := by decide +kernel
theorem dL_law_1060 : decode code 1060 = .ok (.goto 151, 3) := by decide +kernel
theorem dL_law_1063 : decode code 1063 = .ok (.aload_n 1, 1) := by decide +kernel
theorem dL_law_1064 : decode code 1064 = .ok (.aload_n 0, 1) := by decide +kernel
theorem dL_law_1065 : decode code 1065 = .ok (.iload_n 3, 1) := by decide +kernel
theorem dL_law_1066 : decode code 1066 = .ok (.iconst 1, 1) := by decide +kernel
theorem dL_law_1067 : decode code 1067 = .ok (.iadd, 1) := by decide +kernel
theorem dL_law_1068 : decode code 1068 = .ok (.iaload, 1) := by decide +kernel
theorem dL_law_1069 : decode code 1069 = .ok (.invokevirtual 123, 3) := by decide +kernel
theorem dL_law_1072 : decode code 1072 = .ok (.aload_n 2, 1) := by decide +kernel
theorem dL_law_1073 : decode code 1073 = .ok (.aload_n 0, 1) := by decide +kernel
theorem dL_law_1074 : decode code 1074 = .ok (.iload_n 3, 1) := by decide +kernel
theorem dL_law_1075 : decode code 1075 = .ok (.iconst 1, 1) := by decide +kernel
theorem dL_law_1076 : decode code 1076 = .ok (.iadd, 1) := by decide +kernel
theorem dL_law_1077 : decode code 1077 = .ok (.iaload, 1) := by decide +kernel
theorem dL_law_1078 : decode code 1078 = .ok (.invokevirtual 126, 3) := by decide +kernel
theorem dL_law_1081 : decode code 1081 = .ok (.if_icmp .eq 130, 3) := by decide +kernel
theorem dL_law_1086 : decode code 1086 = .ok (.aload_n 1, 1) := by decide +kernel
theorem dL_law_1087 : decode code 1087 = .ok (.aload_n 0, 1) := by decide +kernel
theorem dL_law_1088 : decode code 1088 = .ok (.iload_n 3, 1) := by decide +kernel
theorem dL_law_1089 : decode code 1089 = .ok (.iconst 1, 1) := by decide +kernel
theorem dL_law_1090 : decode code 1090 = .ok (.iadd, 1) := by decide +kernel
theorem dL_law_1091 : decode code 1091 = .ok (.iaload, 1) := by decide +kernel
theorem dL_law_1092 : decode code 1092 = .ok (.invokevirtual 127, 3) := by decide +kernel
theorem dL_law_1095 : decode code 1095 = .ok (.pop, 1) := by decide +kernel
theorem dL_law_1096 : decode code 1096 = .ok (.aload_n 2, 1) := by decide +kernel
theorem dL_law_1097 : decode code 1097 = .ok (.aload_n 0, 1) := by decide +kernel
theorem dL_law_1098 : decode code 1098 = .ok (.iload_n 3, 1) := by decide +kernel
theorem dL_law_1099 : decode code 1099 = .ok (.iconst 1, 1) := by decide +kernel
theorem dL_law_1100 : decode code 1100 = .ok (.iadd, 1) := by decide +kernel
theorem dL_law_1101 : decode code 1101 = .ok (.iaload, 1) := by decide +kernel
theorem dL_law_1102 : decode code 1102 = .ok (.invokevirtual 130, 3) := by decide +kernel
theorem dL_law_1105 : decode code 1105 = .ok (.pop, 1) := by decide +kernel
theorem dL_law_1106 : decode code 1106 = .ok (.goto 105, 3) := by decide +kernel
theorem dL_law_1109 : decode code 1109 = .ok (.aload_n 1, 1) := by decide +kernel
theorem dL_law_1110 : decode code 1110 = .ok (.aload_n 0, 1) := by decide +kernel
theorem dL_law_1111 : decode code 1111 = .ok (.iload_n 3, 1) := by decide +kernel
theorem dL_law_1112 : decode code 1112 = .ok (.iconst 1, 1) := by decide +kernel
theorem dL_law_1113 : decode code 1113 = .ok (.iadd, 1) := by decide +kernel
theorem dL_law_1114 : decode code 1114 = .ok (.iaload, 1) := by decide +kernel
theorem dL_law_1115 : decode code 1115 = .ok (.aload_n 0, 1) := by decide +kernel
theorem dL_law_1116 : decode code 1116 = .ok (.iload_n 3, 1) := by decide +kernel
theorem dL_law_1117 : decode code 1117 = .ok (.iconst 2, 1) := by decide +kernel
theorem dL_law_1118 : decode code 1118 = .ok (.iadd, 1) := by decide +kernel
theorem dL_law_1119 : decode code 1119 = .ok (.iaload, 1) := by decide +kernel
theorem dL_law_1120 : decode code 1120 = .ok (.invokevirtual 131, 3) := by decide +kernel
theorem dL_law_1123 : decode code 1123 = .ok (.pop, 1) := by decide +kernel
theorem dL_law_1124 : decode code 1124 = .ok (.aload_n 2, 1) := by decide +kernel
theorem dL_law_1125 : decode code 1125 = .ok (.aload_n 0, 1) := by decide +kernel
theorem dL_law_1126 : decode code 1126 = .ok (.iload_n 3, 1) := by decide +kernel
theorem dL_law_1127 : decode code 1127 = .ok (.iconst 1, 1) := by decide +kernel
theorem dL_law_1128 : decode code 1128 = .ok (.iadd, 1) := by decide +kernel
theorem dL_law_1129 : decode code 1129 = .ok (.iaload, 1) := by decide +kernel
theorem dL_law_1130 : decode code 1130 = .ok (.aload_n 0, 1) := by decide +kernel
theorem dL_law_1131 : decode code 1131 = .ok (.iload_n 3, 1) := by decide +kernel
theorem dL_law_1132 : decode code 1132 = .ok (.iconst 2, 1) := by decide +kernel
theorem dL_law_1133 : decode code 1133 = .ok (.iadd, 1) := by decide +kernel
theorem dL_law_1134 : decode code 1134 = .ok (.iaload, 1) := by decide +kernel
theorem dL_law_1135 : decode code 1135 = .ok (.invokevirtual 134, 3) := by decide +kernel
theorem dL_law_1138 : decode code 1138 = .ok (.pop, 1) := by decide +kernel
theorem dL_law_1139 : decode code 1139 = .ok (.goto 72, 3) := by decide +kernel
theorem dL_law_1142 : decode code 1142 = .ok (.aload_n 1, 1) := by decide +kernel
theorem dL_law_1143 : decode code 1143 = .ok (.aload_n 0, 1) := by decide +kernel
theorem dL_law_1144 : decode code 1144 = .ok (.iload_n 3, 1) := by decide +kernel
theorem dL_law_1145 : decode code 1145 = .ok (.iconst 1, 1) := by decide +kernel
theorem dL_law_1146 : decode code 1146 = .ok (.iadd, 1) := by decide +kernel
theorem dL_law_1147 : decode code 1147 = .ok (.iaload, 1) := by decide +kernel
theorem dL_law_1148 : decode code 1148 = .ok (.invokevirtual 135, 3) := by decide +kernel
theorem dL_law_1151 : decode code 1151 = .ok (.pop, 1) := by decide +kernel
theorem dL_law_1152 : decode code 1152 = .ok (.aload_n 2, 1) := by decide +kernel
theorem dL_law_1153 : decode code 1153 = .ok (.aload_n 0, 1) := by decide +kernel
theorem dL_law_1154 : decode code 1154 = .ok (.iload_n 3, 1) := by decide +kernel
theorem dL_law_1155 : decode code 1155 = .ok (.iconst 1, 1) := by decide +kernel
theorem dL_law_1156 : decode code 1156 = .ok (.iadd, 1) := by decide +kernel
theorem dL_law_1157 : decode code 1157 = .ok (.iaload, 1) := by decide +kernel
theorem dL_law_1158 : decode code 1158 = .ok (.invokevirtual 138, 3) := by decide +kernel
theorem dL_law_1161 : decode code 1161 = .ok (.pop, 1) := by decide +kernel
theorem dL_law_1162 : decode code 1162 = .ok (.goto 49, 3) := by decide +kernel
theorem dL_law_1165 : decode code 1165 = .ok (.aload_n 1, 1) := by decide +kernel
theorem dL_law_1166 : decode code 1166 = .ok (.aload_n 0, 1) := by decide +kernel
theorem dL_law_1167 : decode code 1167 = .ok (.iload_n 3, 1) := by decide +kernel
theorem dL_law_1168 : decode code 1168 = .ok (.iconst 1, 1) := by decide +kernel
theorem dL_law_1169 : decode code 1169 = .ok (.iadd, 1) := by decide +kernel
theorem dL_law_1170 : decode code 1170 = .ok (.iaload, 1) := by decide +kernel
theorem dL_law_1171 : decode code 1171 = .ok (.invokevirtual 139, 3) := by decide +kernel
theorem dL_law_1174 : decode code 1174 = .ok (.pop, 1) := by decide +kernel
theorem dL_law_1175 : decode code 1175 = .ok (.aload_n 2, 1) := by decide +kernel
theorem dL_law_1176 : decode code 1176 = .ok (.aload_n 0, 1) := by decide +kernel
theorem dL_law_1177 : decode code 1177 = .ok (.iload_n 3, 1) := by decide +kernel
theorem dL_law_1178 : decode code 1178 = .ok (.iconst 1, 1) := by decide +kernel
theorem dL_law_1179 : decode code 1179 = .ok (.iadd, 1) := by decide +kernel
theorem dL_law_1180 : decode code 1180 = .ok (.iaload, 1) := by decide +kernel
theorem dL_law_1181 : decode code 1181 = .ok (.invokevirtual 142, 3) := by decide +kernel
theorem dL_law_1184 : decode code 1184 = .ok (.pop, 1) := by decide +kernel
theorem dL_law_1185 : decode code 1185 = .ok (.goto 26, 3) := by decide +kernel
theorem dL_law_1188 : decode code 1188 = .ok (.aload_n 1, 1) := by decide +kernel
theorem dL_law_1189 : decode code 1189 = .ok (.aload_n 0, 1) := by decide +kernel
theorem dL_law_1190 : decode code 1190 = .ok (.iload_n 3, 1) := by decide +kernel
theorem dL_law_1191 : decode code 1191 = .ok (.iconst 1, 1) := by decide +kernel
theorem dL_law_1192 : decode code 1192 = .ok (.iadd, 1) := by decide +kernel
theorem dL_law_1193 : decode code 1193 = .ok (.iaload, 1) := by decide +kernel
theorem dL_law_1194 : decode code 1194 = .ok (.invokevirtual 143, 3) := by decide +kernel
theorem dL_law_1197 : decode code 1197 = .ok (.pop, 1) := by decide +kernel
theorem dL_law_1198 : decode code 1198 = .ok (.aload_n 2, 1) := by decide +kernel
theorem dL_law_1199 : decode code 1199 = .ok (.aload_n 0, 1) := by decide +kernel
theorem dL_law_1200 : decode code 1200 = .ok (.iload_n 3, 1) := by decide +kernel
theorem dL_law_1201 : decode code 1201 = .ok (.iconst 1, 1) := by decide +kernel
theorem dL_law_1202 : decode code 1202 = .ok (.iadd, 1) := by decide +kernel
theorem dL_law_1203 : decode code 1203 = .ok (.iaload, 1) := by decide +kernel
theorem dL_law_1204 : decode code 1204 = .ok (.invokevirtual 146, 3) := by decide +kernel
theorem dL_law_1207 : decode code 1207 = .ok (.pop, 1) := by decide +kernel
theorem dL_law_1208 : decode code 1208 = .ok (.goto 3, 3) := by decide +kernel
/-! what the law holds between its calls -/
def LI (G : va_G) (cy : Nat → ClassId) (s : State) (L : List Nat) (K : Nat → Nat) (mo : Nat) (h : Nat → Nat) (T : Int) (H : Heap) (locs : List Loc) : Prop := ∃ (R : Nat → Nat → Nat) (I : Nat → Nat → Int32) (J : Nat → Nat → Int64) (E : Nat → Nat → Int32) (B : Nat → Nat → Int64) (v : Nat → Int32) (nm : Int64) (f : Nat → Nat → Int32) (g : Nat → Nat → Int64), RT L K R ∧ IV T L K I ∧ EV L K E ∧ MIv T v ∧ MIf f ∧ RI v f ∧ WL v f ∧ va_P G vwCl (WC cy L K R I J E B ++ WMs cy mo h v nm f g) H ∧ va_D (fun q : Nat => s.heap.size ≤ q) (WC cy L K R I J E B ++ WMs cy mo h v nm f g) ∧ va_S (fun q : Nat => s.heap.size ≤ q) s.heap H locs
theorem fr_l {G : va_G} {cl : List vw_C} {A : Nat → Prop} {w1 w2 w9 : va_W} {H H1 : Heap} (hP : va_P G cl (w1 ++ w2) H) (hD : va_D A (w1 ++ w2)) (hF : ∀ q, va_A w1 H.size q → A q) (hk : ∀ q : Nat, q < H.size → ¬ va_A w1 H.size q → H1[q]? = H[q]?) (hP1 : va_P G cl w9 H1) (hD1 : va_D (va_A w1 H.size) w9) : va_P G cl (w9 ++ w2) H1 ∧ va_D A (w9 ++ w2) := by
  obtain ⟨hP2, hD2⟩ := fr_drop hP hD hk
  refine ⟨va_P.app hP1 hP2, va_D.app (hD1.weaken (fun _ q _ h => hF q.1 h)) hD2 (fun i j x y hx hy hxy => ?_)⟩
  have h2 : (w1 ++ w2)[w1.length + j]? = some y := by rw [List.getElem?_append_right (Nat.le_add_right _ _), Nat.add_sub_cancel_left]; exact hy
  have hlt := (hP _ y h2).lt
  rcases hD1.2 i x hx with ⟨k, e, h3⟩ | h3
  · have h4 : (w1 ++ w2)[k]? = some (x.1, e) := by rw [List.getElem?_append_left (List.getElem?_eq_some_iff.mp h3).1]; exact h3
    have h5 := hD.1 k (w1.length + j) (x.1, e) y h4 h2 hxy
    have h6 := (List.getElem?_eq_some_iff.mp h3).1
    omega
  · rw [hxy] at h3
    omega
theorem fr_swP {G : va_G} {cl : List vw_C} {w1 w2 : va_W} {H : Heap} (hP : va_P G cl (w1 ++ w2) H) : va_P G cl (w2 ++ w1) H := va_Pperm List.perm_append_comm hP
theorem fr_swD {A : Nat → Prop} {w1 w2 : va_W} (hD : va_D A (w1 ++ w2)) : va_D A (w2 ++ w1) := va_Dperm List.perm_append_comm hD
theorem fr_r {G : va_G} {cl : List vw_C} {A : Nat → Prop} {w1 w2 w9 : va_W} {H H1 : Heap} (hP : va_P G cl (w1 ++ w2) H) (hD : va_D A (w1 ++ w2)) (hF : ∀ q, va_A w2 H.size q → A q) (hk : ∀ q : Nat, q < H.size → ¬ va_A w2 H.size q → H1[q]? = H[q]?) (hP1 : va_P G cl w9 H1) (hD1 : va_D (va_A w2 H.size) w9) : va_P G cl (w1 ++ w9) H1 ∧ va_D A (w1 ++ w9) := by
  obtain ⟨h1, h2⟩ := fr_l (fr_swP hP) (fr_swD hD) hF hk hP1 hD1
  exact ⟨fr_swP h1, fr_swD h2⟩
theorem spT_in {T n : Int} (h : 0 ≤ T ∧ T ≤ 100000) : 0 ≤ spT T n ∧ spT T n ≤ 100000 := by
  unfold spT
  split <;> omega
theorem vi_0 {w : Int32} {N : Nat} (h0 : 0 ≤ w.toInt) (h1 : w.toInt < N) : vp_in w N := by
  unfold vp_in
  have h4 : (w.toNatClampNeg : Int) = w.toInt := by
    have h5 : w.toNatClampNeg = w.toInt.toNat := rfl
    omega
  have z0 : (0 : Int32).toInt = 0 := by decide
  rintro (h | h)
  · have := (ow_lt _ _).mp h
    omega
  · omega
theorem vi_in {i w : Int32} {k N : Nat} {z : Int32} (hz : z.toInt = k) (e : w = i + z) (h0 : 0 ≤ i.toInt) (h1 : i.toInt + k < N) (h2 : N ≤ 3072) : vp_in w N := by
  have h3 := ow_add e (by omega) (by omega)
  exact vi_0 (by omega) (by omega)
