theorem dX0_init_0 : decode cX0_init 0 = .ok (.aload_n 0, 1) := by decide +kernel
theorem dX0_init_1 : decode cX0_init 1 = .ok (.invokespecial 1, 3) := by decide +kernel
theorem dX0_init_4 : decode cX0_init 4 = .ok (.aload_n 0, 1) := by decide +kernel
theorem dX0_init_5 : decode cX0_init 5 = .ok (.bipush 36, 2) := by decide +kernel
theorem dX0_init_7 : decode cX0_init 7 = .ok (.newarray .int, 2) := by decide +kernel
theorem dX0_init_9 : decode cX0_init 9 = .ok (.putfield 9, 3) := by decide +kernel
theorem dX0_init_12 : decode cX0_init 12 = .ok (.aload_n 0, 1) := by decide +kernel
theorem dX0_init_13 : decode cX0_init 13 = .ok (.bipush 36, 2) := by decide +kernel
theorem dX0_init_15 : decode cX0_init 15 = .ok (.newarray .int, 2) := by decide +kernel
theorem dX0_init_17 : decode cX0_init 17 = .ok (.putfield 13, 3) := by decide +kernel
theorem dX0_init_20 : decode cX0_init 20 = .ok (.aload_n 0, 1) := by decide +kernel
theorem dX0_init_21 : decode cX0_init 21 = .ok (.bipush 36, 2) := by decide +kernel
theorem dX0_init_23 : decode cX0_init 23 = .ok (.newarray .int, 2) := by decide +kernel
theorem dX0_init_25 : decode cX0_init 25 = .ok (.putfield 16, 3) := by decide +kernel
theorem dX0_init_28 : decode cX0_init 28 = .ok (.aload_n 0, 1) := by decide +kernel
theorem dX0_init_29 : decode cX0_init 29 = .ok (.bipush 36, 2) := by decide +kernel
theorem dX0_init_31 : decode cX0_init 31 = .ok (.newarray .int, 2) := by decide +kernel
theorem dX0_init_33 : decode cX0_init 33 = .ok (.putfield 19, 3) := by decide +kernel
theorem dX0_init_36 : decode cX0_init 36 = .ok (.aload_n 0, 1) := by decide +kernel
theorem dX0_init_37 : decode cX0_init 37 = .ok (.bipush 36, 2) := by decide +kernel
theorem dX0_init_39 : decode cX0_init 39 = .ok (.newarray .int, 2) := by decide +kernel
theorem dX0_init_41 : decode cX0_init 41 = .ok (.putfield 22, 3) := by decide +kernel
theorem dX0_init_44 : decode cX0_init 44 = .ok (.aload_n 0, 1) := by decide +kernel
theorem dX0_init_45 : decode cX0_init 45 = .ok (.bipush 36, 2) := by decide +kernel
theorem dX0_init_47 : decode cX0_init 47 = .ok (.newarray .int, 2) := by decide +kernel
theorem dX0_init_49 : decode cX0_init 49 = .ok (.putfield 25, 3) := by decide +kernel
theorem dX0_init_52 : decode cX0_init 52 = .ok (.aload_n 0, 1) := by decide +kernel
theorem dX0_init_53 : decode cX0_init 53 = .ok (.bipush 36, 2) := by decide +kernel
theorem dX0_init_55 : decode cX0_init 55 = .ok (.newarray .int, 2) := by decide +kernel
theorem dX0_init_57 : decode cX0_init 57 = .ok (.putfield 28, 3) := by decide +kernel
theorem dX0_init_60 : decode cX0_init 60 = .ok (.aload_n 0, 1) := by decide +kernel
theorem dX0_init_61 : decode cX0_init 61 = .ok (.bipush 7, 2) := by decide +kernel
theorem dX0_init_63 : decode cX0_init 63 = .ok (.bipush 8, 2) := by decide +kernel
theorem dX0_init_65 : decode cX0_init 65 = .ok (.multianewarray 31 2, 4) := by decide +kernel
theorem dX0_init_69 : decode cX0_init 69 = .ok (.putfield 33, 3) := by decide +kernel
theorem dX0_init_72 : decode cX0_init 72 = .ok (.aload_n 0, 1) := by decide +kernel
theorem dX0_init_73 : decode cX0_init 73 = .ok (.bipush 7, 2) := by decide +kernel
theorem dX0_init_75 : decode cX0_init 75 = .ok (.bipush 7, 2) := by decide +kernel
theorem dX0_init_77 : decode cX0_init 77 = .ok (.multianewarray 31 2, 4) := by decide +kernel
theorem dX0_init_81 : decode cX0_init 81 = .ok (.putfield 36, 3) := by decide +kernel
theorem dX0_init_84 : decode cX0_init 84 = .ok (.aload_n 0, 1) := by decide +kernel
theorem dX0_init_85 : decode cX0_init 85 = .ok (.bipush 7, 2) := by decide +kernel
theorem dX0_init_87 : decode cX0_init 87 = .ok (.newarray .int, 2) := by decide +kernel
theorem dX0_init_89 : decode cX0_init 89 = .ok (.putfield 39, 3) := by decide +kernel
theorem dX0_init_92 : decode cX0_init 92 = .ok (.aload_n 0, 1) := by decide +kernel
theorem dX0_init_93 : decode cX0_init 93 = .ok (.bipush 48, 2) := by decide +kernel
theorem dX0_init_95 : decode cX0_init 95 = .ok (.newarray .int, 2) := by decide +kernel
theorem dX0_init_97 : decode cX0_init 97 = .ok (.putfield 42, 3) := by decide +kernel
theorem dX0_init_100 : decode cX0_init 100 = .ok (.return_, 1) := by decide +kernel
set_option maxRecDepth 20000 in
theorem ggX0_join_J7_fill_53178 : GoodIn wsX0_join wsJ7_fill_53178 := goodIn_r _ [8] (by decide +kernel) (by decide +kernel)
set_option maxRecDepth 20000 in
theorem gX0_join_J7_fill_53178 : GoodIn wsX0_join (va_wsS RX0 56 yJ7_fill_53178 wsJ7_fill_53178) := goodIn_app (goodIn_of _ (by decide +kernel)) ggX0_join_J7_fill_53178
theorem dX0_join_0 : decode cX0_join 0 = .ok (.aload_n 0, 1) := by decide +kernel
theorem dX0_join_1 : decode cX0_join 1 = .ok (.getfield 45, 3) := by decide +kernel
theorem dX0_join_4 : decode cX0_join 4 = .ok (.bipush 7, 2) := by decide +kernel
theorem dX0_join_6 : decode cX0_join 6 = .ok (.if_icmp .lt 13, 3) := by decide +kernel
theorem dX0_join_9 : decode cX0_join 9 = .ok (.new 49, 3) := by decide +kernel
theorem dX0_join_12 : decode cX0_join 12 = .ok (.dup, 1) := by decide +kernel
theorem dX0_join_13 : decode cX0_join 13 = .ok (.ldc 51, 2) := by decide +kernel
theorem dX0_join_15 : decode cX0_join 15 = .ok (.invokespecial 53, 3) := by decide +kernel
theorem dX0_join_18 : decode cX0_join 18 = .ok (.athrow, 1) := by decide +kernel
theorem dX0_join_19 : decode cX0_join 19 = .ok (.aload_n 0, 1) := by decide +kernel
theorem dX0_join_20 : decode cX0_join 20 = .ok (.getfield 45, 3) := by decide +kernel
theorem dX0_join_23 : decode cX0_join 23 = .ok (.istore_n 1, 1) := by decide +kernel
theorem dX0_join_24 : decode cX0_join 24 = .ok (.aload_n 0, 1) := by decide +kernel
theorem dX0_join_25 : decode cX0_join 25 = .ok (.getfield 33, 3) := by decide +kernel
theorem dX0_join_28 : decode cX0_join 28 = .ok (.iload_n 1, 1) := by decide +kernel
theorem dX0_join_29 : decode cX0_join 29 = .ok (.aaload, 1) := by decide +kernel
theorem dX0_join_30 : decode cX0_join 30 = .ok (.iconst 1, 1) := by decide +kernel
theorem dX0_join_31 : decode cX0_join 31 = .ok (.invokestatic 56, 3) := by decide +kernel
theorem dX0_join_34 : decode cX0_join 34 = .ok (.aload_n 0, 1) := by decide +kernel
theorem dX0_join_35 : decode cX0_join 35 = .ok (.dup, 1) := by decide +kernel
theorem dX0_join_36 : decode cX0_join 36 = .ok (.getfield 45, 3) := by decide +kernel
theorem dX0_join_39 : decode cX0_join 39 = .ok (.iconst 1, 1) := by decide +kernel
theorem dX0_join_40 : decode cX0_join 40 = .ok (.iadd, 1) := by decide +kernel
theorem dX0_join_41 : decode cX0_join 41 = .ok (.putfield 45, 3) := by decide +kernel
theorem dX0_join_44 : decode cX0_join 44 = .ok (.iload_n 1, 1) := by decide +kernel
theorem dX0_join_45 : decode cX0_join 45 = .ok (.ireturn, 1) := by decide +kernel
set_option maxRecDepth 20000 in
theorem ggX0_find_X0_requireCollector : GoodIn wsX0_find wsX0_requireCollector := goodIn_ca (goodIn_r _ [16, 17, 18, 19, 20, 21, 15, 22, 23, 24, 25, 26, 27, 28, 29, 30, 31, 32, 33, 34, 35, 36, 37, 38, 39] (by decide +kernel) (by decide +kernel)) (goodIn_sub (fun _ h => List.mem_cons_of_mem _ (List.mem_append_right _ h)) (by decide +kernel))
set_option maxRecDepth 20000 in
theorem gX0_find_X0_requireCollector : GoodIn wsX0_find (wsV RX0 62 RX0 yX0_requireCollector wsX0_requireCollector) := goodIn_app (goodIn_of _ (by decide +kernel)) ggX0_find_X0_requireCollector
set_option maxRecDepth 20000 in
theorem ggX0_find_X0_isBelow : GoodIn wsX0_find wsX0_isBelow := goodIn_r _ [22] (by decide +kernel) (by decide +kernel)
set_option maxRecDepth 20000 in
theorem gX0_find_X0_isBelow : GoodIn wsX0_find (va_wsS RX0 66 yX0_isBelow wsX0_isBelow) := goodIn_app (goodIn_of _ (by decide +kernel)) ggX0_find_X0_isBelow
theorem dX0_find_0 : decode cX0_find 0 = .ok (.aload_n 0, 1) := by decide +kernel
theorem dX0_find_1 : decode cX0_find 1 = .ok (.iload_n 1, 1) := by decide +kernel
theorem dX0_find_2 : decode cX0_find 2 = .ok (.invokevirtual 62, 3) := by decide +kernel
theorem dX0_find_5 : decode cX0_find 5 = .ok (.iload_n 2, 1) := by decide +kernel
theorem dX0_find_6 : decode cX0_find 6 = .ok (.bipush 8, 2) := by decide +kernel
theorem dX0_find_8 : decode cX0_find 8 = .ok (.invokestatic 66, 3) := by decide +kernel
theorem dX0_find_11 : decode cX0_find 11 = .ok (.ifCond .eq 32, 3) := by decide +kernel
theorem dX0_find_14 : decode cX0_find 14 = .ok (.iload_n 3, 1) := by decide +kernel
theorem dX0_find_15 : decode cX0_find 15 = .ok (.bipush 6, 2) := by decide +kernel
theorem dX0_find_17 : decode cX0_find 17 = .ok (.invokestatic 66, 3) := by decide +kernel
theorem dX0_find_20 : decode cX0_find 20 = .ok (.ifCond .eq 23, 3) := by decide +kernel
theorem dX0_find_23 : decode cX0_find 23 = .ok (.iload 4, 2) := by decide +kernel
theorem dX0_find_25 : decode cX0_find 25 = .ok (.bipush 20, 2) := by decide +kernel
theorem dX0_find_27 : decode cX0_find 27 = .ok (.invokestatic 66, 3) := by decide +kernel
theorem dX0_find_30 : decode cX0_find 30 = .ok (.ifCond .eq 13, 3) := by decide +kernel
theorem dX0_find_33 : decode cX0_find 33 = .ok (.iload 5, 2) := by decide +kernel
theorem dX0_find_35 : decode cX0_find 35 = .ok (.bipush 10, 2) := by decide +kernel
theorem dX0_find_37 : decode cX0_find 37 = .ok (.invokestatic 66, 3) := by decide +kernel
theorem dX0_find_40 : decode cX0_find 40 = .ok (.ifCond .ne 13, 3) := by decide +kernel
theorem dX0_find_43 : decode cX0_find 43 = .ok (.new 70, 3) := by decide +kernel
theorem dX0_find_46 : decode cX0_find 46 = .ok (.dup, 1) := by decide +kernel
theorem dX0_find_47 : decode cX0_find 47 = .ok (.ldc 72, 2) := by decide +kernel
theorem dX0_find_49 : decode cX0_find 49 = .ok (.invokespecial 74, 3) := by decide +kernel
theorem dX0_find_52 : decode cX0_find 52 = .ok (.athrow, 1) := by decide +kernel
theorem dX0_find_53 : decode cX0_find 53 = .ok (.aload_n 0, 1) := by decide +kernel
theorem dX0_find_54 : decode cX0_find 54 = .ok (.getfield 75, 3) := by decide +kernel
theorem dX0_find_57 : decode cX0_find 57 = .ok (.bipush 36, 2) := by decide +kernel
theorem dX0_find_59 : decode cX0_find 59 = .ok (.if_icmp .lt 13, 3) := by decide +kernel
theorem dX0_find_62 : decode cX0_find 62 = .ok (.new 49, 3) := by decide +kernel
theorem dX0_find_65 : decode cX0_find 65 = .ok (.dup, 1) := by decide +kernel
theorem dX0_find_66 : decode cX0_find 66 = .ok (.ldc 78, 2) := by decide +kernel
theorem dX0_find_68 : decode cX0_find 68 = .ok (.invokespecial 53, 3) := by decide +kernel
theorem dX0_find_71 : decode cX0_find 71 = .ok (.athrow, 1) := by decide +kernel
theorem dX0_find_72 : decode cX0_find 72 = .ok (.aload_n 0, 1) := by decide +kernel
theorem dX0_find_73 : decode cX0_find 73 = .ok (.getfield 75, 3) := by decide +kernel
theorem dX0_find_76 : decode cX0_find 76 = .ok (.istore 6, 2) := by decide +kernel
theorem dX0_find_78 : decode cX0_find 78 = .ok (.aload_n 0, 1) := by decide +kernel
theorem dX0_find_79 : decode cX0_find 79 = .ok (.getfield 9, 3) := by decide +kernel
theorem dX0_find_82 : decode cX0_find 82 = .ok (.iload 6, 2) := by decide +kernel
theorem dX0_find_84 : decode cX0_find 84 = .ok (.iload_n 2, 1) := by decide +kernel
theorem dX0_find_85 : decode cX0_find 85 = .ok (.iastore, 1) := by decide +kernel
theorem dX0_find_86 : decode cX0_find 86 = .ok (.aload_n 0, 1) := by decide +kernel
theorem dX0_find_87 : decode cX0_find 87 = .ok (.getfield 13, 3) := by decide +kernel
theorem dX0_find_90 : decode cX0_find 90 = .ok (.iload 6, 2) := by decide +kernel
theorem dX0_find_92 : decode cX0_find 92 = .ok (.iload_n 3, 1) := by decide +kernel
theorem dX0_find_93 : decode cX0_find 93 = .ok (.iastore, 1) := by decide +kernel
theorem dX0_find_94 : decode cX0_find 94 = .ok (.aload_n 0, 1) := by decide +kernel
theorem dX0_find_95 : decode cX0_find 95 = .ok (.getfield 16, 3) := by decide +kernel
theorem dX0_find_98 : decode cX0_find 98 = .ok (.iload 6, 2) := by decide +kernel
theorem dX0_find_100 : decode cX0_find 100 = .ok (.iload 4, 2) := by decide +kernel
theorem dX0_find_102 : decode cX0_find 102 = .ok (.iastore, 1) := by decide +kernel
theorem dX0_find_103 : decode cX0_find 103 = .ok (.aload_n 0, 1) := by decide +kernel
theorem dX0_find_104 : decode cX0_find 104 = .ok (.getfield 19, 3) := by decide +kernel
theorem dX0_find_107 : decode cX0_find 107 = .ok (.iload 6, 2) := by decide +kernel
theorem dX0_find_109 : decode cX0_find 109 = .ok (.iload 5, 2) := by decide +kernel
theorem dX0_find_111 : decode cX0_find 111 = .ok (.iastore, 1) := by decide +kernel
theorem dX0_find_112 : decode cX0_find 112 = .ok (.aload_n 0, 1) := by decide +kernel
theorem dX0_find_113 : decode cX0_find 113 = .ok (.getfield 22, 3) := by decide +kernel
theorem dX0_find_116 : decode cX0_find 116 = .ok (.iload 6, 2) := by decide +kernel
theorem dX0_find_118 : decode cX0_find 118 = .ok (.iload_n 1, 1) := by decide +kernel
theorem dX0_find_119 : decode cX0_find 119 = .ok (.iastore, 1) := by decide +kernel
theorem dX0_find_120 : decode cX0_find 120 = .ok (.aload_n 0, 1) := by decide +kernel
theorem dX0_find_121 : decode cX0_find 121 = .ok (.getfield 25, 3) := by decide +kernel
theorem dX0_find_124 : decode cX0_find 124 = .ok (.iload 6, 2) := by decide +kernel
theorem dX0_find_126 : decode cX0_find 126 = .ok (.iconst (-1), 1) := by decide +kernel
theorem dX0_find_127 : decode cX0_find 127 = .ok (.iastore, 1) := by decide +kernel
theorem dX0_find_128 : decode cX0_find 128 = .ok (.aload_n 0, 1) := by decide +kernel
theorem dX0_find_129 : decode cX0_find 129 = .ok (.dup, 1) := by decide +kernel
theorem dX0_find_130 : decode cX0_find 130 = .ok (.getfield 75, 3) := by decide +kernel
theorem dX0_find_133 : decode cX0_find 133 = .ok (.iconst 1, 1) := by decide +kernel
theorem dX0_find_134 : decode cX0_find 134 = .ok (.iadd, 1) := by decide +kernel
theorem dX0_find_135 : decode cX0_find 135 = .ok (.putfield 75, 3) := by decide +kernel
theorem dX0_find_138 : decode cX0_find 138 = .ok (.iload 6, 2) := by decide +kernel
theorem dX0_find_140 : decode cX0_find 140 = .ok (.ireturn, 1) := by decide +kernel
set_option maxRecDepth 20000 in
theorem ggX0_like_X0_requireCollector : GoodIn wsX0_like wsX0_requireCollector := goodIn_ca (goodIn_r _ [8, 9, 10, 11, 12, 13, 7, 14, 18, 19, 20, 21, 22, 23, 24, 25, 26, 27, 28, 29, 30, 31, 32, 33, 34] (by decide +kernel) (by decide +kernel)) (goodIn_sub (fun _ h => List.mem_cons_of_mem _ (List.mem_append_right _ h)) (by decide +kernel))
set_option maxRecDepth 20000 in
theorem gX0_like_X0_requireCollector : GoodIn wsX0_like (wsV RX0 62 RX0 yX0_requireCollector wsX0_requireCollector) := goodIn_app (goodIn_of _ (by decide +kernel)) ggX0_like_X0_requireCollector
set_option maxRecDepth 20000 in
theorem ggX0_like_X0_requireSet : GoodIn wsX0_like wsX0_requireSet := goodIn_ca (goodIn_r _ [17, 9, 10, 12, 13, 7, 14] (by decide +kernel) (by decide +kernel)) (goodIn_sub (fun _ h => List.mem_cons_of_mem _ (List.mem_append_right _ h)) (by decide +kernel))
set_option maxRecDepth 20000 in
theorem gX0_like_X0_requireSet : GoodIn wsX0_like (va_wsS RX0 80 yX0_requireSet wsX0_requireSet) := goodIn_app (goodIn_of _ (by decide +kernel)) ggX0_like_X0_requireSet
set_option maxRecDepth 20000 in
theorem ggX0_like_X0_isBelow : GoodIn wsX0_like wsX0_isBelow := goodIn_r _ [14] (by decide +kernel) (by decide +kernel)
set_option maxRecDepth 20000 in
theorem gX0_like_X0_isBelow : GoodIn wsX0_like (va_wsS RX0 66 yX0_isBelow wsX0_isBelow) := goodIn_app (goodIn_of _ (by decide +kernel)) ggX0_like_X0_isBelow
theorem dX0_like_0 : decode cX0_like 0 = .ok (.aload_n 0, 1) := by decide +kernel
theorem dX0_like_1 : decode cX0_like 1 = .ok (.iload_n 1, 1) := by decide +kernel
theorem dX0_like_2 : decode cX0_like 2 = .ok (.invokevirtual 62, 3) := by decide +kernel
theorem dX0_like_5 : decode cX0_like 5 = .ok (.iload_n 2, 1) := by decide +kernel
theorem dX0_like_6 : decode cX0_like 6 = .ok (.invokestatic 80, 3) := by decide +kernel
theorem dX0_like_9 : decode cX0_like 9 = .ok (.iload_n 3, 1) := by decide +kernel
theorem dX0_like_10 : decode cX0_like 10 = .ok (.bipush 6, 2) := by decide +kernel
theorem dX0_like_12 : decode cX0_like 12 = .ok (.invokestatic 66, 3) := by decide +kernel
theorem dX0_like_15 : decode cX0_like 15 = .ok (.ifCond .ne 13, 3) := by decide +kernel
theorem dX0_like_18 : decode cX0_like 18 = .ok (.new 70, 3) := by decide +kernel
theorem dX0_like_21 : decode cX0_like 21 = .ok (.dup, 1) := by decide +kernel
theorem dX0_like_22 : decode cX0_like 22 = .ok (.ldc 83, 2) := by decide +kernel
theorem dX0_like_24 : decode cX0_like 24 = .ok (.invokespecial 74, 3) := by decide +kernel
theorem dX0_like_27 : decode cX0_like 27 = .ok (.athrow, 1) := by decide +kernel
theorem dX0_like_28 : decode cX0_like 28 = .ok (.aload_n 0, 1) := by decide +kernel
theorem dX0_like_29 : decode cX0_like 29 = .ok (.getfield 33, 3) := by decide +kernel
theorem dX0_like_32 : decode cX0_like 32 = .ok (.iload_n 1, 1) := by decide +kernel
theorem dX0_like_33 : decode cX0_like 33 = .ok (.aaload, 1) := by decide +kernel
theorem dX0_like_34 : decode cX0_like 34 = .ok (.iload_n 2, 1) := by decide +kernel
theorem dX0_like_35 : decode cX0_like 35 = .ok (.iaload, 1) := by decide +kernel
theorem dX0_like_36 : decode cX0_like 36 = .ok (.istore 4, 2) := by decide +kernel
theorem dX0_like_38 : decode cX0_like 38 = .ok (.aload_n 0, 1) := by decide +kernel
theorem dX0_like_39 : decode cX0_like 39 = .ok (.getfield 33, 3) := by decide +kernel
theorem dX0_like_42 : decode cX0_like 42 = .ok (.iload_n 1, 1) := by decide +kernel
theorem dX0_like_43 : decode cX0_like 43 = .ok (.aaload, 1) := by decide +kernel
theorem dX0_like_44 : decode cX0_like 44 = .ok (.iload_n 2, 1) := by decide +kernel
theorem dX0_like_45 : decode cX0_like 45 = .ok (.iload_n 3, 1) := by decide +kernel
theorem dX0_like_46 : decode cX0_like 46 = .ok (.iastore, 1) := by decide +kernel
theorem dX0_like_47 : decode cX0_like 47 = .ok (.iload 4, 2) := by decide +kernel
theorem dX0_like_49 : decode cX0_like 49 = .ok (.ireturn, 1) := by decide +kernel
set_option maxRecDepth 20000 in
theorem ggX0_collector_X0_requireCollector : GoodIn wsX0_collector wsX0_requireCollector := goodIn_ca (goodIn_r _ [6, 7, 8, 9, 10, 11, 5, 12, 90, 91, 92, 93, 94, 95, 96, 97, 98, 99, 100, 101, 102, 103, 104, 105, 106] (by decide +kernel) (by decide +kernel)) (goodIn_sub (fun _ h => List.mem_cons_of_mem _ (List.mem_append_right _ h)) (by decide +kernel))
set_option maxRecDepth 20000 in
theorem gX0_collector_X0_requireCollector : GoodIn wsX0_collector (wsV RX0 62 RX0 yX0_requireCollector wsX0_requireCollector) := goodIn_app (goodIn_of _ (by decide +kernel)) ggX0_collector_X0_requireCollector
set_option maxRecDepth 20000 in
theorem ggX0_collector_X0_requireRow : GoodIn wsX0_collector wsX0_requireRow := goodIn_ca (goodIn_r _ [15, 7, 8, 10, 11, 5, 12] (by decide +kernel) (by decide +kernel)) (goodIn_sub (fun _ h => List.mem_cons_of_mem _ (List.mem_append_right _ h)) (by decide +kernel))
set_option maxRecDepth 20000 in
theorem gX0_collector_X0_requireRow : GoodIn wsX0_collector (va_wsS RX0 85 yX0_requireRow wsX0_requireRow) := goodIn_app (goodIn_of _ (by decide +kernel)) ggX0_collector_X0_requireRow
set_option maxRecDepth 20000 in
theorem ggX0_collector_X0_thimblesOf : GoodIn wsX0_collector wsX0_thimblesOf := goodIn_r _ [19, 20, 21, 90, 91, 92, 93, 94, 95, 96, 97, 98, 99, 100, 101, 102, 103, 104, 105, 106] (by decide +kernel) (by decide +kernel)
set_option maxRecDepth 20000 in
theorem gX0_collector_X0_thimblesOf : GoodIn wsX0_collector (wsV RX0 89 RX0 yX0_thimblesOf wsX0_thimblesOf) := goodIn_app (goodIn_of _ (by decide +kernel)) ggX0_collector_X0_thimblesOf
set_option maxRecDepth 20000 in
theorem ggX0_collector_X0_thimblesLentBy : GoodIn wsX0_collector wsX0_thimblesLentBy := goodIn_r _ [25, 20, 21, 26, 27, 28, 5, 29, 30, 90, 91, 92, 93, 94, 95, 96, 97, 98, 99, 100, 101, 102, 103, 104, 105, 106] (by decide +kernel) (by decide +kernel)
set_option maxRecDepth 20000 in
theorem gX0_collector_X0_thimblesLentBy : GoodIn wsX0_collector (wsV RX0 93 RX0 yX0_thimblesLentBy wsX0_thimblesLentBy) := goodIn_app (goodIn_of _ (by decide +kernel)) ggX0_collector_X0_thimblesLentBy
set_option maxRecDepth 20000 in
theorem ggX0_collector_X0_differentHallmarks : GoodIn wsX0_collector wsX0_differentHallmarks := goodIn_r _ [34, 35, 36, 37, 38, 5, 39, 40, 41, 42, 43, 44, 20, 21, 45, 46, 47, 48, 49, 50, 51, 52, 53, 54, 55, 56, 57, 58, 59, 60, 61, 62, 63, 90, 91, 92, 93, 94, 95, 96, 97, 98, 99, 100, 101, 102, 103, 104, 105, 106] (by decide +kernel) (by decide +kernel)
set_option maxRecDepth 20000 in
theorem gX0_collector_X0_differentHallmarks : GoodIn wsX0_collector (wsV RX0 96 RX0 yX0_differentHallmarks wsX0_differentHallmarks) := goodIn_app (goodIn_of _ (by decide +kernel)) ggX0_collector_X0_differentHallmarks
set_option maxRecDepth 20000 in
theorem ggX0_collector_X0_worthNow : GoodIn wsX0_collector wsX0_worthNow := goodIn_r _ [67, 36, 37, 38, 5, 39, 40, 41, 42, 43, 44, 35, 20, 21, 45, 46, 47, 48, 49, 50, 51, 52, 53, 54, 55, 56, 68, 69, 70, 71, 72, 57, 58, 59, 60, 61, 62, 63, 73, 74, 75, 76, 77, 78, 79, 80, 90, 91, 92, 93, 94, 95, 96, 97, 98, 99, 100, 101, 102, 103, 104, 105, 106] (by decide +kernel) (by decide +kernel)
set_option maxRecDepth 20000 in
theorem gX0_collector_X0_worthNow : GoodIn wsX0_collector (wsV RX0 99 RX0 yX0_worthNow wsX0_worthNow) := goodIn_app (goodIn_of _ (by decide +kernel)) ggX0_collector_X0_worthNow
set_option maxRecDepth 20000 in
theorem ggX0_collector_X0_wholeSets : GoodIn wsX0_collector wsX0_wholeSets := goodIn_r _ [84, 36, 37, 38, 5, 39, 40, 41, 42, 43, 44, 35, 20, 21, 45, 46, 47, 48, 49, 50, 51, 52, 53, 54, 55, 56, 73, 74, 75, 76, 90, 91, 92, 93, 94, 95, 96, 97, 98, 99, 100, 101, 102, 103, 104, 105, 106] (by decide +kernel) (by decide +kernel)
set_option maxRecDepth 20000 in
theorem gX0_collector_X0_wholeSets : GoodIn wsX0_collector (wsV RX0 102 RX0 yX0_wholeSets wsX0_wholeSets) := goodIn_app (goodIn_of _ (by decide +kernel)) ggX0_collector_X0_wholeSets
set_option maxRecDepth 20000 in
theorem ggX0_collector_X0_allGrudgesOf : GoodIn wsX0_collector wsX0_allGrudgesOf := goodIn_r _ [88, 9, 89, 90, 91, 92, 93, 94, 95, 96, 97, 98, 99, 100, 101, 102, 103, 104, 105, 106] (by decide +kernel) (by decide +kernel)
set_option maxRecDepth 20000 in
theorem gX0_collector_X0_allGrudgesOf : GoodIn wsX0_collector (wsV RX0 105 RX0 yX0_allGrudgesOf wsX0_allGrudgesOf) := goodIn_app (goodIn_of _ (by decide +kernel)) ggX0_collector_X0_allGrudgesOf
theorem dX0_collector_0 : decode cX0_collector 0 = .ok (.aload_n 0, 1) := by decide +kernel
theorem dX0_collector_1 : decode cX0_collector 1 = .ok (.iload_n 1, 1) := by decide +kernel
theorem dX0_collector_2 : decode cX0_collector 2 = .ok (.invokevirtual 62, 3) := by decide +kernel
theorem dX0_collector_5 : decode cX0_collector 5 = .ok (.iload_n 2, 1) := by decide +kernel
theorem dX0_collector_6 : decode cX0_collector 6 = .ok (.bipush 7, 2) := by decide +kernel
theorem dX0_collector_8 : decode cX0_collector 8 = .ok (.invokestatic 85, 3) := by decide +kernel
theorem dX0_collector_11 : decode cX0_collector 11 = .ok (.iload_n 2, 1) := by decide +kernel
theorem dX0_collector_12 : decode cX0_collector 12 = .ok (.tableswitch 76 0 5 #[40, 46, 52, 58, 64, 70], 40) := by decide +kernel
theorem dX0_collector_52 : decode cX0_collector 52 = .ok (.aload_n 0, 1) := by decide +kernel
theorem dX0_collector_53 : decode cX0_collector 53 = .ok (.iload_n 1, 1) := by decide +kernel
theorem dX0_collector_54 : decode cX0_collector 54 = .ok (.invokevirtual 89, 3) := by decide +kernel
theorem dX0_collector_57 : decode cX0_collector 57 = .ok (.ireturn, 1) := by decide +kernel
theorem dX0_collector_58 : decode cX0_collector 58 = .ok (.aload_n 0, 1) := by decide +kernel
theorem dX0_collector_59 : decode cX0_collector 59 = .ok (.iload_n 1, 1) := by decide +kernel
theorem dX0_collector_60 : decode cX0_collector 60 = .ok (.invokevirtual 93, 3) := by decide +kernel
theorem dX0_collector_63 : decode cX0_collector 63 = .ok (.ireturn, 1) := by decide +kernel
theorem dX0_collector_64 : decode cX0_collector 64 = .ok (.aload_n 0, 1) := by decide +kernel
theorem dX0_collector_65 : decode cX0_collector 65 = .ok (.iload_n 1, 1) := by decide +kernel
theorem dX0_collector_66 : decode cX0_collector 66 = .ok (.invokevirtual 96, 3) := by decide +kernel
theorem dX0_collector_69 : decode cX0_collector 69 = .ok (.ireturn, 1) := by decide +kernel
theorem dX0_collector_70 : decode cX0_collector 70 = .ok (.aload_n 0, 1) := by decide +kernel
theorem dX0_collector_71 : decode cX0_collector 71 = .ok (.iload_n 1, 1) := by decide +kernel
theorem dX0_collector_72 : decode cX0_collector 72 = .ok (.invokevirtual 99, 3) := by decide +kernel
theorem dX0_collector_75 : decode cX0_collector 75 = .ok (.ireturn, 1) := by decide +kernel
theorem dX0_collector_76 : decode cX0_collector 76 = .ok (.aload_n 0, 1) := by decide +kernel
theorem dX0_collector_77 : decode cX0_collector 77 = .ok (.iload_n 1, 1) := by decide +kernel
theorem dX0_collector_78 : decode cX0_collector 78 = .ok (.invokevirtual 102, 3) := by decide +kernel
theorem dX0_collector_81 : decode cX0_collector 81 = .ok (.ireturn, 1) := by decide +kernel
theorem dX0_collector_82 : decode cX0_collector 82 = .ok (.aload_n 0, 1) := by decide +kernel
theorem dX0_collector_83 : decode cX0_collector 83 = .ok (.iload_n 1, 1) := by decide +kernel
theorem dX0_collector_84 : decode cX0_collector 84 = .ok (.invokevirtual 105, 3) := by decide +kernel
theorem dX0_collector_87 : decode cX0_collector 87 = .ok (.ireturn, 1) := by decide +kernel
theorem dX0_collector_88 : decode cX0_collector 88 = .ok (.aload_n 0, 1) := by decide +kernel
theorem dX0_collector_89 : decode cX0_collector 89 = .ok (.getfield 39, 3) := by decide +kernel
theorem dX0_collector_92 : decode cX0_collector 92 = .ok (.iload_n 1, 1) := by decide +kernel
theorem dX0_collector_93 : decode cX0_collector 93 = .ok (.iaload, 1) := by decide +kernel
theorem dX0_collector_94 : decode cX0_collector 94 = .ok (.ireturn, 1) := by decide +kernel
set_option maxRecDepth 20000 in
theorem ggX0_grudge_X0_requireCollector : GoodIn wsX0_grudge wsX0_requireCollector := goodIn_ca (goodIn_r _ [6, 7, 8, 9, 10, 11, 5, 12, 13, 14, 15, 16, 17, 18, 19, 20, 21, 22, 23, 24, 25, 26, 27, 28, 29] (by decide +kernel) (by decide +kernel)) (goodIn_sub (fun _ h => List.mem_cons_of_mem _ (List.mem_append_right _ h)) (by decide +kernel))
set_option maxRecDepth 20000 in
theorem gX0_grudge_X0_requireCollector : GoodIn wsX0_grudge (wsV RX0 62 RX0 yX0_requireCollector wsX0_requireCollector) := goodIn_app (goodIn_of _ (by decide +kernel)) ggX0_grudge_X0_requireCollector
theorem dX0_grudge_0 : decode cX0_grudge 0 = .ok (.aload_n 0, 1) := by decide +kernel
theorem dX0_grudge_1 : decode cX0_grudge 1 = .ok (.iload_n 1, 1) := by decide +kernel
theorem dX0_grudge_2 : decode cX0_grudge 2 = .ok (.invokevirtual 62, 3) := by decide +kernel
theorem dX0_grudge_5 : decode cX0_grudge 5 = .ok (.aload_n 0, 1) := by decide +kernel
theorem dX0_grudge_6 : decode cX0_grudge 6 = .ok (.iload_n 2, 1) := by decide +kernel
theorem dX0_grudge_7 : decode cX0_grudge 7 = .ok (.invokevirtual 62, 3) := by decide +kernel
theorem dX0_grudge_10 : decode cX0_grudge 10 = .ok (.aload_n 0, 1) := by decide +kernel
theorem dX0_grudge_11 : decode cX0_grudge 11 = .ok (.getfield 36, 3) := by decide +kernel
theorem dX0_grudge_14 : decode cX0_grudge 14 = .ok (.iload_n 1, 1) := by decide +kernel
theorem dX0_grudge_15 : decode cX0_grudge 15 = .ok (.aaload, 1) := by decide +kernel
theorem dX0_grudge_16 : decode cX0_grudge 16 = .ok (.iload_n 2, 1) := by decide +kernel
theorem dX0_grudge_17 : decode cX0_grudge 17 = .ok (.iaload, 1) := by decide +kernel
theorem dX0_grudge_18 : decode cX0_grudge 18 = .ok (.ireturn, 1) := by decide +kernel
set_option maxRecDepth 20000 in
theorem ggX0_thimble_X0_requireThimble : GoodIn wsX0_thimble wsX0_requireThimble := goodIn_ca (goodIn_r _ [11, 12, 13, 14, 15, 16, 10, 17, 21, 22, 23, 24, 25, 26, 27, 28, 29, 30, 31, 32, 33, 34, 35, 36, 37] (by decide +kernel) (by decide +kernel)) (goodIn_sub (fun _ h => List.mem_cons_of_mem _ (List.mem_append_right _ h)) (by decide +kernel))
set_option maxRecDepth 20000 in
theorem gX0_thimble_X0_requireThimble : GoodIn wsX0_thimble (wsV RX0 108 RX0 yX0_requireThimble wsX0_requireThimble) := goodIn_app (goodIn_of _ (by decide +kernel)) ggX0_thimble_X0_requireThimble
set_option maxRecDepth 20000 in
theorem ggX0_thimble_X0_requireRow : GoodIn wsX0_thimble wsX0_requireRow := goodIn_ca (goodIn_r _ [20, 12, 13, 15, 16, 10, 17] (by decide +kernel) (by decide +kernel)) (goodIn_sub (fun _ h => List.mem_cons_of_mem _ (List.mem_append_right _ h)) (by decide +kernel))
set_option maxRecDepth 20000 in
theorem gX0_thimble_X0_requireRow : GoodIn wsX0_thimble (va_wsS RX0 85 yX0_requireRow wsX0_requireRow) := goodIn_app (goodIn_of _ (by decide +kernel)) ggX0_thimble_X0_requireRow
theorem dX0_thimble_0 : decode cX0_thimble 0 = .ok (.aload_n 0, 1) := by decide +kernel
theorem dX0_thimble_1 : decode cX0_thimble 1 = .ok (.iload_n 1, 1) := by decide +kernel
theorem dX0_thimble_2 : decode cX0_thimble 2 = .ok (.invokevirtual 108, 3) := by decide +kernel
theorem dX0_thimble_5 : decode cX0_thimble 5 = .ok (.iload_n 2, 1) := by decide +kernel
theorem dX0_thimble_6 : decode cX0_thimble 6 = .ok (.bipush 6, 2) := by decide +kernel
theorem dX0_thimble_8 : decode cX0_thimble 8 = .ok (.invokestatic 85, 3) := by decide +kernel
theorem dX0_thimble_11 : decode cX0_thimble 11 = .ok (.iload_n 2, 1) := by decide +kernel
theorem dX0_thimble_12 : decode cX0_thimble 12 = .ok (.tableswitch 71 0 4 #[36, 43, 50, 57, 64], 36) := by decide +kernel
theorem dX0_thimble_48 : decode cX0_thimble 48 = .ok (.aload_n 0, 1) := by decide +kernel
theorem dX0_thimble_49 : decode cX0_thimble 49 = .ok (.getfield 9, 3) := by decide +kernel
theorem dX0_thimble_52 : decode cX0_thimble 52 = .ok (.iload_n 1, 1) := by decide +kernel
theorem dX0_thimble_53 : decode cX0_thimble 53 = .ok (.iaload, 1) := by decide +kernel
theorem dX0_thimble_54 : decode cX0_thimble 54 = .ok (.ireturn, 1) := by decide +kernel
theorem dX0_thimble_55 : decode cX0_thimble 55 = .ok (.aload_n 0, 1) := by decide +kernel
theorem dX0_thimble_56 : decode cX0_thimble 56 = .ok (.getfield 13, 3) := by decide +kernel
theorem dX0_thimble_59 : decode cX0_thimble 59 = .ok (.iload_n 1, 1) := by decide +kernel
theorem dX0_thimble_60 : decode cX0_thimble 60 = .ok (.iaload, 1) := by decide +kernel
theorem dX0_thimble_61 : decode cX0_thimble 61 = .ok (.ireturn, 1) := by decide +kernel
theorem dX0_thimble_62 : decode cX0_thimble 62 = .ok (.aload_n 0, 1) := by decide +kernel
theorem dX0_thimble_63 : decode cX0_thimble 63 = .ok (.getfield 16, 3) := by decide +kernel
theorem dX0_thimble_66 : decode cX0_thimble 66 = .ok (.iload_n 1, 1) := by decide +kernel
theorem dX0_thimble_67 : decode cX0_thimble 67 = .ok (.iaload, 1) := by decide +kernel
theorem dX0_thimble_68 : decode cX0_thimble 68 = .ok (.ireturn, 1) := by decide +kernel
theorem dX0_thimble_69 : decode cX0_thimble 69 = .ok (.aload_n 0, 1) := by decide +kernel
theorem dX0_thimble_70 : decode cX0_thimble 70 = .ok (.getfield 19, 3) := by decide +kernel
theorem dX0_thimble_73 : decode cX0_thimble 73 = .ok (.iload_n 1, 1) := by decide +kernel
theorem dX0_thimble_74 : decode cX0_thimble 74 = .ok (.iaload, 1) := by decide +kernel
theorem dX0_thimble_75 : decode cX0_thimble 75 = .ok (.ireturn, 1) := by decide +kernel
theorem dX0_thimble_76 : decode cX0_thimble 76 = .ok (.aload_n 0, 1) := by decide +kernel
theorem dX0_thimble_77 : decode cX0_thimble 77 = .ok (.getfield 22, 3) := by decide +kernel
theorem dX0_thimble_80 : decode cX0_thimble 80 = .ok (.iload_n 1, 1) := by decide +kernel
theorem dX0_thimble_81 : decode cX0_thimble 81 = .ok (.iaload, 1) := by decide +kernel
theorem dX0_thimble_82 : decode cX0_thimble 82 = .ok (.ireturn, 1) := by decide +kernel
theorem dX0_thimble_83 : decode cX0_thimble 83 = .ok (.aload_n 0, 1) := by decide +kernel
theorem dX0_thimble_84 : decode cX0_thimble 84 = .ok (.getfield 25, 3) := by decide +kernel
theorem dX0_thimble_87 : decode cX0_thimble 87 = .ok (.iload_n 1, 1) := by decide +kernel
theorem dX0_thimble_88 : decode cX0_thimble 88 = .ok (.iaload, 1) := by decide +kernel
theorem dX0_thimble_89 : decode cX0_thimble 89 = .ok (.ireturn, 1) := by decide +kernel
set_option maxRecDepth 20000 in
theorem ggX0_gains_X0_requireThimble : GoodIn wsX0_gains wsX0_requireThimble := goodIn_ca (goodIn_r _ [5, 6, 7, 8, 9, 10, 4, 11, 73, 74, 75, 76, 77, 78, 79, 80, 81, 82, 83, 84, 85, 86, 87, 88, 89] (by decide +kernel) (by decide +kernel)) (goodIn_sub (fun _ h => List.mem_cons_of_mem _ (List.mem_append_left _ (List.mem_append_right _ h))) (by decide +kernel))
set_option maxRecDepth 20000 in
theorem gX0_gains_X0_requireThimble : GoodIn wsX0_gains (wsV RX0 108 RX0 yX0_requireThimble wsX0_requireThimble) := goodIn_app (goodIn_of _ (by decide +kernel)) ggX0_gains_X0_requireThimble
set_option maxRecDepth 20000 in
theorem ggX0_gains_X0_requireTwoOwners : GoodIn wsX0_gains wsX0_requireTwoOwners := goodIn_ca (goodIn_r _ [15, 16, 17, 18, 73, 74, 75, 76, 77, 78, 79, 80, 81, 82, 83, 84, 85, 86, 87, 88, 89] (by decide +kernel) (by decide +kernel)) (goodIn_sub (fun _ h => List.mem_cons_of_mem _ (List.mem_append_right _ h)) (by decide +kernel))
set_option maxRecDepth 20000 in
theorem gX0_gains_X0_requireTwoOwners : GoodIn wsX0_gains (wsV RX0 111 RX0 yX0_requireTwoOwners wsX0_requireTwoOwners) := goodIn_app (goodIn_of _ (by decide +kernel)) ggX0_gains_X0_requireTwoOwners
set_option maxRecDepth 20000 in
theorem ggX0_gains_X0_gainOfOwner : GoodIn wsX0_gains wsX0_gainOfOwner := goodIn_r _ [22, 18, 23, 24, 25, 4, 26, 27, 28, 29, 30, 31, 32, 8, 33, 34, 35, 36, 37, 38, 39, 40, 41, 42, 43, 44, 45, 46, 47, 48, 49, 50, 51, 52, 53, 54, 55, 56, 57, 58, 59, 60, 61, 62, 63, 64, 65, 66, 67, 68, 69, 70, 71, 72, 73, 74, 75, 76, 77, 78, 79, 80, 81, 82, 83, 84, 85, 86, 87, 88, 89] (by decide +kernel) (by decide +kernel)
set_option maxRecDepth 20000 in
theorem gX0_gains_X0_gainOfOwner : GoodIn wsX0_gains (wsV RX0 114 RX0 yX0_gainOfOwner wsX0_gainOfOwner) := goodIn_app (goodIn_of _ (by decide +kernel)) ggX0_gains_X0_gainOfOwner
theorem dX0_gains_0 : decode cX0_gains 0 = .ok (.aload_n 0, 1) := by decide +kernel
theorem dX0_gains_1 : decode cX0_gains 1 = .ok (.iload_n 1, 1) := by decide +kernel
theorem dX0_gains_2 : decode cX0_gains 2 = .ok (.invokevirtual 108, 3) := by decide +kernel
theorem dX0_gains_5 : decode cX0_gains 5 = .ok (.aload_n 0, 1) := by decide +kernel
theorem dX0_gains_6 : decode cX0_gains 6 = .ok (.iload_n 2, 1) := by decide +kernel
theorem dX0_gains_7 : decode cX0_gains 7 = .ok (.invokevirtual 108, 3) := by decide +kernel
theorem dX0_gains_10 : decode cX0_gains 10 = .ok (.aload_n 0, 1) := by decide +kernel
theorem dX0_gains_11 : decode cX0_gains 11 = .ok (.iload_n 1, 1) := by decide +kernel
theorem dX0_gains_12 : decode cX0_gains 12 = .ok (.iload_n 2, 1) := by decide +kernel
theorem dX0_gains_13 : decode cX0_gains 13 = .ok (.invokevirtual 111, 3) := by decide +kernel
theorem dX0_gains_16 : decode cX0_gains 16 = .ok (.aload_n 0, 1) := by decide +kernel
theorem dX0_gains_17 : decode cX0_gains 17 = .ok (.iload_n 1, 1) := by decide +kernel
theorem dX0_gains_18 : decode cX0_gains 18 = .ok (.iload_n 2, 1) := by decide +kernel
theorem dX0_gains_19 : decode cX0_gains 19 = .ok (.invokevirtual 114, 3) := by decide +kernel
theorem dX0_gains_22 : decode cX0_gains 22 = .ok (.ireturn, 1) := by decide +kernel
set_option maxRecDepth 20000 in
theorem ggX0_swap_X0_requireThimble : GoodIn wsX0_swap wsX0_requireThimble := goodIn_ca (goodIn_r _ [7, 8, 9, 10, 11, 12, 6, 13, 107, 108, 109, 110, 111, 112, 113, 114, 115, 116, 117, 118, 119, 120, 121, 122, 123] (by decide +kernel) (by decide +kernel)) (goodIn_sub (fun _ h => List.mem_cons_of_mem _ (List.mem_append_left _ (List.mem_append_left _ (List.mem_append_right _ h)))) (by decide +kernel))
set_option maxRecDepth 20000 in
theorem gX0_swap_X0_requireThimble : GoodIn wsX0_swap (wsV RX0 108 RX0 yX0_requireThimble wsX0_requireThimble) := goodIn_app (goodIn_of _ (by decide +kernel)) ggX0_swap_X0_requireThimble
set_option maxRecDepth 20000 in
theorem ggX0_swap_X0_requireTwoOwners : GoodIn wsX0_swap wsX0_requireTwoOwners := goodIn_ca (goodIn_r _ [17, 18, 19, 1, 107, 108, 109, 110, 111, 112, 113, 114, 115, 116, 117, 118, 119, 120, 121, 122, 123] (by decide +kernel) (by decide +kernel)) (goodIn_sub (fun _ h => List.mem_cons_of_mem _ (List.mem_append_left _ (List.mem_append_right _ h))) (by decide +kernel))
set_option maxRecDepth 20000 in
theorem gX0_swap_X0_requireTwoOwners : GoodIn wsX0_swap (wsV RX0 111 RX0 yX0_requireTwoOwners wsX0_requireTwoOwners) := goodIn_app (goodIn_of _ (by decide +kernel)) ggX0_swap_X0_requireTwoOwners
set_option maxRecDepth 20000 in
theorem ggX0_swap_X0_requireAtHome : GoodIn wsX0_swap wsX0_requireAtHome := goodIn_ca (goodIn_r _ [23, 24, 25, 26, 27, 28, 6, 29, 30, 107, 108, 109, 110, 111, 112, 113, 114, 115, 116, 117, 118, 119, 120, 121, 122, 123] (by decide +kernel) (by decide +kernel)) (goodIn_sub (fun _ h => List.mem_cons_of_mem _ (List.mem_append_right _ h)) (by decide +kernel))
set_option maxRecDepth 20000 in
theorem gX0_swap_X0_requireAtHome : GoodIn wsX0_swap (wsV RX0 118 RX0 yX0_requireAtHome wsX0_requireAtHome) := goodIn_app (goodIn_of _ (by decide +kernel)) ggX0_swap_X0_requireAtHome
set_option maxRecDepth 20000 in
theorem ggX0_swap_X0_gainOfOwner : GoodIn wsX0_swap wsX0_gainOfOwner := goodIn_r _ [34, 1, 35, 36, 37, 6, 38, 39, 40, 41, 42, 43, 44, 10, 45, 46, 47, 48, 49, 50, 51, 52, 53, 54, 55, 56, 57, 58, 59, 60, 61, 62, 63, 64, 65, 66, 67, 68, 69, 70, 71, 72, 73, 74, 75, 76, 77, 78, 79, 80, 81, 82, 83, 84, 107, 108, 109, 110, 111, 112, 113, 114, 115, 116, 117, 118, 119, 120, 121, 122, 123] (by decide +kernel) (by decide +kernel)
set_option maxRecDepth 20000 in
theorem gX0_swap_X0_gainOfOwner : GoodIn wsX0_swap (wsV RX0 114 RX0 yX0_gainOfOwner wsX0_gainOfOwner) := goodIn_app (goodIn_of _ (by decide +kernel)) ggX0_swap_X0_gainOfOwner
set_option maxRecDepth 20000 in
theorem ggX0_swap_X0_isEnough : GoodIn wsX0_swap wsX0_isEnough := goodIn_r _ [88, 89, 107, 108, 109, 110, 111, 112, 113, 114, 115, 116, 117, 118, 119, 120, 121, 122, 123] (by decide +kernel) (by decide +kernel)
set_option maxRecDepth 20000 in
theorem gX0_swap_X0_isEnough : GoodIn wsX0_swap (wsV RX0 121 RX0 yX0_isEnough wsX0_isEnough) := goodIn_app (goodIn_of _ (by decide +kernel)) ggX0_swap_X0_isEnough
set_option maxRecDepth 20000 in
theorem ggX0_swap_X0_changeHands : GoodIn wsX0_swap wsX0_changeHands := goodIn_r _ [93, 1, 94, 95, 96, 97, 98, 6, 99, 89, 48, 49, 50, 51, 107, 108, 109, 110, 111, 112, 113, 114, 115, 116, 117, 118, 119, 120, 121, 122, 123] (by decide +kernel) (by decide +kernel)
set_option maxRecDepth 20000 in
theorem gX0_swap_X0_changeHands : GoodIn wsX0_swap (wsV RX0 125 RX0 yX0_changeHands wsX0_changeHands) := goodIn_app (goodIn_of _ (by decide +kernel)) ggX0_swap_X0_changeHands
set_option maxRecDepth 20000 in
theorem ggX0_swap_X0_resent : GoodIn wsX0_swap wsX0_resent := goodIn_r _ [103, 89, 104, 105, 50, 106, 107, 108, 109, 110, 111, 112, 113, 114, 115, 116, 117, 118, 119, 120, 121, 122, 123] (by decide +kernel) (by decide +kernel)
set_option maxRecDepth 20000 in
theorem gX0_swap_X0_resent : GoodIn wsX0_swap (wsV RX0 131 RX0 yX0_resent wsX0_resent) := goodIn_app (goodIn_of _ (by decide +kernel)) ggX0_swap_X0_resent
theorem dX0_swap_0 : decode cX0_swap 0 = .ok (.aload_n 0, 1) := by decide +kernel
theorem dX0_swap_1 : decode cX0_swap 1 = .ok (.iload_n 1, 1) := by decide +kernel
theorem dX0_swap_2 : decode cX0_swap 2 = .ok (.invokevirtual 108, 3) := by decide +kernel
theorem dX0_swap_5 : decode cX0_swap 5 = .ok (.aload_n 0, 1) := by decide +kernel
theorem dX0_swap_6 : decode cX0_swap 6 = .ok (.iload_n 2, 1) := by decide +kernel
theorem dX0_swap_7 : decode cX0_swap 7 = .ok (.invokevirtual 108, 3) := by decide +kernel
theorem dX0_swap_10 : decode cX0_swap 10 = .ok (.aload_n 0, 1) := by decide +kernel
theorem dX0_swap_11 : decode cX0_swap 11 = .ok (.iload_n 1, 1) := by decide +kernel
theorem dX0_swap_12 : decode cX0_swap 12 = .ok (.iload_n 2, 1) := by decide +kernel
theorem dX0_swap_13 : decode cX0_swap 13 = .ok (.invokevirtual 111, 3) := by decide +kernel
theorem dX0_swap_16 : decode cX0_swap 16 = .ok (.aload_n 0, 1) := by decide +kernel
theorem dX0_swap_17 : decode cX0_swap 17 = .ok (.iload_n 1, 1) := by decide +kernel
theorem dX0_swap_18 : decode cX0_swap 18 = .ok (.invokevirtual 118, 3) := by decide +kernel
theorem dX0_swap_21 : decode cX0_swap 21 = .ok (.aload_n 0, 1) := by decide +kernel
theorem dX0_swap_22 : decode cX0_swap 22 = .ok (.iload_n 2, 1) := by decide +kernel
theorem dX0_swap_23 : decode cX0_swap 23 = .ok (.invokevirtual 118, 3) := by decide +kernel
theorem dX0_swap_26 : decode cX0_swap 26 = .ok (.aload_n 0, 1) := by decide +kernel
theorem dX0_swap_27 : decode cX0_swap 27 = .ok (.getfield 22, 3) := by decide +kernel
theorem dX0_swap_30 : decode cX0_swap 30 = .ok (.iload_n 1, 1) := by decide +kernel
theorem dX0_swap_31 : decode cX0_swap 31 = .ok (.iaload, 1) := by decide +kernel
theorem dX0_swap_32 : decode cX0_swap 32 = .ok (.istore_n 3, 1) := by decide +kernel
theorem dX0_swap_33 : decode cX0_swap 33 = .ok (.aload_n 0, 1) := by decide +kernel
theorem dX0_swap_34 : decode cX0_swap 34 = .ok (.getfield 22, 3) := by decide +kernel
theorem dX0_swap_37 : decode cX0_swap 37 = .ok (.iload_n 2, 1) := by decide +kernel
theorem dX0_swap_38 : decode cX0_swap 38 = .ok (.iaload, 1) := by decide +kernel
theorem dX0_swap_39 : decode cX0_swap 39 = .ok (.istore 4, 2) := by decide +kernel
theorem dX0_swap_41 : decode cX0_swap 41 = .ok (.aload_n 0, 1) := by decide +kernel
theorem dX0_swap_42 : decode cX0_swap 42 = .ok (.aload_n 0, 1) := by decide +kernel
theorem dX0_swap_43 : decode cX0_swap 43 = .ok (.iload_n 1, 1) := by decide +kernel
theorem dX0_swap_44 : decode cX0_swap 44 = .ok (.iload_n 2, 1) := by decide +kernel
theorem dX0_swap_45 : decode cX0_swap 45 = .ok (.invokevirtual 114, 3) := by decide +kernel
theorem dX0_swap_48 : decode cX0_swap 48 = .ok (.iload_n 3, 1) := by decide +kernel
theorem dX0_swap_49 : decode cX0_swap 49 = .ok (.iload 4, 2) := by decide +kernel
theorem dX0_swap_51 : decode cX0_swap 51 = .ok (.invokevirtual 121, 3) := by decide +kernel
theorem dX0_swap_54 : decode cX0_swap 54 = .ok (.istore 5, 2) := by decide +kernel
theorem dX0_swap_56 : decode cX0_swap 56 = .ok (.aload_n 0, 1) := by decide +kernel
theorem dX0_swap_57 : decode cX0_swap 57 = .ok (.aload_n 0, 1) := by decide +kernel
theorem dX0_swap_58 : decode cX0_swap 58 = .ok (.iload_n 2, 1) := by decide +kernel
theorem dX0_swap_59 : decode cX0_swap 59 = .ok (.iload_n 1, 1) := by decide +kernel
theorem dX0_swap_60 : decode cX0_swap 60 = .ok (.invokevirtual 114, 3) := by decide +kernel
theorem dX0_swap_63 : decode cX0_swap 63 = .ok (.iload 4, 2) := by decide +kernel
theorem dX0_swap_65 : decode cX0_swap 65 = .ok (.iload_n 3, 1) := by decide +kernel
theorem dX0_swap_66 : decode cX0_swap 66 = .ok (.invokevirtual 121, 3) := by decide +kernel
theorem dX0_swap_69 : decode cX0_swap 69 = .ok (.istore 6, 2) := by decide +kernel
theorem dX0_swap_71 : decode cX0_swap 71 = .ok (.iload 5, 2) := by decide +kernel
theorem dX0_swap_73 : decode cX0_swap 73 = .ok (.ifCond .eq 16, 3) := by decide +kernel
theorem dX0_swap_76 : decode cX0_swap 76 = .ok (.iload 6, 2) := by decide +kernel
theorem dX0_swap_78 : decode cX0_swap 78 = .ok (.ifCond .eq 11, 3) := by decide +kernel
theorem dX0_swap_81 : decode cX0_swap 81 = .ok (.aload_n 0, 1) := by decide +kernel
theorem dX0_swap_82 : decode cX0_swap 82 = .ok (.iload_n 1, 1) := by decide +kernel
theorem dX0_swap_83 : decode cX0_swap 83 = .ok (.iload_n 2, 1) := by decide +kernel
theorem dX0_swap_84 : decode cX0_swap 84 = .ok (.invokevirtual 125, 3) := by decide +kernel
theorem dX0_swap_87 : decode cX0_swap 87 = .ok (.iconst 0, 1) := by decide +kernel
theorem dX0_swap_88 : decode cX0_swap 88 = .ok (.ireturn, 1) := by decide +kernel
theorem dX0_swap_89 : decode cX0_swap 89 = .ok (.aload_n 0, 1) := by decide +kernel
theorem dX0_swap_90 : decode cX0_swap 90 = .ok (.dup, 1) := by decide +kernel
theorem dX0_swap_91 : decode cX0_swap 91 = .ok (.getfield 128, 3) := by decide +kernel
theorem dX0_swap_94 : decode cX0_swap 94 = .ok (.iconst 1, 1) := by decide +kernel
theorem dX0_swap_95 : decode cX0_swap 95 = .ok (.iadd, 1) := by decide +kernel
theorem dX0_swap_96 : decode cX0_swap 96 = .ok (.putfield 128, 3) := by decide +kernel
theorem dX0_swap_99 : decode cX0_swap 99 = .ok (.iload 5, 2) := by decide +kernel
theorem dX0_swap_101 : decode cX0_swap 101 = .ok (.ifCond .eq 12, 3) := by decide +kernel
theorem dX0_swap_104 : decode cX0_swap 104 = .ok (.aload_n 0, 1) := by decide +kernel
theorem dX0_swap_105 : decode cX0_swap 105 = .ok (.iload_n 3, 1) := by decide +kernel
theorem dX0_swap_106 : decode cX0_swap 106 = .ok (.iload 4, 2) := by decide +kernel
theorem dX0_swap_108 : decode cX0_swap 108 = .ok (.invokevirtual 131, 3) := by decide +kernel
theorem dX0_swap_111 : decode cX0_swap 111 = .ok (.iconst 2, 1) := by decide +kernel
theorem dX0_swap_112 : decode cX0_swap 112 = .ok (.ireturn, 1) := by decide +kernel
theorem dX0_swap_113 : decode cX0_swap 113 = .ok (.iload 6, 2) := by decide +kernel
theorem dX0_swap_115 : decode cX0_swap 115 = .ok (.ifCond .eq 12, 3) := by decide +kernel
theorem dX0_swap_118 : decode cX0_swap 118 = .ok (.aload_n 0, 1) := by decide +kernel
theorem dX0_swap_119 : decode cX0_swap 119 = .ok (.iload 4, 2) := by decide +kernel
theorem dX0_swap_121 : decode cX0_swap 121 = .ok (.iload_n 3, 1) := by decide +kernel
theorem dX0_swap_122 : decode cX0_swap 122 = .ok (.invokevirtual 131, 3) := by decide +kernel
theorem dX0_swap_125 : decode cX0_swap 125 = .ok (.iconst 1, 1) := by decide +kernel
theorem dX0_swap_126 : decode cX0_swap 126 = .ok (.ireturn, 1) := by decide +kernel
theorem dX0_swap_127 : decode cX0_swap 127 = .ok (.iconst 3, 1) := by decide +kernel
theorem dX0_swap_128 : decode cX0_swap 128 = .ok (.ireturn, 1) := by decide +kernel
set_option maxRecDepth 20000 in
theorem ggX0_best_X0_requireCollector : GoodIn wsX0_best wsX0_requireCollector := goodIn_ca (goodIn_r _ [7, 8, 9, 10, 11, 12, 6, 13, 84, 85, 86, 87, 88, 89, 90, 91, 92, 93, 94, 95, 96, 97, 98, 99, 100] (by decide +kernel) (by decide +kernel)) (goodIn_sub (fun _ h => List.mem_cons_of_mem _ (List.mem_append_right _ h)) (by decide +kernel))
set_option maxRecDepth 20000 in
theorem gX0_best_X0_requireCollector : GoodIn wsX0_best (wsV RX0 62 RX0 yX0_requireCollector wsX0_requireCollector) := goodIn_app (goodIn_of _ (by decide +kernel)) ggX0_best_X0_requireCollector
set_option maxRecDepth 20000 in
theorem ggX0_best_X0_bestSwapOf : GoodIn wsX0_best wsX0_bestSwapOf := goodIn_r _ [17, 18, 19, 20, 21, 6, 22, 23, 24, 25, 26, 27, 28, 29, 30, 31, 32, 33, 34, 35, 36, 37, 38, 39, 40, 41, 42, 43, 44, 45, 46, 47, 48, 49, 50, 51, 52, 53, 54, 55, 56, 57, 58, 59, 60, 61, 62, 63, 64, 65, 66, 67, 68, 69, 70, 71, 72, 73, 74, 75, 76, 77, 78, 79, 80, 81, 82, 83, 84, 85, 86, 87, 88, 89, 90, 91, 92, 93, 94, 95, 96, 97, 98, 99, 100] (by decide +kernel) (by decide +kernel)
set_option maxRecDepth 20000 in
theorem gX0_best_X0_bestSwapOf : GoodIn wsX0_best (wsV RX0 136 RX0 yX0_bestSwapOf wsX0_bestSwapOf) := goodIn_app (goodIn_of _ (by decide +kernel)) ggX0_best_X0_bestSwapOf
theorem dX0_best_0 : decode cX0_best 0 = .ok (.aload_n 0, 1) := by decide +kernel
theorem dX0_best_1 : decode cX0_best 1 = .ok (.iload_n 1, 1) := by decide +kernel
theorem dX0_best_2 : decode cX0_best 2 = .ok (.invokevirtual 62, 3) := by decide +kernel
theorem dX0_best_5 : decode cX0_best 5 = .ok (.aload_n 0, 1) := by decide +kernel
theorem dX0_best_6 : decode cX0_best 6 = .ok (.iload_n 2, 1) := by decide +kernel
theorem dX0_best_7 : decode cX0_best 7 = .ok (.invokevirtual 62, 3) := by decide +kernel
theorem dX0_best_10 : decode cX0_best 10 = .ok (.iload_n 1, 1) := by decide +kernel
theorem dX0_best_11 : decode cX0_best 11 = .ok (.iload_n 2, 1) := by decide +kernel
theorem dX0_best_12 : decode cX0_best 12 = .ok (.if_icmp .ne 13, 3) := by decide +kernel
theorem dX0_best_15 : decode cX0_best 15 = .ok (.new 70, 3) := by decide +kernel
theorem dX0_best_18 : decode cX0_best 18 = .ok (.dup, 1) := by decide +kernel
theorem dX0_best_19 : decode cX0_best 19 = .ok (.ldc 134, 2) := by decide +kernel
theorem dX0_best_21 : decode cX0_best 21 = .ok (.invokespecial 74, 3) := by decide +kernel
theorem dX0_best_24 : decode cX0_best 24 = .ok (.athrow, 1) := by decide +kernel
theorem dX0_best_25 : decode cX0_best 25 = .ok (.aload_n 0, 1) := by decide +kernel
theorem dX0_best_26 : decode cX0_best 26 = .ok (.iload_n 1, 1) := by decide +kernel
theorem dX0_best_27 : decode cX0_best 27 = .ok (.iload_n 2, 1) := by decide +kernel
theorem dX0_best_28 : decode cX0_best 28 = .ok (.invokevirtual 136, 3) := by decide +kernel
theorem dX0_best_31 : decode cX0_best 31 = .ok (.ireturn, 1) := by decide +kernel
set_option maxRecDepth 20000 in
theorem ggX0_ring_X0_requireThimble : GoodIn wsX0_ring wsX0_requireThimble := goodIn_ca (goodIn_r _ [5, 6, 7, 8, 9, 10, 4, 11, 76, 77, 78, 79, 80, 81, 82, 83, 84, 85, 86, 87, 88, 89, 90, 91, 92] (by decide +kernel) (by decide +kernel)) (goodIn_sub (fun _ h => List.mem_cons_of_mem _ (List.mem_append_left _ (List.mem_append_right _ h))) (by decide +kernel))
set_option maxRecDepth 20000 in
theorem gX0_ring_X0_requireThimble : GoodIn wsX0_ring (wsV RX0 108 RX0 yX0_requireThimble wsX0_requireThimble) := goodIn_app (goodIn_of _ (by decide +kernel)) ggX0_ring_X0_requireThimble
set_option maxRecDepth 20000 in
theorem ggX0_ring_X0_requireTwoOwners : GoodIn wsX0_ring wsX0_requireTwoOwners := goodIn_ca (goodIn_r _ [15, 16, 17, 18, 76, 77, 78, 79, 80, 81, 82, 83, 84, 85, 86, 87, 88, 89, 90, 91, 92] (by decide +kernel) (by decide +kernel)) (goodIn_sub (fun _ h => List.mem_cons_of_mem _ (List.mem_append_right _ h)) (by decide +kernel))
set_option maxRecDepth 20000 in
theorem gX0_ring_X0_requireTwoOwners : GoodIn wsX0_ring (wsV RX0 111 RX0 yX0_requireTwoOwners wsX0_requireTwoOwners) := goodIn_app (goodIn_of _ (by decide +kernel)) ggX0_ring_X0_requireTwoOwners
set_option maxRecDepth 20000 in
theorem ggX0_ring_X0_gainOfOwner : GoodIn wsX0_ring wsX0_gainOfOwner := goodIn_r _ [22, 18, 23, 24, 25, 4, 26, 27, 28, 29, 30, 31, 32, 8, 33, 34, 35, 36, 37, 38, 39, 40, 41, 42, 43, 44, 45, 46, 47, 48, 49, 50, 51, 52, 53, 54, 55, 56, 57, 58, 59, 60, 61, 62, 63, 64, 65, 66, 67, 68, 69, 70, 71, 72, 76, 77, 78, 79, 80, 81, 82, 83, 84, 85, 86, 87, 88, 89, 90, 91, 92] (by decide +kernel) (by decide +kernel)
set_option maxRecDepth 20000 in
theorem gX0_ring_X0_gainOfOwner : GoodIn wsX0_ring (wsV RX0 114 RX0 yX0_gainOfOwner wsX0_gainOfOwner) := goodIn_app (goodIn_of _ (by decide +kernel)) ggX0_ring_X0_gainOfOwner
set_option maxRecDepth 20000 in
theorem ggX0_ring_X0_oneIfAbove0 : GoodIn wsX0_ring wsX0_oneIfAbove0 := goodIn_r _ [75] (by decide +kernel) (by decide +kernel)
set_option maxRecDepth 20000 in
theorem gX0_ring_X0_oneIfAbove0 : GoodIn wsX0_ring (va_wsS RX0 139 yX0_oneIfAbove0 wsX0_oneIfAbove0) := goodIn_app (goodIn_of _ (by decide +kernel)) ggX0_ring_X0_oneIfAbove0
theorem dX0_ring_0 : decode cX0_ring 0 = .ok (.aload_n 0, 1) := by decide +kernel
theorem dX0_ring_1 : decode cX0_ring 1 = .ok (.iload_n 1, 1) := by decide +kernel
theorem dX0_ring_2 : decode cX0_ring 2 = .ok (.invokevirtual 108, 3) := by decide +kernel
theorem dX0_ring_5 : decode cX0_ring 5 = .ok (.aload_n 0, 1) := by decide +kernel
theorem dX0_ring_6 : decode cX0_ring 6 = .ok (.iload_n 2, 1) := by decide +kernel
theorem dX0_ring_7 : decode cX0_ring 7 = .ok (.invokevirtual 108, 3) := by decide +kernel
theorem dX0_ring_10 : decode cX0_ring 10 = .ok (.aload_n 0, 1) := by decide +kernel
theorem dX0_ring_11 : decode cX0_ring 11 = .ok (.iload_n 3, 1) := by decide +kernel
theorem dX0_ring_12 : decode cX0_ring 12 = .ok (.invokevirtual 108, 3) := by decide +kernel
theorem dX0_ring_15 : decode cX0_ring 15 = .ok (.aload_n 0, 1) := by decide +kernel
theorem dX0_ring_16 : decode cX0_ring 16 = .ok (.iload_n 1, 1) := by decide +kernel
theorem dX0_ring_17 : decode cX0_ring 17 = .ok (.iload_n 2, 1) := by decide +kernel
theorem dX0_ring_18 : decode cX0_ring 18 = .ok (.invokevirtual 111, 3) := by decide +kernel
theorem dX0_ring_21 : decode cX0_ring 21 = .ok (.aload_n 0, 1) := by decide +kernel
theorem dX0_ring_22 : decode cX0_ring 22 = .ok (.iload_n 2, 1) := by decide +kernel
theorem dX0_ring_23 : decode cX0_ring 23 = .ok (.iload_n 3, 1) := by decide +kernel
theorem dX0_ring_24 : decode cX0_ring 24 = .ok (.invokevirtual 111, 3) := by decide +kernel
theorem dX0_ring_27 : decode cX0_ring 27 = .ok (.aload_n 0, 1) := by decide +kernel
theorem dX0_ring_28 : decode cX0_ring 28 = .ok (.iload_n 3, 1) := by decide +kernel
theorem dX0_ring_29 : decode cX0_ring 29 = .ok (.iload_n 1, 1) := by decide +kernel
theorem dX0_ring_30 : decode cX0_ring 30 = .ok (.invokevirtual 111, 3) := by decide +kernel
theorem dX0_ring_33 : decode cX0_ring 33 = .ok (.aload_n 0, 1) := by decide +kernel
theorem dX0_ring_34 : decode cX0_ring 34 = .ok (.iload_n 1, 1) := by decide +kernel
theorem dX0_ring_35 : decode cX0_ring 35 = .ok (.iload_n 2, 1) := by decide +kernel
theorem dX0_ring_36 : decode cX0_ring 36 = .ok (.invokevirtual 114, 3) := by decide +kernel
theorem dX0_ring_39 : decode cX0_ring 39 = .ok (.invokestatic 139, 3) := by decide +kernel
theorem dX0_ring_42 : decode cX0_ring 42 = .ok (.aload_n 0, 1) := by decide +kernel
theorem dX0_ring_43 : decode cX0_ring 43 = .ok (.iload_n 2, 1) := by decide +kernel
theorem dX0_ring_44 : decode cX0_ring 44 = .ok (.iload_n 3, 1) := by decide +kernel
theorem dX0_ring_45 : decode cX0_ring 45 = .ok (.invokevirtual 114, 3) := by decide +kernel
theorem dX0_ring_48 : decode cX0_ring 48 = .ok (.invokestatic 139, 3) := by decide +kernel
theorem dX0_ring_51 : decode cX0_ring 51 = .ok (.iadd, 1) := by decide +kernel
theorem dX0_ring_52 : decode cX0_ring 52 = .ok (.aload_n 0, 1) := by decide +kernel
theorem dX0_ring_53 : decode cX0_ring 53 = .ok (.iload_n 3, 1) := by decide +kernel
theorem dX0_ring_54 : decode cX0_ring 54 = .ok (.iload_n 1, 1) := by decide +kernel
theorem dX0_ring_55 : decode cX0_ring 55 = .ok (.invokevirtual 114, 3) := by decide +kernel
theorem dX0_ring_58 : decode cX0_ring 58 = .ok (.invokestatic 139, 3) := by decide +kernel
theorem dX0_ring_61 : decode cX0_ring 61 = .ok (.iadd, 1) := by decide +kernel
theorem dX0_ring_62 : decode cX0_ring 62 = .ok (.ireturn, 1) := by decide +kernel
set_option maxRecDepth 20000 in
theorem ggX0_fair_X0_bestSwapOfFirstPair : GoodIn wsX0_fair wsX0_bestSwapOfFirstPair := goodIn_r _ [7, 8, 9, 10, 11, 6, 12, 13, 14, 15, 16, 17, 18, 19, 20, 21, 22, 23, 24, 25, 26, 27, 28, 29, 30, 31, 32, 33, 34, 35, 36, 37, 38, 39, 40, 41, 42, 43, 44, 45, 46, 47, 48, 49, 50, 51, 52, 53, 54, 55, 56, 57, 58, 59, 60, 61, 62, 63, 64, 65, 66, 67, 68, 69, 70, 71, 72, 73, 74, 75, 76, 77, 78, 89, 90, 91, 92, 93, 94, 95, 96, 97, 98, 99, 100, 101, 102, 103, 104, 105] (by decide +kernel) (by decide +kernel)
set_option maxRecDepth 20000 in
theorem gX0_fair_X0_bestSwapOfFirstPair : GoodIn wsX0_fair (wsV RX0 144 RX0 yX0_bestSwapOfFirstPair wsX0_bestSwapOfFirstPair) := goodIn_app (goodIn_of _ (by decide +kernel)) ggX0_fair_X0_bestSwapOfFirstPair
set_option maxRecDepth 20000 in
theorem ggX0_fair_X0_changeHands : GoodIn wsX0_fair wsX0_changeHands := goodIn_r _ [82, 28, 83, 84, 85, 86, 87, 6, 88, 78, 32, 33, 34, 35, 89, 90, 91, 92, 93, 94, 95, 96, 97, 98, 99, 100, 101, 102, 103, 104, 105] (by decide +kernel) (by decide +kernel)
set_option maxRecDepth 20000 in
theorem gX0_fair_X0_changeHands : GoodIn wsX0_fair (wsV RX0 125 RX0 yX0_changeHands wsX0_changeHands) := goodIn_app (goodIn_of _ (by decide +kernel)) ggX0_fair_X0_changeHands
theorem dX0_fair_0 : decode cX0_fair 0 = .ok (.iload_n 1, 1) := by decide +kernel
theorem dX0_fair_1 : decode cX0_fair 1 = .ok (.iconst 1, 1) := by decide +kernel
theorem dX0_fair_2 : decode cX0_fair 2 = .ok (.if_icmp .lt 9, 3) := by decide +kernel
theorem dX0_fair_5 : decode cX0_fair 5 = .ok (.iload_n 1, 1) := by decide +kernel
theorem dX0_fair_6 : decode cX0_fair 6 = .ok (.bipush 10, 2) := by decide +kernel
theorem dX0_fair_8 : decode cX0_fair 8 = .ok (.if_icmp .le 13, 3) := by decide +kernel
theorem dX0_fair_11 : decode cX0_fair 11 = .ok (.new 70, 3) := by decide +kernel
theorem dX0_fair_14 : decode cX0_fair 14 = .ok (.dup, 1) := by decide +kernel
theorem dX0_fair_15 : decode cX0_fair 15 = .ok (.ldc 142, 2) := by decide +kernel
theorem dX0_fair_17 : decode cX0_fair 17 = .ok (.invokespecial 74, 3) := by decide +kernel
theorem dX0_fair_20 : decode cX0_fair 20 = .ok (.athrow, 1) := by decide +kernel
theorem dX0_fair_21 : decode cX0_fair 21 = .ok (.iconst 0, 1) := by decide +kernel
theorem dX0_fair_22 : decode cX0_fair 22 = .ok (.istore_n 2, 1) := by decide +kernel
theorem dX0_fair_23 : decode cX0_fair 23 = .ok (.iload_n 2, 1) := by decide +kernel
theorem dX0_fair_24 : decode cX0_fair 24 = .ok (.iload_n 1, 1) := by decide +kernel
theorem dX0_fair_25 : decode cX0_fair 25 = .ok (.if_icmp .ge 33, 3) := by decide +kernel
theorem dX0_fair_28 : decode cX0_fair 28 = .ok (.aload_n 0, 1) := by decide +kernel
theorem dX0_fair_29 : decode cX0_fair 29 = .ok (.invokevirtual 144, 3) := by decide +kernel
theorem dX0_fair_32 : decode cX0_fair 32 = .ok (.istore_n 3, 1) := by decide +kernel
theorem dX0_fair_33 : decode cX0_fair 33 = .ok (.iload_n 3, 1) := by decide +kernel
theorem dX0_fair_34 : decode cX0_fair 34 = .ok (.iconst (-1), 1) := by decide +kernel
theorem dX0_fair_35 : decode cX0_fair 35 = .ok (.if_icmp .ne 5, 3) := by decide +kernel
theorem dX0_fair_38 : decode cX0_fair 38 = .ok (.iload_n 2, 1) := by decide +kernel
theorem dX0_fair_39 : decode cX0_fair 39 = .ok (.ireturn, 1) := by decide +kernel
theorem dX0_fair_40 : decode cX0_fair 40 = .ok (.aload_n 0, 1) := by decide +kernel
theorem dX0_fair_41 : decode cX0_fair 41 = .ok (.iload_n 3, 1) := by decide +kernel
theorem dX0_fair_42 : decode cX0_fair 42 = .ok (.bipush 36, 2) := by decide +kernel
theorem dX0_fair_44 : decode cX0_fair 44 = .ok (.idiv, 1) := by decide +kernel
theorem dX0_fair_45 : decode cX0_fair 45 = .ok (.iload_n 3, 1) := by decide +kernel
theorem dX0_fair_46 : decode cX0_fair 46 = .ok (.bipush 36, 2) := by decide +kernel
theorem dX0_fair_48 : decode cX0_fair 48 = .ok (.irem, 1) := by decide +kernel
theorem dX0_fair_49 : decode cX0_fair 49 = .ok (.invokevirtual 125, 3) := by decide +kernel
theorem dX0_fair_52 : decode cX0_fair 52 = .ok (.iinc 2 1, 3) := by decide +kernel
theorem dX0_fair_55 : decode cX0_fair 55 = .ok (.goto (-32), 3) := by decide +kernel
theorem dX0_fair_58 : decode cX0_fair 58 = .ok (.iload_n 1, 1) := by decide +kernel
theorem dX0_fair_59 : decode cX0_fair 59 = .ok (.ireturn, 1) := by decide +kernel
set_option maxRecDepth 20000 in
theorem ggX0_lend_X0_requireThimble : GoodIn wsX0_lend wsX0_requireThimble := goodIn_ca (goodIn_r _ [10, 11, 12, 13, 14, 15, 9, 16, 27, 28, 29, 30, 31, 32, 33, 34, 35, 36, 37, 38, 39, 40, 41, 42, 43] (by decide +kernel) (by decide +kernel)) (goodIn_sub (fun _ h => List.mem_cons_of_mem _ (List.mem_append_left _ (List.mem_append_right _ h))) (by decide +kernel))
set_option maxRecDepth 20000 in
theorem gX0_lend_X0_requireThimble : GoodIn wsX0_lend (wsV RX0 108 RX0 yX0_requireThimble wsX0_requireThimble) := goodIn_app (goodIn_of _ (by decide +kernel)) ggX0_lend_X0_requireThimble
set_option maxRecDepth 20000 in
theorem ggX0_lend_X0_requireAtHome : GoodIn wsX0_lend wsX0_requireAtHome := goodIn_ca (goodIn_r _ [20, 21, 22, 23, 24, 25, 9, 26, 3, 27, 28, 29, 30, 31, 32, 33, 34, 35, 36, 37, 38, 39, 40, 41, 42, 43] (by decide +kernel) (by decide +kernel)) (goodIn_sub (fun _ h => List.mem_cons_of_mem _ (List.mem_append_right _ h)) (by decide +kernel))
set_option maxRecDepth 20000 in
theorem gX0_lend_X0_requireAtHome : GoodIn wsX0_lend (wsV RX0 118 RX0 yX0_requireAtHome wsX0_requireAtHome) := goodIn_app (goodIn_of _ (by decide +kernel)) ggX0_lend_X0_requireAtHome
theorem dX0_lend_0 : decode cX0_lend 0 = .ok (.aload_n 0, 1) := by decide +kernel
theorem dX0_lend_1 : decode cX0_lend 1 = .ok (.iload_n 1, 1) := by decide +kernel
theorem dX0_lend_2 : decode cX0_lend 2 = .ok (.invokevirtual 108, 3) := by decide +kernel
theorem dX0_lend_5 : decode cX0_lend 5 = .ok (.iload_n 2, 1) := by decide +kernel
theorem dX0_lend_6 : decode cX0_lend 6 = .ok (.iconst 1, 1) := by decide +kernel
theorem dX0_lend_7 : decode cX0_lend 7 = .ok (.if_icmp .lt 9, 3) := by decide +kernel
theorem dX0_lend_10 : decode cX0_lend 10 = .ok (.iload_n 2, 1) := by decide +kernel
theorem dX0_lend_11 : decode cX0_lend 11 = .ok (.bipush 30, 2) := by decide +kernel
theorem dX0_lend_13 : decode cX0_lend 13 = .ok (.if_icmp .le 13, 3) := by decide +kernel
theorem dX0_lend_16 : decode cX0_lend 16 = .ok (.new 70, 3) := by decide +kernel
theorem dX0_lend_19 : decode cX0_lend 19 = .ok (.dup, 1) := by decide +kernel
theorem dX0_lend_20 : decode cX0_lend 20 = .ok (.ldc 148, 2) := by decide +kernel
theorem dX0_lend_22 : decode cX0_lend 22 = .ok (.invokespecial 74, 3) := by decide +kernel
theorem dX0_lend_25 : decode cX0_lend 25 = .ok (.athrow, 1) := by decide +kernel
theorem dX0_lend_26 : decode cX0_lend 26 = .ok (.aload_n 0, 1) := by decide +kernel
theorem dX0_lend_27 : decode cX0_lend 27 = .ok (.iload_n 1, 1) := by decide +kernel
theorem dX0_lend_28 : decode cX0_lend 28 = .ok (.invokevirtual 118, 3) := by decide +kernel
theorem dX0_lend_31 : decode cX0_lend 31 = .ok (.aload_n 0, 1) := by decide +kernel
theorem dX0_lend_32 : decode cX0_lend 32 = .ok (.getfield 25, 3) := by decide +kernel
theorem dX0_lend_35 : decode cX0_lend 35 = .ok (.iload_n 1, 1) := by decide +kernel
theorem dX0_lend_36 : decode cX0_lend 36 = .ok (.aload_n 0, 1) := by decide +kernel
theorem dX0_lend_37 : decode cX0_lend 37 = .ok (.getfield 150, 3) := by decide +kernel
theorem dX0_lend_40 : decode cX0_lend 40 = .ok (.iload_n 2, 1) := by decide +kernel
theorem dX0_lend_41 : decode cX0_lend 41 = .ok (.iadd, 1) := by decide +kernel
theorem dX0_lend_42 : decode cX0_lend 42 = .ok (.iastore, 1) := by decide +kernel
theorem dX0_lend_43 : decode cX0_lend 43 = .ok (.aload_n 0, 1) := by decide +kernel
theorem dX0_lend_44 : decode cX0_lend 44 = .ok (.getfield 28, 3) := by decide +kernel
theorem dX0_lend_47 : decode cX0_lend 47 = .ok (.iload_n 1, 1) := by decide +kernel
theorem dX0_lend_48 : decode cX0_lend 48 = .ok (.iload_n 2, 1) := by decide +kernel
theorem dX0_lend_49 : decode cX0_lend 49 = .ok (.iastore, 1) := by decide +kernel
theorem dX0_lend_50 : decode cX0_lend 50 = .ok (.aload_n 0, 1) := by decide +kernel
theorem dX0_lend_51 : decode cX0_lend 51 = .ok (.getfield 25, 3) := by decide +kernel
theorem dX0_lend_54 : decode cX0_lend 54 = .ok (.iload_n 1, 1) := by decide +kernel
theorem dX0_lend_55 : decode cX0_lend 55 = .ok (.iaload, 1) := by decide +kernel
theorem dX0_lend_56 : decode cX0_lend 56 = .ok (.ireturn, 1) := by decide +kernel
set_option maxRecDepth 20000 in
theorem ggX0_shows_X0_requireSet : GoodIn wsX0_shows wsX0_requireSet := goodIn_ca (goodIn_r _ [4, 5, 6, 7, 8, 3, 9] (by decide +kernel) (by decide +kernel)) (goodIn_sub (fun _ h => List.mem_cons_of_mem _ (List.mem_append_right _ h)) (by decide +kernel))
set_option maxRecDepth 20000 in
theorem gX0_shows_X0_requireSet : GoodIn wsX0_shows (va_wsS RX0 80 yX0_requireSet wsX0_requireSet) := goodIn_app (goodIn_of _ (by decide +kernel)) ggX0_shows_X0_requireSet
set_option maxRecDepth 20000 in
theorem ggX0_shows_X0_numbersShown : GoodIn wsX0_shows wsX0_numbersShown := goodIn_r _ [13, 14, 15, 16, 17, 18, 19, 3, 20, 21, 29, 30, 31, 32, 33, 34, 35, 36, 37, 38, 39, 40, 41, 42, 43, 44, 45] (by decide +kernel) (by decide +kernel)
set_option maxRecDepth 20000 in
theorem gX0_shows_X0_numbersShown : GoodIn wsX0_shows (wsV RX0 153 RX0 yX0_numbersShown wsX0_numbersShown) := goodIn_app (goodIn_of _ (by decide +kernel)) ggX0_shows_X0_numbersShown
set_option maxRecDepth 20000 in
theorem ggX0_shows_J6_bitCount_0f7a4 : GoodIn wsX0_shows wsJ6_bitCount_0f7a4 := goodIn_r _ [25, 26, 27, 28] (by decide +kernel) (by decide +kernel)
set_option maxRecDepth 20000 in
theorem gX0_shows_J6_bitCount_0f7a4 : GoodIn wsX0_shows (va_wsS RX0 156 yJ6_bitCount_0f7a4 wsJ6_bitCount_0f7a4) := goodIn_app (goodIn_of _ (by decide +kernel)) ggX0_shows_J6_bitCount_0f7a4
theorem dX0_shows_0 : decode cX0_shows 0 = .ok (.iload_n 1, 1) := by decide +kernel
theorem dX0_shows_1 : decode cX0_shows 1 = .ok (.invokestatic 80, 3) := by decide +kernel
theorem dX0_shows_4 : decode cX0_shows 4 = .ok (.aload_n 0, 1) := by decide +kernel
theorem dX0_shows_5 : decode cX0_shows 5 = .ok (.iload_n 1, 1) := by decide +kernel
theorem dX0_shows_6 : decode cX0_shows 6 = .ok (.invokevirtual 153, 3) := by decide +kernel
theorem dX0_shows_9 : decode cX0_shows 9 = .ok (.invokestatic 156, 3) := by decide +kernel
theorem dX0_shows_12 : decode cX0_shows 12 = .ok (.ireturn, 1) := by decide +kernel
set_option maxRecDepth 20000 in
theorem ggX0_lacks_X0_requireSet : GoodIn wsX0_lacks wsX0_requireSet := goodIn_ca (goodIn_r _ [4, 5, 6, 7, 8, 3, 9] (by decide +kernel) (by decide +kernel)) (goodIn_sub (fun _ h => List.mem_cons_of_mem _ (List.mem_append_right _ h)) (by decide +kernel))
set_option maxRecDepth 20000 in
theorem gX0_lacks_X0_requireSet : GoodIn wsX0_lacks (va_wsS RX0 80 yX0_requireSet wsX0_requireSet) := goodIn_app (goodIn_of _ (by decide +kernel)) ggX0_lacks_X0_requireSet
set_option maxRecDepth 20000 in
theorem ggX0_lacks_X0_numbersFound : GoodIn wsX0_lacks wsX0_numbersFound := goodIn_r _ [13, 14, 15, 16, 33, 34, 35, 36, 37, 38, 39, 40, 41, 42, 43, 44, 45, 46, 47, 48, 49] (by decide +kernel) (by decide +kernel)
set_option maxRecDepth 20000 in
theorem gX0_lacks_X0_numbersFound : GoodIn wsX0_lacks (wsV RX0 161 RX0 yX0_numbersFound wsX0_numbersFound) := goodIn_app (goodIn_of _ (by decide +kernel)) ggX0_lacks_X0_numbersFound
set_option maxRecDepth 20000 in
theorem ggX0_lacks_J6_bitCount_0f7a4 : GoodIn wsX0_lacks wsJ6_bitCount_0f7a4 := goodIn_r _ [20, 21, 22, 23] (by decide +kernel) (by decide +kernel)
set_option maxRecDepth 20000 in
theorem gX0_lacks_J6_bitCount_0f7a4 : GoodIn wsX0_lacks (va_wsS RX0 156 yJ6_bitCount_0f7a4 wsJ6_bitCount_0f7a4) := goodIn_app (goodIn_of _ (by decide +kernel)) ggX0_lacks_J6_bitCount_0f7a4
set_option maxRecDepth 20000 in
theorem ggX0_lacks_X0_numbersShown : GoodIn wsX0_lacks wsX0_numbersShown := goodIn_r _ [27, 14, 15, 16, 28, 29, 30, 3, 31, 32, 33, 34, 35, 36, 37, 38, 39, 40, 41, 42, 43, 44, 45, 46, 47, 48, 49] (by decide +kernel) (by decide +kernel)
set_option maxRecDepth 20000 in
theorem gX0_lacks_X0_numbersShown : GoodIn wsX0_lacks (wsV RX0 153 RX0 yX0_numbersShown wsX0_numbersShown) := goodIn_app (goodIn_of _ (by decide +kernel)) ggX0_lacks_X0_numbersShown
theorem dX0_lacks_0 : decode cX0_lacks 0 = .ok (.iload_n 1, 1) := by decide +kernel
theorem dX0_lacks_1 : decode cX0_lacks 1 = .ok (.invokestatic 80, 3) := by decide +kernel
theorem dX0_lacks_4 : decode cX0_lacks 4 = .ok (.aload_n 0, 1) := by decide +kernel
theorem dX0_lacks_5 : decode cX0_lacks 5 = .ok (.iload_n 1, 1) := by decide +kernel
theorem dX0_lacks_6 : decode cX0_lacks 6 = .ok (.invokevirtual 161, 3) := by decide +kernel
theorem dX0_lacks_9 : decode cX0_lacks 9 = .ok (.invokestatic 156, 3) := by decide +kernel
theorem dX0_lacks_12 : decode cX0_lacks 12 = .ok (.bipush 6, 2) := by decide +kernel
theorem dX0_lacks_14 : decode cX0_lacks 14 = .ok (.if_icmp .ge 5, 3) := by decide +kernel
theorem dX0_lacks_17 : decode cX0_lacks 17 = .ok (.iconst (-1), 1) := by decide +kernel
theorem dX0_lacks_18 : decode cX0_lacks 18 = .ok (.ireturn, 1) := by decide +kernel
theorem dX0_lacks_19 : decode cX0_lacks 19 = .ok (.bipush 6, 2) := by decide +kernel
theorem dX0_lacks_21 : decode cX0_lacks 21 = .ok (.aload_n 0, 1) := by decide +kernel
theorem dX0_lacks_22 : decode cX0_lacks 22 = .ok (.iload_n 1, 1) := by decide +kernel
theorem dX0_lacks_23 : decode cX0_lacks 23 = .ok (.invokevirtual 153, 3) := by decide +kernel
theorem dX0_lacks_26 : decode cX0_lacks 26 = .ok (.invokestatic 156, 3) := by decide +kernel
theorem dX0_lacks_29 : decode cX0_lacks 29 = .ok (.isub, 1) := by decide +kernel
theorem dX0_lacks_30 : decode cX0_lacks 30 = .ok (.ireturn, 1) := by decide +kernel
set_option maxRecDepth 20000 in
theorem ggX0_finest_X0_requireSet : GoodIn wsX0_finest wsX0_requireSet := goodIn_ca (goodIn_r _ [5, 6, 7, 8, 9, 4, 10] (by decide +kernel) (by decide +kernel)) (goodIn_sub (fun _ h => List.mem_cons_of_mem _ (List.mem_append_right _ h)) (by decide +kernel))
set_option maxRecDepth 20000 in
theorem gX0_finest_X0_requireSet : GoodIn wsX0_finest (va_wsS RX0 80 yX0_requireSet wsX0_requireSet) := goodIn_app (goodIn_of _ (by decide +kernel)) ggX0_finest_X0_requireSet
set_option maxRecDepth 20000 in
theorem ggX0_finest_X0_layOutOwn : GoodIn wsX0_finest wsX0_layOutOwn := goodIn_r _ [14, 15, 16, 17, 4, 18, 19, 20, 21, 22, 23, 24, 25, 26, 27, 28, 29, 30, 31, 32, 33, 34, 43, 44, 45, 46, 47, 48, 49, 50, 51, 52, 53, 54, 55, 56, 57, 58, 59] (by decide +kernel) (by decide +kernel)
set_option maxRecDepth 20000 in
theorem gX0_finest_X0_layOutOwn : GoodIn wsX0_finest (wsV RX0 164 RX0 yX0_layOutOwn wsX0_layOutOwn) := goodIn_app (goodIn_of _ (by decide +kernel)) ggX0_finest_X0_layOutOwn
set_option maxRecDepth 20000 in
theorem ggX0_finest_X0_numbersLaidOut : GoodIn wsX0_finest wsX0_numbersLaidOut := goodIn_r _ [38, 19, 43, 44, 45, 46, 47, 48, 49, 50, 51, 52, 53, 54, 55, 56, 57, 58, 59] (by decide +kernel) (by decide +kernel)
set_option maxRecDepth 20000 in
theorem gX0_finest_X0_numbersLaidOut : GoodIn wsX0_finest (wsV RX0 167 RX0 yX0_numbersLaidOut wsX0_numbersLaidOut) := goodIn_app (goodIn_of _ (by decide +kernel)) ggX0_finest_X0_numbersLaidOut
set_option maxRecDepth 20000 in
theorem ggX0_finest_X0_statesLaidOut : GoodIn wsX0_finest wsX0_statesLaidOut := goodIn_r _ [42, 19, 26, 27, 28, 29, 43, 44, 45, 46, 47, 48, 49, 50, 51, 52, 53, 54, 55, 56, 57, 58, 59] (by decide +kernel) (by decide +kernel)
set_option maxRecDepth 20000 in
theorem gX0_finest_X0_statesLaidOut : GoodIn wsX0_finest (wsV RX0 170 RX0 yX0_statesLaidOut wsX0_statesLaidOut) := goodIn_app (goodIn_of _ (by decide +kernel)) ggX0_finest_X0_statesLaidOut
theorem dX0_finest_0 : decode cX0_finest 0 = .ok (.iload_n 1, 1) := by decide +kernel
theorem dX0_finest_1 : decode cX0_finest 1 = .ok (.invokestatic 80, 3) := by decide +kernel
theorem dX0_finest_4 : decode cX0_finest 4 = .ok (.iconst (-1), 1) := by decide +kernel
theorem dX0_finest_5 : decode cX0_finest 5 = .ok (.istore_n 2, 1) := by decide +kernel
theorem dX0_finest_6 : decode cX0_finest 6 = .ok (.iconst 0, 1) := by decide +kernel
theorem dX0_finest_7 : decode cX0_finest 7 = .ok (.istore_n 3, 1) := by decide +kernel
theorem dX0_finest_8 : decode cX0_finest 8 = .ok (.iconst 0, 1) := by decide +kernel
theorem dX0_finest_9 : decode cX0_finest 9 = .ok (.istore 4, 2) := by decide +kernel
theorem dX0_finest_11 : decode cX0_finest 11 = .ok (.iconst 0, 1) := by decide +kernel
theorem dX0_finest_12 : decode cX0_finest 12 = .ok (.istore 5, 2) := by decide +kernel
theorem dX0_finest_14 : decode cX0_finest 14 = .ok (.iload 5, 2) := by decide +kernel
theorem dX0_finest_16 : decode cX0_finest 16 = .ok (.aload_n 0, 1) := by decide +kernel
theorem dX0_finest_17 : decode cX0_finest 17 = .ok (.getfield 45, 3) := by decide +kernel
theorem dX0_finest_20 : decode cX0_finest 20 = .ok (.if_icmp .ge 58, 3) := by decide +kernel
theorem dX0_finest_23 : decode cX0_finest 23 = .ok (.aload_n 0, 1) := by decide +kernel
theorem dX0_finest_24 : decode cX0_finest 24 = .ok (.iload 5, 2) := by decide +kernel
theorem dX0_finest_26 : decode cX0_finest 26 = .ok (.invokevirtual 164, 3) := by decide +kernel
theorem dX0_finest_29 : decode cX0_finest 29 = .ok (.aload_n 0, 1) := by decide +kernel
theorem dX0_finest_30 : decode cX0_finest 30 = .ok (.iload_n 1, 1) := by decide +kernel
theorem dX0_finest_31 : decode cX0_finest 31 = .ok (.invokevirtual 167, 3) := by decide +kernel
theorem dX0_finest_34 : decode cX0_finest 34 = .ok (.istore 6, 2) := by decide +kernel
theorem dX0_finest_36 : decode cX0_finest 36 = .ok (.aload_n 0, 1) := by decide +kernel
theorem dX0_finest_37 : decode cX0_finest 37 = .ok (.iload_n 1, 1) := by decide +kernel
theorem dX0_finest_38 : decode cX0_finest 38 = .ok (.invokevirtual 170, 3) := by decide +kernel
theorem dX0_finest_41 : decode cX0_finest 41 = .ok (.istore 7, 2) := by decide +kernel
theorem dX0_finest_43 : decode cX0_finest 43 = .ok (.iload 6, 2) := by decide +kernel
theorem dX0_finest_45 : decode cX0_finest 45 = .ok (.iload_n 3, 1) := by decide +kernel
theorem dX0_finest_46 : decode cX0_finest 46 = .ok (.if_icmp .gt 16, 3) := by decide +kernel
theorem dX0_finest_49 : decode cX0_finest 49 = .ok (.iload 6, 2) := by decide +kernel
theorem dX0_finest_51 : decode cX0_finest 51 = .ok (.iload_n 3, 1) := by decide +kernel
theorem dX0_finest_52 : decode cX0_finest 52 = .ok (.if_icmp .ne 20, 3) := by decide +kernel
theorem dX0_finest_55 : decode cX0_finest 55 = .ok (.iload 7, 2) := by decide +kernel
theorem dX0_finest_57 : decode cX0_finest 57 = .ok (.iload 4, 2) := by decide +kernel
theorem dX0_finest_59 : decode cX0_finest 59 = .ok (.if_icmp .le 13, 3) := by decide +kernel
theorem dX0_finest_62 : decode cX0_finest 62 = .ok (.iload 5, 2) := by decide +kernel
theorem dX0_finest_64 : decode cX0_finest 64 = .ok (.istore_n 2, 1) := by decide +kernel
theorem dX0_finest_65 : decode cX0_finest 65 = .ok (.iload 6, 2) := by decide +kernel
theorem dX0_finest_67 : decode cX0_finest 67 = .ok (.istore_n 3, 1) := by decide +kernel
theorem dX0_finest_68 : decode cX0_finest 68 = .ok (.iload 7, 2) := by decide +kernel
theorem dX0_finest_70 : decode cX0_finest 70 = .ok (.istore 4, 2) := by decide +kernel
theorem dX0_finest_72 : decode cX0_finest 72 = .ok (.iinc 5 1, 3) := by decide +kernel
theorem dX0_finest_75 : decode cX0_finest 75 = .ok (.goto (-61), 3) := by decide +kernel
theorem dX0_finest_78 : decode cX0_finest 78 = .ok (.iload_n 2, 1) := by decide +kernel
theorem dX0_finest_79 : decode cX0_finest 79 = .ok (.ireturn, 1) := by decide +kernel
set_option maxRecDepth 20000 in
theorem ggX0_pass_X0_endWeek : GoodIn wsX0_pass wsX0_endWeek := goodIn_r _ [7, 8, 9, 10, 11, 12, 13, 6, 14, 15, 16, 17, 18, 19, 20, 21, 22, 23, 24, 25, 26, 27, 28, 29, 30, 31, 32, 33, 34, 35, 36, 37, 38, 39, 40, 41, 42, 43, 44, 45, 46, 47, 48, 49, 50, 51] (by decide +kernel) (by decide +kernel)
set_option maxRecDepth 20000 in
theorem gX0_pass_X0_endWeek : GoodIn wsX0_pass (wsV RX0 175 RX0 yX0_endWeek wsX0_endWeek) := goodIn_app (goodIn_of _ (by decide +kernel)) ggX0_pass_X0_endWeek
theorem dX0_pass_0 : decode cX0_pass 0 = .ok (.iload_n 1, 1) := by decide +kernel
theorem dX0_pass_1 : decode cX0_pass 1 = .ok (.iconst 1, 1) := by decide +kernel
theorem dX0_pass_2 : decode cX0_pass 2 = .ok (.if_icmp .lt 9, 3) := by decide +kernel
theorem dX0_pass_5 : decode cX0_pass 5 = .ok (.iload_n 1, 1) := by decide +kernel
theorem dX0_pass_6 : decode cX0_pass 6 = .ok (.bipush 60, 2) := by decide +kernel
theorem dX0_pass_8 : decode cX0_pass 8 = .ok (.if_icmp .le 13, 3) := by decide +kernel
theorem dX0_pass_11 : decode cX0_pass 11 = .ok (.new 70, 3) := by decide +kernel
theorem dX0_pass_14 : decode cX0_pass 14 = .ok (.dup, 1) := by decide +kernel
theorem dX0_pass_15 : decode cX0_pass 15 = .ok (.ldc 173, 2) := by decide +kernel
theorem dX0_pass_17 : decode cX0_pass 17 = .ok (.invokespecial 74, 3) := by decide +kernel
theorem dX0_pass_20 : decode cX0_pass 20 = .ok (.athrow, 1) := by decide +kernel
theorem dX0_pass_21 : decode cX0_pass 21 = .ok (.iconst 0, 1) := by decide +kernel
theorem dX0_pass_22 : decode cX0_pass 22 = .ok (.istore_n 2, 1) := by decide +kernel
theorem dX0_pass_23 : decode cX0_pass 23 = .ok (.iconst 0, 1) := by decide +kernel
theorem dX0_pass_24 : decode cX0_pass 24 = .ok (.istore_n 3, 1) := by decide +kernel
theorem dX0_pass_25 : decode cX0_pass 25 = .ok (.iload_n 3, 1) := by decide +kernel
theorem dX0_pass_26 : decode cX0_pass 26 = .ok (.iload_n 1, 1) := by decide +kernel
theorem dX0_pass_27 : decode cX0_pass 27 = .ok (.if_icmp .ge 16, 3) := by decide +kernel
theorem dX0_pass_30 : decode cX0_pass 30 = .ok (.iload_n 2, 1) := by decide +kernel
theorem dX0_pass_31 : decode cX0_pass 31 = .ok (.aload_n 0, 1) := by decide +kernel
theorem dX0_pass_32 : decode cX0_pass 32 = .ok (.invokevirtual 175, 3) := by decide +kernel
theorem dX0_pass_35 : decode cX0_pass 35 = .ok (.iadd, 1) := by decide +kernel
theorem dX0_pass_36 : decode cX0_pass 36 = .ok (.istore_n 2, 1) := by decide +kernel
theorem dX0_pass_37 : decode cX0_pass 37 = .ok (.iinc 3 1, 3) := by decide +kernel
theorem dX0_pass_40 : decode cX0_pass 40 = .ok (.goto (-15), 3) := by decide +kernel
theorem dX0_pass_43 : decode cX0_pass 43 = .ok (.iload_n 2, 1) := by decide +kernel
theorem dX0_pass_44 : decode cX0_pass 44 = .ok (.ireturn, 1) := by decide +kernel
set_option maxRecDepth 20000 in
theorem ggX0_count_X0_requireRow : GoodIn wsX0_count wsX0_requireRow := goodIn_ca (goodIn_r _ [9, 10, 11, 12, 13, 8, 14] (by decide +kernel) (by decide +kernel)) (goodIn_sub (fun _ h => List.mem_cons_of_mem _ (List.mem_append_right _ h)) (by decide +kernel))
set_option maxRecDepth 20000 in
theorem gX0_count_X0_requireRow : GoodIn wsX0_count (va_wsS RX0 85 yX0_requireRow wsX0_requireRow) := goodIn_app (goodIn_of _ (by decide +kernel)) ggX0_count_X0_requireRow
set_option maxRecDepth 20000 in
theorem ggX0_count_X0_thimblesLent : GoodIn wsX0_count wsX0_thimblesLent := goodIn_r _ [18, 3, 19, 20, 21, 8, 22, 23, 75, 76, 77, 78, 79, 80, 81, 82, 83, 84, 85, 86, 87, 88, 89, 90, 91] (by decide +kernel) (by decide +kernel)
set_option maxRecDepth 20000 in
theorem gX0_count_X0_thimblesLent : GoodIn wsX0_count (wsV RX0 178 RX0 yX0_thimblesLent wsX0_thimblesLent) := goodIn_app (goodIn_of _ (by decide +kernel)) ggX0_count_X0_thimblesLent
set_option maxRecDepth 20000 in
theorem ggX0_count_X0_worthOfAll : GoodIn wsX0_count wsX0_worthOfAll := goodIn_r _ [27, 2, 28, 29, 30, 8, 31, 32, 33, 34, 35, 36, 37, 38, 39, 40, 41, 3, 42, 43, 44, 45, 46, 47, 48, 49, 50, 51, 52, 53, 54, 55, 56, 57, 58, 59, 60, 61, 62, 63, 64, 65, 66, 67, 68, 69, 70, 71, 72, 73, 74, 75, 76, 77, 78, 79, 80, 81, 82, 83, 84, 85, 86, 87, 88, 89, 90, 91] (by decide +kernel) (by decide +kernel)
set_option maxRecDepth 20000 in
theorem gX0_count_X0_worthOfAll : GoodIn wsX0_count (wsV RX0 184 RX0 yX0_worthOfAll wsX0_worthOfAll) := goodIn_app (goodIn_of _ (by decide +kernel)) ggX0_count_X0_worthOfAll
theorem dX0_count_0 : decode cX0_count 0 = .ok (.iload_n 1, 1) := by decide +kernel
theorem dX0_count_1 : decode cX0_count 1 = .ok (.bipush 7, 2) := by decide +kernel
theorem dX0_count_3 : decode cX0_count 3 = .ok (.invokestatic 85, 3) := by decide +kernel
theorem dX0_count_6 : decode cX0_count 6 = .ok (.iload_n 1, 1) := by decide +kernel
theorem dX0_count_7 : decode cX0_count 7 = .ok (.tableswitch 67 0 5 #[37, 42, 47, 52, 57, 62], 37) := by decide +kernel
theorem dX0_count_44 : decode cX0_count 44 = .ok (.aload_n 0, 1) := by decide +kernel
theorem dX0_count_45 : decode cX0_count 45 = .ok (.getfield 150, 3) := by decide +kernel
theorem dX0_count_48 : decode cX0_count 48 = .ok (.ireturn, 1) := by decide +kernel
theorem dX0_count_49 : decode cX0_count 49 = .ok (.aload_n 0, 1) := by decide +kernel
theorem dX0_count_50 : decode cX0_count 50 = .ok (.getfield 45, 3) := by decide +kernel
theorem dX0_count_53 : decode cX0_count 53 = .ok (.ireturn, 1) := by decide +kernel
theorem dX0_count_54 : decode cX0_count 54 = .ok (.aload_n 0, 1) := by decide +kernel
theorem dX0_count_55 : decode cX0_count 55 = .ok (.getfield 75, 3) := by decide +kernel
theorem dX0_count_58 : decode cX0_count 58 = .ok (.ireturn, 1) := by decide +kernel
theorem dX0_count_59 : decode cX0_count 59 = .ok (.aload_n 0, 1) := by decide +kernel
theorem dX0_count_60 : decode cX0_count 60 = .ok (.invokevirtual 178, 3) := by decide +kernel
theorem dX0_count_63 : decode cX0_count 63 = .ok (.ireturn, 1) := by decide +kernel
theorem dX0_count_64 : decode cX0_count 64 = .ok (.aload_n 0, 1) := by decide +kernel
theorem dX0_count_65 : decode cX0_count 65 = .ok (.getfield 181, 3) := by decide +kernel
theorem dX0_count_68 : decode cX0_count 68 = .ok (.ireturn, 1) := by decide +kernel
theorem dX0_count_69 : decode cX0_count 69 = .ok (.aload_n 0, 1) := by decide +kernel
theorem dX0_count_70 : decode cX0_count 70 = .ok (.getfield 128, 3) := by decide +kernel
theorem dX0_count_73 : decode cX0_count 73 = .ok (.ireturn, 1) := by decide +kernel
theorem dX0_count_74 : decode cX0_count 74 = .ok (.aload_n 0, 1) := by decide +kernel
theorem dX0_count_75 : decode cX0_count 75 = .ok (.invokevirtual 184, 3) := by decide +kernel
theorem dX0_count_78 : decode cX0_count 78 = .ok (.ireturn, 1) := by decide +kernel
set_option maxRecDepth 20000 in
theorem ggX0_mean_X0_worthOfAll : GoodIn wsX0_mean wsX0_worthOfAll := goodIn_r _ [6, 7, 8, 9, 10, 5, 11, 12, 13, 14, 15, 16, 17, 18, 19, 20, 21, 1, 22, 23, 24, 25, 26, 27, 28, 29, 30, 31, 32, 33, 34, 35, 36, 37, 38, 39, 40, 41, 42, 43, 44, 45, 46, 47, 48, 49, 50, 51, 52, 53, 54, 55, 56, 57, 58, 59, 60, 61, 62, 63, 64, 65, 66, 67, 68, 69, 70, 71] (by decide +kernel) (by decide +kernel)
set_option maxRecDepth 20000 in
theorem gX0_mean_X0_worthOfAll : GoodIn wsX0_mean (wsV RX0 184 RX0 yX0_worthOfAll wsX0_worthOfAll) := goodIn_app (goodIn_of _ (by decide +kernel)) ggX0_mean_X0_worthOfAll
theorem dX0_mean_0 : decode cX0_mean 0 = .ok (.aload_n 0, 1) := by decide +kernel
theorem dX0_mean_1 : decode cX0_mean 1 = .ok (.getfield 75, 3) := by decide +kernel
theorem dX0_mean_4 : decode cX0_mean 4 = .ok (.ifCond .ne 5, 3) := by decide +kernel
theorem dX0_mean_7 : decode cX0_mean 7 = .ok (.dconst 0, 1) := by decide +kernel
theorem dX0_mean_8 : decode cX0_mean 8 = .ok (.dreturn, 1) := by decide +kernel
theorem dX0_mean_9 : decode cX0_mean 9 = .ok (.aload_n 0, 1) := by decide +kernel
theorem dX0_mean_10 : decode cX0_mean 10 = .ok (.invokevirtual 184, 3) := by decide +kernel
theorem dX0_mean_13 : decode cX0_mean 13 = .ok (.i2d, 1) := by decide +kernel
theorem dX0_mean_14 : decode cX0_mean 14 = .ok (.aload_n 0, 1) := by decide +kernel
theorem dX0_mean_15 : decode cX0_mean 15 = .ok (.getfield 75, 3) := by decide +kernel
theorem dX0_mean_18 : decode cX0_mean 18 = .ok (.i2d, 1) := by decide +kernel
theorem dX0_mean_19 : decode cX0_mean 19 = .ok (.ddiv, 1) := by decide +kernel
theorem dX0_mean_20 : decode cX0_mean 20 = .ok (.dreturn, 1) := by decide +kernel
set_option maxRecDepth 20000 in
theorem ggX0_digest_X0_count : GoodIn wsX0_digest wsX0_count := goodIn_ca (goodIn_r _ [9, 10, 3, 4, 11, 12, 13, 14, 8, 15, 16, 17, 18, 19, 20, 21, 22, 23, 24, 25, 26, 27, 28, 29, 30, 31, 32, 33, 34, 35, 36, 37, 38, 39, 40, 41, 42, 43, 44, 45, 46, 47, 48, 49, 50, 51, 52, 53, 54, 55, 56, 57, 58, 59, 60, 61, 62, 63, 64, 65, 66, 67, 68, 69, 70, 71, 72, 73, 74, 75, 76, 77, 78, 79, 80, 127, 128, 129, 130, 131, 132, 133, 134, 135, 136, 137, 138, 139, 140, 141, 142, 143] (by decide +kernel) (by decide +kernel)) (goodIn_sub (fun _ h => List.mem_cons_of_mem _ (List.mem_append_right _ h)) (by decide +kernel))
set_option maxRecDepth 20000 in
theorem gX0_digest_X0_count : GoodIn wsX0_digest (wsV RX0 191 RX0 yX0_count wsX0_count) := goodIn_app (goodIn_of _ (by decide +kernel)) ggX0_digest_X0_count
set_option maxRecDepth 20000 in
theorem ggX0_digest_X0_digestWithCollector : GoodIn wsX0_digest wsX0_digestWithCollector := goodIn_ca (goodIn_r _ [84, 2, 65, 3, 85, 86, 87, 88, 8, 89, 90, 91, 92, 93, 94, 16, 17, 18, 19, 20, 13, 14, 15, 95, 96, 97, 98, 4, 48, 99, 100, 101, 102, 25, 26, 27, 28, 29, 103, 104, 105, 106, 47, 38, 39, 40, 41, 42, 43, 44, 45, 46, 49, 50, 51, 52, 53, 54, 55, 56, 57, 58, 59, 60, 66, 67, 68, 69, 70, 71, 72, 34, 35, 36, 37, 61, 62, 63, 64, 73, 74, 75, 76, 77, 78, 79, 80, 107, 108, 109, 110, 111, 112, 113, 114, 127, 128, 129, 130, 131, 132, 133, 134, 135, 136, 137, 138, 139, 140, 141, 142, 143] (by decide +kernel) (by decide +kernel)) (goodIn_sub (fun _ h => List.mem_cons_of_mem _ (List.mem_append_right _ h)) (by decide +kernel))
set_option maxRecDepth 20000 in
theorem gX0_digest_X0_digestWithCollector : GoodIn wsX0_digest (wsV RX0 194 RX0 yX0_digestWithCollector wsX0_digestWithCollector) := goodIn_app (goodIn_of _ (by decide +kernel)) ggX0_digest_X0_digestWithCollector
set_option maxRecDepth 20000 in
theorem ggX0_digest_X0_digestWithThimble : GoodIn wsX0_digest wsX0_digestWithThimble := goodIn_ca (goodIn_r _ [118, 2, 119, 120, 121, 8, 122, 49, 50, 56, 51, 48, 29, 123, 124, 125, 126, 16, 17, 4, 18, 19, 20, 13, 14, 15, 127, 128, 129, 130, 131, 132, 133, 134, 135, 136, 137, 138, 139, 140, 141, 142, 143] (by decide +kernel) (by decide +kernel)) (goodIn_sub (fun _ h => List.mem_cons_of_mem _ (List.mem_append_right _ h)) (by decide +kernel))
set_option maxRecDepth 20000 in
theorem gX0_digest_X0_digestWithThimble : GoodIn wsX0_digest (wsV RX0 198 RX0 yX0_digestWithThimble wsX0_digestWithThimble) := goodIn_app (goodIn_of _ (by decide +kernel)) ggX0_digest_X0_digestWithThimble
theorem dX0_digest_0 : decode cX0_digest 0 = .ok (.ldc2_w 187, 3) := by decide +kernel
theorem dX0_digest_3 : decode cX0_digest 3 = .ok (.lstore_n 1, 1) := by decide +kernel
theorem dX0_digest_4 : decode cX0_digest 4 = .ok (.iconst 0, 1) := by decide +kernel
theorem dX0_digest_5 : decode cX0_digest 5 = .ok (.istore_n 3, 1) := by decide +kernel
theorem dX0_digest_6 : decode cX0_digest 6 = .ok (.iload_n 3, 1) := by decide +kernel
theorem dX0_digest_7 : decode cX0_digest 7 = .ok (.bipush 7, 2) := by decide +kernel
theorem dX0_digest_9 : decode cX0_digest 9 = .ok (.if_icmp .ge 22, 3) := by decide +kernel
theorem dX0_digest_12 : decode cX0_digest 12 = .ok (.lload_n 1, 1) := by decide +kernel
theorem dX0_digest_13 : decode cX0_digest 13 = .ok (.ldc2_w 189, 3) := by decide +kernel
theorem dX0_digest_16 : decode cX0_digest 16 = .ok (.lmul, 1) := by decide +kernel
theorem dX0_digest_17 : decode cX0_digest 17 = .ok (.aload_n 0, 1) := by decide +kernel
theorem dX0_digest_18 : decode cX0_digest 18 = .ok (.iload_n 3, 1) := by decide +kernel
theorem dX0_digest_19 : decode cX0_digest 19 = .ok (.invokevirtual 191, 3) := by decide +kernel
theorem dX0_digest_22 : decode cX0_digest 22 = .ok (.i2l, 1) := by decide +kernel
theorem dX0_digest_23 : decode cX0_digest 23 = .ok (.ladd, 1) := by decide +kernel
theorem dX0_digest_24 : decode cX0_digest 24 = .ok (.lstore_n 1, 1) := by decide +kernel
theorem dX0_digest_25 : decode cX0_digest 25 = .ok (.iinc 3 1, 3) := by decide +kernel
theorem dX0_digest_28 : decode cX0_digest 28 = .ok (.goto (-22), 3) := by decide +kernel
theorem dX0_digest_31 : decode cX0_digest 31 = .ok (.iconst 0, 1) := by decide +kernel
theorem dX0_digest_32 : decode cX0_digest 32 = .ok (.istore_n 3, 1) := by decide +kernel
theorem dX0_digest_33 : decode cX0_digest 33 = .ok (.iload_n 3, 1) := by decide +kernel
theorem dX0_digest_34 : decode cX0_digest 34 = .ok (.aload_n 0, 1) := by decide +kernel
theorem dX0_digest_35 : decode cX0_digest 35 = .ok (.getfield 45, 3) := by decide +kernel
theorem dX0_digest_38 : decode cX0_digest 38 = .ok (.if_icmp .ge 16, 3) := by decide +kernel
theorem dX0_digest_41 : decode cX0_digest 41 = .ok (.aload_n 0, 1) := by decide +kernel
theorem dX0_digest_42 : decode cX0_digest 42 = .ok (.lload_n 1, 1) := by decide +kernel
theorem dX0_digest_43 : decode cX0_digest 43 = .ok (.iload_n 3, 1) := by decide +kernel
theorem dX0_digest_44 : decode cX0_digest 44 = .ok (.invokevirtual 194, 3) := by decide +kernel
theorem dX0_digest_47 : decode cX0_digest 47 = .ok (.lstore_n 1, 1) := by decide +kernel
theorem dX0_digest_48 : decode cX0_digest 48 = .ok (.iinc 3 1, 3) := by decide +kernel
theorem dX0_digest_51 : decode cX0_digest 51 = .ok (.goto (-18), 3) := by decide +kernel
theorem dX0_digest_54 : decode cX0_digest 54 = .ok (.iconst 0, 1) := by decide +kernel
theorem dX0_digest_55 : decode cX0_digest 55 = .ok (.istore_n 3, 1) := by decide +kernel
theorem dX0_digest_56 : decode cX0_digest 56 = .ok (.iload_n 3, 1) := by decide +kernel
theorem dX0_digest_57 : decode cX0_digest 57 = .ok (.aload_n 0, 1) := by decide +kernel
theorem dX0_digest_58 : decode cX0_digest 58 = .ok (.getfield 75, 3) := by decide +kernel
theorem dX0_digest_61 : decode cX0_digest 61 = .ok (.if_icmp .ge 16, 3) := by decide +kernel
theorem dX0_digest_64 : decode cX0_digest 64 = .ok (.aload_n 0, 1) := by decide +kernel
theorem dX0_digest_65 : decode cX0_digest 65 = .ok (.lload_n 1, 1) := by decide +kernel
theorem dX0_digest_66 : decode cX0_digest 66 = .ok (.iload_n 3, 1) := by decide +kernel
theorem dX0_digest_67 : decode cX0_digest 67 = .ok (.invokevirtual 198, 3) := by decide +kernel
theorem dX0_digest_70 : decode cX0_digest 70 = .ok (.lstore_n 1, 1) := by decide +kernel
theorem dX0_digest_71 : decode cX0_digest 71 = .ok (.iinc 3 1, 3) := by decide +kernel
theorem dX0_digest_74 : decode cX0_digest 74 = .ok (.goto (-18), 3) := by decide +kernel
theorem dX0_digest_77 : decode cX0_digest 77 = .ok (.lload_n 1, 1) := by decide +kernel
theorem dX0_digest_78 : decode cX0_digest 78 = .ok (.lreturn, 1) := by decide +kernel
set_option maxRecDepth 20000 in
theorem ggX0_digestWithCollector_X0_collector : GoodIn wsX0_digestWithCollector wsX0_collector := goodIn_ca (goodIn_r _ [9, 10, 11, 12, 13, 8, 14, 15, 16, 3, 17, 18, 19, 20, 21, 22, 23, 24, 25, 26, 27, 28, 29, 30, 31, 32, 33, 34, 35, 36, 37, 38, 39, 40, 41, 42, 43, 44, 45, 46, 47, 48, 49, 50, 51, 52, 53, 54, 55, 56, 57, 58, 59, 60, 61, 62, 63, 64, 65, 66, 67, 68, 69, 70, 71, 72, 73, 74, 75, 76, 77, 78, 2, 79, 80, 81, 82, 83, 84, 85, 86, 87, 88, 89, 90, 91, 92, 93, 94, 4, 95, 96, 97, 98, 99, 100, 101, 102, 103, 104, 105, 106, 107, 108, 109, 110, 111] (by decide +kernel) (by decide +kernel)) (goodIn_sub (fun _ h => List.mem_cons_of_mem _ (List.mem_append_right _ h)) (by decide +kernel))
set_option maxRecDepth 20000 in
theorem gX0_digestWithCollector_X0_collector : GoodIn wsX0_digestWithCollector (wsV RX0 201 RX0 yX0_collector wsX0_collector) := goodIn_app (goodIn_of _ (by decide +kernel)) ggX0_digestWithCollector_X0_collector
theorem dX0_digestWithCollector_0 : decode cX0_digestWithCollector 0 = .ok (.lload_n 1, 1) := by decide +kernel
theorem dX0_digestWithCollector_1 : decode cX0_digestWithCollector 1 = .ok (.lstore 4, 2) := by decide +kernel
theorem dX0_digestWithCollector_3 : decode cX0_digestWithCollector 3 = .ok (.iconst 0, 1) := by decide +kernel
theorem dX0_digestWithCollector_4 : decode cX0_digestWithCollector 4 = .ok (.istore 6, 2) := by decide +kernel
theorem dX0_digestWithCollector_6 : decode cX0_digestWithCollector 6 = .ok (.iload 6, 2) := by decide +kernel
theorem dX0_digestWithCollector_8 : decode cX0_digestWithCollector 8 = .ok (.bipush 7, 2) := by decide +kernel
theorem dX0_digestWithCollector_10 : decode cX0_digestWithCollector 10 = .ok (.if_icmp .ge 26, 3) := by decide +kernel
theorem dX0_digestWithCollector_13 : decode cX0_digestWithCollector 13 = .ok (.lload 4, 2) := by decide +kernel
theorem dX0_digestWithCollector_15 : decode cX0_digestWithCollector 15 = .ok (.ldc2_w 189, 3) := by decide +kernel
theorem dX0_digestWithCollector_18 : decode cX0_digestWithCollector 18 = .ok (.lmul, 1) := by decide +kernel
theorem dX0_digestWithCollector_19 : decode cX0_digestWithCollector 19 = .ok (.aload_n 0, 1) := by decide +kernel
theorem dX0_digestWithCollector_20 : decode cX0_digestWithCollector 20 = .ok (.iload_n 3, 1) := by decide +kernel
theorem dX0_digestWithCollector_21 : decode cX0_digestWithCollector 21 = .ok (.iload 6, 2) := by decide +kernel
theorem dX0_digestWithCollector_23 : decode cX0_digestWithCollector 23 = .ok (.invokevirtual 201, 3) := by decide +kernel
theorem dX0_digestWithCollector_26 : decode cX0_digestWithCollector 26 = .ok (.i2l, 1) := by decide +kernel
theorem dX0_digestWithCollector_27 : decode cX0_digestWithCollector 27 = .ok (.ladd, 1) := by decide +kernel
theorem dX0_digestWithCollector_28 : decode cX0_digestWithCollector 28 = .ok (.lstore 4, 2) := by decide +kernel
theorem dX0_digestWithCollector_30 : decode cX0_digestWithCollector 30 = .ok (.iinc 6 1, 3) := by decide +kernel
theorem dX0_digestWithCollector_33 : decode cX0_digestWithCollector 33 = .ok (.goto (-27), 3) := by decide +kernel
theorem dX0_digestWithCollector_36 : decode cX0_digestWithCollector 36 = .ok (.iconst 0, 1) := by decide +kernel
theorem dX0_digestWithCollector_37 : decode cX0_digestWithCollector 37 = .ok (.istore 6, 2) := by decide +kernel
theorem dX0_digestWithCollector_39 : decode cX0_digestWithCollector 39 = .ok (.iload 6, 2) := by decide +kernel
theorem dX0_digestWithCollector_41 : decode cX0_digestWithCollector 41 = .ok (.bipush 8, 2) := by decide +kernel
theorem dX0_digestWithCollector_43 : decode cX0_digestWithCollector 43 = .ok (.if_icmp .ge 28, 3) := by decide +kernel
theorem dX0_digestWithCollector_46 : decode cX0_digestWithCollector 46 = .ok (.lload 4, 2) := by decide +kernel
theorem dX0_digestWithCollector_48 : decode cX0_digestWithCollector 48 = .ok (.ldc2_w 189, 3) := by decide +kernel
theorem dX0_digestWithCollector_51 : decode cX0_digestWithCollector 51 = .ok (.lmul, 1) := by decide +kernel
theorem dX0_digestWithCollector_52 : decode cX0_digestWithCollector 52 = .ok (.aload_n 0, 1) := by decide +kernel
theorem dX0_digestWithCollector_53 : decode cX0_digestWithCollector 53 = .ok (.getfield 33, 3) := by decide +kernel
theorem dX0_digestWithCollector_56 : decode cX0_digestWithCollector 56 = .ok (.iload_n 3, 1) := by decide +kernel
theorem dX0_digestWithCollector_57 : decode cX0_digestWithCollector 57 = .ok (.aaload, 1) := by decide +kernel
theorem dX0_digestWithCollector_58 : decode cX0_digestWithCollector 58 = .ok (.iload 6, 2) := by decide +kernel
theorem dX0_digestWithCollector_60 : decode cX0_digestWithCollector 60 = .ok (.iaload, 1) := by decide +kernel
theorem dX0_digestWithCollector_61 : decode cX0_digestWithCollector 61 = .ok (.i2l, 1) := by decide +kernel
theorem dX0_digestWithCollector_62 : decode cX0_digestWithCollector 62 = .ok (.ladd, 1) := by decide +kernel
theorem dX0_digestWithCollector_63 : decode cX0_digestWithCollector 63 = .ok (.lstore 4, 2) := by decide +kernel
theorem dX0_digestWithCollector_65 : decode cX0_digestWithCollector 65 = .ok (.iinc 6 1, 3) := by decide +kernel
theorem dX0_digestWithCollector_68 : decode cX0_digestWithCollector 68 = .ok (.goto (-29), 3) := by decide +kernel
theorem dX0_digestWithCollector_71 : decode cX0_digestWithCollector 71 = .ok (.iconst 0, 1) := by decide +kernel
theorem dX0_digestWithCollector_72 : decode cX0_digestWithCollector 72 = .ok (.istore 6, 2) := by decide +kernel
theorem dX0_digestWithCollector_74 : decode cX0_digestWithCollector 74 = .ok (.iload 6, 2) := by decide +kernel
theorem dX0_digestWithCollector_76 : decode cX0_digestWithCollector 76 = .ok (.aload_n 0, 1) := by decide +kernel
theorem dX0_digestWithCollector_77 : decode cX0_digestWithCollector 77 = .ok (.getfield 45, 3) := by decide +kernel
theorem dX0_digestWithCollector_80 : decode cX0_digestWithCollector 80 = .ok (.if_icmp .ge 28, 3) := by decide +kernel
theorem dX0_digestWithCollector_83 : decode cX0_digestWithCollector 83 = .ok (.lload 4, 2) := by decide +kernel
theorem dX0_digestWithCollector_85 : decode cX0_digestWithCollector 85 = .ok (.ldc2_w 189, 3) := by decide +kernel
theorem dX0_digestWithCollector_88 : decode cX0_digestWithCollector 88 = .ok (.lmul, 1) := by decide +kernel
theorem dX0_digestWithCollector_89 : decode cX0_digestWithCollector 89 = .ok (.aload_n 0, 1) := by decide +kernel
theorem dX0_digestWithCollector_90 : decode cX0_digestWithCollector 90 = .ok (.getfield 36, 3) := by decide +kernel
theorem dX0_digestWithCollector_93 : decode cX0_digestWithCollector 93 = .ok (.iload_n 3, 1) := by decide +kernel
theorem dX0_digestWithCollector_94 : decode cX0_digestWithCollector 94 = .ok (.aaload, 1) := by decide +kernel
theorem dX0_digestWithCollector_95 : decode cX0_digestWithCollector 95 = .ok (.iload 6, 2) := by decide +kernel
theorem dX0_digestWithCollector_97 : decode cX0_digestWithCollector 97 = .ok (.iaload, 1) := by decide +kernel
theorem dX0_digestWithCollector_98 : decode cX0_digestWithCollector 98 = .ok (.i2l, 1) := by decide +kernel
theorem dX0_digestWithCollector_99 : decode cX0_digestWithCollector 99 = .ok (.ladd, 1) := by decide +kernel
theorem dX0_digestWithCollector_100 : decode cX0_digestWithCollector 100 = .ok (.lstore 4, 2) := by decide +kernel
theorem dX0_digestWithCollector_102 : decode cX0_digestWithCollector 102 = .ok (.iinc 6 1, 3) := by decide +kernel
theorem dX0_digestWithCollector_105 : decode cX0_digestWithCollector 105 = .ok (.goto (-31), 3) := by decide +kernel
theorem dX0_digestWithCollector_108 : decode cX0_digestWithCollector 108 = .ok (.lload 4, 2) := by decide +kernel
theorem dX0_digestWithCollector_110 : decode cX0_digestWithCollector 110 = .ok (.lreturn, 1) := by decide +kernel
set_option maxRecDepth 20000 in
theorem ggX0_digestWithThimble_X0_thimble : GoodIn wsX0_digestWithThimble wsX0_thimble := goodIn_ca (goodIn_r _ [6, 7, 8, 9, 10, 11, 12, 13, 14, 15, 5, 16, 17, 18, 19, 20, 21, 22, 23, 24, 25, 26, 27, 28, 29, 30, 31, 32, 33, 34, 35, 36, 37, 38, 39, 40, 41, 42] (by decide +kernel) (by decide +kernel)) (goodIn_sub (fun _ h => List.mem_cons_of_mem _ (List.mem_append_right _ h)) (by decide +kernel))
set_option maxRecDepth 20000 in
theorem gX0_digestWithThimble_X0_thimble : GoodIn wsX0_digestWithThimble (wsV RX0 204 RX0 yX0_thimble wsX0_thimble) := goodIn_app (goodIn_of _ (by decide +kernel)) ggX0_digestWithThimble_X0_thimble
theorem dX0_digestWithThimble_0 : decode cX0_digestWithThimble 0 = .ok (.lload_n 1, 1) := by decide +kernel
theorem dX0_digestWithThimble_1 : decode cX0_digestWithThimble 1 = .ok (.lstore 4, 2) := by decide +kernel
theorem dX0_digestWithThimble_3 : decode cX0_digestWithThimble 3 = .ok (.iconst 0, 1) := by decide +kernel
theorem dX0_digestWithThimble_4 : decode cX0_digestWithThimble 4 = .ok (.istore 6, 2) := by decide +kernel
theorem dX0_digestWithThimble_6 : decode cX0_digestWithThimble 6 = .ok (.iload 6, 2) := by decide +kernel
theorem dX0_digestWithThimble_8 : decode cX0_digestWithThimble 8 = .ok (.bipush 6, 2) := by decide +kernel
theorem dX0_digestWithThimble_10 : decode cX0_digestWithThimble 10 = .ok (.if_icmp .ge 26, 3) := by decide +kernel
theorem dX0_digestWithThimble_13 : decode cX0_digestWithThimble 13 = .ok (.lload 4, 2) := by decide +kernel
theorem dX0_digestWithThimble_15 : decode cX0_digestWithThimble 15 = .ok (.ldc2_w 189, 3) := by decide +kernel
theorem dX0_digestWithThimble_18 : decode cX0_digestWithThimble 18 = .ok (.lmul, 1) := by decide +kernel
theorem dX0_digestWithThimble_19 : decode cX0_digestWithThimble 19 = .ok (.aload_n 0, 1) := by decide +kernel
theorem dX0_digestWithThimble_20 : decode cX0_digestWithThimble 20 = .ok (.iload_n 3, 1) := by decide +kernel
theorem dX0_digestWithThimble_21 : decode cX0_digestWithThimble 21 = .ok (.iload 6, 2) := by decide +kernel
theorem dX0_digestWithThimble_23 : decode cX0_digestWithThimble 23 = .ok (.invokevirtual 204, 3) := by decide +kernel
theorem dX0_digestWithThimble_26 : decode cX0_digestWithThimble 26 = .ok (.i2l, 1) := by decide +kernel
theorem dX0_digestWithThimble_27 : decode cX0_digestWithThimble 27 = .ok (.ladd, 1) := by decide +kernel
theorem dX0_digestWithThimble_28 : decode cX0_digestWithThimble 28 = .ok (.lstore 4, 2) := by decide +kernel
theorem dX0_digestWithThimble_30 : decode cX0_digestWithThimble 30 = .ok (.iinc 6 1, 3) := by decide +kernel
theorem dX0_digestWithThimble_33 : decode cX0_digestWithThimble 33 = .ok (.goto (-27), 3) := by decide +kernel
theorem dX0_digestWithThimble_36 : decode cX0_digestWithThimble 36 = .ok (.lload 4, 2) := by decide +kernel
theorem dX0_digestWithThimble_38 : decode cX0_digestWithThimble 38 = .ok (.lreturn, 1) := by decide +kernel
theorem dX0_isBelow_0 : decode cX0_isBelow 0 = .ok (.iload_n 0, 1) := by decide +kernel
theorem dX0_isBelow_1 : decode cX0_isBelow 1 = .ok (.ifCond .lt 12, 3) := by decide +kernel
theorem dX0_isBelow_4 : decode cX0_isBelow 4 = .ok (.iload_n 0, 1) := by decide +kernel
theorem dX0_isBelow_5 : decode cX0_isBelow 5 = .ok (.iload_n 1, 1) := by decide +kernel
theorem dX0_isBelow_6 : decode cX0_isBelow 6 = .ok (.if_icmp .ge 7, 3) := by decide +kernel
theorem dX0_isBelow_9 : decode cX0_isBelow 9 = .ok (.iconst 1, 1) := by decide +kernel
theorem dX0_isBelow_10 : decode cX0_isBelow 10 = .ok (.goto 4, 3) := by decide +kernel
theorem dX0_isBelow_13 : decode cX0_isBelow 13 = .ok (.iconst 0, 1) := by decide +kernel
theorem dX0_isBelow_14 : decode cX0_isBelow 14 = .ok (.ireturn, 1) := by decide +kernel
set_option maxRecDepth 20000 in
theorem ggX0_requireCollector_X0_isBelow : GoodIn wsX0_requireCollector wsX0_isBelow := goodIn_r _ [7] (by decide +kernel) (by decide +kernel)
set_option maxRecDepth 20000 in
theorem gX0_requireCollector_X0_isBelow : GoodIn wsX0_requireCollector (va_wsS RX0 66 yX0_isBelow wsX0_isBelow) := goodIn_app (goodIn_of _ (by decide +kernel)) ggX0_requireCollector_X0_isBelow
theorem dX0_requireCollector_0 : decode cX0_requireCollector 0 = .ok (.iload_n 1, 1) := by decide +kernel
theorem dX0_requireCollector_1 : decode cX0_requireCollector 1 = .ok (.aload_n 0, 1) := by decide +kernel
theorem dX0_requireCollector_2 : decode cX0_requireCollector 2 = .ok (.getfield 45, 3) := by decide +kernel
theorem dX0_requireCollector_5 : decode cX0_requireCollector 5 = .ok (.invokestatic 66, 3) := by decide +kernel
theorem dX0_requireCollector_8 : decode cX0_requireCollector 8 = .ok (.ifCond .ne 13, 3) := by decide +kernel
theorem dX0_requireCollector_11 : decode cX0_requireCollector 11 = .ok (.new 207, 3) := by decide +kernel
theorem dX0_requireCollector_14 : decode cX0_requireCollector 14 = .ok (.dup, 1) := by decide +kernel
theorem dX0_requireCollector_15 : decode cX0_requireCollector 15 = .ok (.ldc 209, 2) := by decide +kernel
theorem dX0_requireCollector_17 : decode cX0_requireCollector 17 = .ok (.invokespecial 211, 3) := by decide +kernel
theorem dX0_requireCollector_20 : decode cX0_requireCollector 20 = .ok (.athrow, 1) := by decide +kernel
theorem dX0_requireCollector_21 : decode cX0_requireCollector 21 = .ok (.return_, 1) := by decide +kernel
set_option maxRecDepth 20000 in
theorem ggX0_requireThimble_X0_isBelow : GoodIn wsX0_requireThimble wsX0_isBelow := goodIn_r _ [7] (by decide +kernel) (by decide +kernel)
set_option maxRecDepth 20000 in
theorem gX0_requireThimble_X0_isBelow : GoodIn wsX0_requireThimble (va_wsS RX0 66 yX0_isBelow wsX0_isBelow) := goodIn_app (goodIn_of _ (by decide +kernel)) ggX0_requireThimble_X0_isBelow
theorem dX0_requireThimble_0 : decode cX0_requireThimble 0 = .ok (.iload_n 1, 1) := by decide +kernel
theorem dX0_requireThimble_1 : decode cX0_requireThimble 1 = .ok (.aload_n 0, 1) := by decide +kernel
theorem dX0_requireThimble_2 : decode cX0_requireThimble 2 = .ok (.getfield 75, 3) := by decide +kernel
theorem dX0_requireThimble_5 : decode cX0_requireThimble 5 = .ok (.invokestatic 66, 3) := by decide +kernel
theorem dX0_requireThimble_8 : decode cX0_requireThimble 8 = .ok (.ifCond .ne 13, 3) := by decide +kernel
theorem dX0_requireThimble_11 : decode cX0_requireThimble 11 = .ok (.new 207, 3) := by decide +kernel
theorem dX0_requireThimble_14 : decode cX0_requireThimble 14 = .ok (.dup, 1) := by decide +kernel
theorem dX0_requireThimble_15 : decode cX0_requireThimble 15 = .ok (.ldc 212, 2) := by decide +kernel
theorem dX0_requireThimble_17 : decode cX0_requireThimble 17 = .ok (.invokespecial 211, 3) := by decide +kernel
theorem dX0_requireThimble_20 : decode cX0_requireThimble 20 = .ok (.athrow, 1) := by decide +kernel
theorem dX0_requireThimble_21 : decode cX0_requireThimble 21 = .ok (.return_, 1) := by decide +kernel
set_option maxRecDepth 20000 in
theorem ggX0_requireSet_X0_isBelow : GoodIn wsX0_requireSet wsX0_isBelow := goodIn_r _ [6] (by decide +kernel) (by decide +kernel)
set_option maxRecDepth 20000 in
theorem gX0_requireSet_X0_isBelow : GoodIn wsX0_requireSet (va_wsS RX0 66 yX0_isBelow wsX0_isBelow) := goodIn_app (goodIn_of _ (by decide +kernel)) ggX0_requireSet_X0_isBelow
theorem dX0_requireSet_0 : decode cX0_requireSet 0 = .ok (.iload_n 0, 1) := by decide +kernel
theorem dX0_requireSet_1 : decode cX0_requireSet 1 = .ok (.bipush 8, 2) := by decide +kernel
theorem dX0_requireSet_3 : decode cX0_requireSet 3 = .ok (.invokestatic 66, 3) := by decide +kernel
theorem dX0_requireSet_6 : decode cX0_requireSet 6 = .ok (.ifCond .ne 13, 3) := by decide +kernel
theorem dX0_requireSet_9 : decode cX0_requireSet 9 = .ok (.new 207, 3) := by decide +kernel
theorem dX0_requireSet_12 : decode cX0_requireSet 12 = .ok (.dup, 1) := by decide +kernel
theorem dX0_requireSet_13 : decode cX0_requireSet 13 = .ok (.ldc 214, 2) := by decide +kernel
theorem dX0_requireSet_15 : decode cX0_requireSet 15 = .ok (.invokespecial 211, 3) := by decide +kernel
theorem dX0_requireSet_18 : decode cX0_requireSet 18 = .ok (.athrow, 1) := by decide +kernel
theorem dX0_requireSet_19 : decode cX0_requireSet 19 = .ok (.return_, 1) := by decide +kernel
set_option maxRecDepth 20000 in
theorem ggX0_requireRow_X0_isBelow : GoodIn wsX0_requireRow wsX0_isBelow := goodIn_r _ [6] (by decide +kernel) (by decide +kernel)
set_option maxRecDepth 20000 in
theorem gX0_requireRow_X0_isBelow : GoodIn wsX0_requireRow (va_wsS RX0 66 yX0_isBelow wsX0_isBelow) := goodIn_app (goodIn_of _ (by decide +kernel)) ggX0_requireRow_X0_isBelow
theorem dX0_requireRow_0 : decode cX0_requireRow 0 = .ok (.iload_n 0, 1) := by decide +kernel
theorem dX0_requireRow_1 : decode cX0_requireRow 1 = .ok (.iload_n 1, 1) := by decide +kernel
theorem dX0_requireRow_2 : decode cX0_requireRow 2 = .ok (.invokestatic 66, 3) := by decide +kernel
theorem dX0_requireRow_5 : decode cX0_requireRow 5 = .ok (.ifCond .ne 13, 3) := by decide +kernel
theorem dX0_requireRow_8 : decode cX0_requireRow 8 = .ok (.new 207, 3) := by decide +kernel
theorem dX0_requireRow_11 : decode cX0_requireRow 11 = .ok (.dup, 1) := by decide +kernel
theorem dX0_requireRow_12 : decode cX0_requireRow 12 = .ok (.ldc 216, 2) := by decide +kernel
theorem dX0_requireRow_14 : decode cX0_requireRow 14 = .ok (.invokespecial 211, 3) := by decide +kernel
theorem dX0_requireRow_17 : decode cX0_requireRow 17 = .ok (.athrow, 1) := by decide +kernel
theorem dX0_requireRow_18 : decode cX0_requireRow 18 = .ok (.return_, 1) := by decide +kernel
theorem dX0_requireTwoOwners_0 : decode cX0_requireTwoOwners 0 = .ok (.aload_n 0, 1) := by decide +kernel
theorem dX0_requireTwoOwners_1 : decode cX0_requireTwoOwners 1 = .ok (.getfield 22, 3) := by decide +kernel
theorem dX0_requireTwoOwners_4 : decode cX0_requireTwoOwners 4 = .ok (.iload_n 1, 1) := by decide +kernel
theorem dX0_requireTwoOwners_5 : decode cX0_requireTwoOwners 5 = .ok (.iaload, 1) := by decide +kernel
theorem dX0_requireTwoOwners_6 : decode cX0_requireTwoOwners 6 = .ok (.aload_n 0, 1) := by decide +kernel
theorem dX0_requireTwoOwners_7 : decode cX0_requireTwoOwners 7 = .ok (.getfield 22, 3) := by decide +kernel
theorem dX0_requireTwoOwners_10 : decode cX0_requireTwoOwners 10 = .ok (.iload_n 2, 1) := by decide +kernel
theorem dX0_requireTwoOwners_11 : decode cX0_requireTwoOwners 11 = .ok (.iaload, 1) := by decide +kernel
theorem dX0_requireTwoOwners_12 : decode cX0_requireTwoOwners 12 = .ok (.if_icmp .ne 13, 3) := by decide +kernel
theorem dX0_requireTwoOwners_15 : decode cX0_requireTwoOwners 15 = .ok (.new 70, 3) := by decide +kernel
theorem dX0_requireTwoOwners_18 : decode cX0_requireTwoOwners 18 = .ok (.dup, 1) := by decide +kernel
theorem dX0_requireTwoOwners_19 : decode cX0_requireTwoOwners 19 = .ok (.ldc 218, 2) := by decide +kernel
theorem dX0_requireTwoOwners_21 : decode cX0_requireTwoOwners 21 = .ok (.invokespecial 74, 3) := by decide +kernel
theorem dX0_requireTwoOwners_24 : decode cX0_requireTwoOwners 24 = .ok (.athrow, 1) := by decide +kernel
theorem dX0_requireTwoOwners_25 : decode cX0_requireTwoOwners 25 = .ok (.return_, 1) := by decide +kernel
set_option maxRecDepth 20000 in
theorem ggX0_requireAtHome_X0_isLent : GoodIn wsX0_requireAtHome wsX0_isLent := goodIn_r _ [7, 8, 9, 10, 11, 12, 13, 14, 15, 16, 17, 18, 19, 20, 21, 22, 23, 24, 25] (by decide +kernel) (by decide +kernel)
set_option maxRecDepth 20000 in
theorem gX0_requireAtHome_X0_isLent : GoodIn wsX0_requireAtHome (wsV RX0 220 RX0 yX0_isLent wsX0_isLent) := goodIn_app (goodIn_of _ (by decide +kernel)) ggX0_requireAtHome_X0_isLent
theorem dX0_requireAtHome_0 : decode cX0_requireAtHome 0 = .ok (.aload_n 0, 1) := by decide +kernel
theorem dX0_requireAtHome_1 : decode cX0_requireAtHome 1 = .ok (.iload_n 1, 1) := by decide +kernel
theorem dX0_requireAtHome_2 : decode cX0_requireAtHome 2 = .ok (.invokevirtual 220, 3) := by decide +kernel
theorem dX0_requireAtHome_5 : decode cX0_requireAtHome 5 = .ok (.ifCond .eq 13, 3) := by decide +kernel
theorem dX0_requireAtHome_8 : decode cX0_requireAtHome 8 = .ok (.new 49, 3) := by decide +kernel
theorem dX0_requireAtHome_11 : decode cX0_requireAtHome 11 = .ok (.dup, 1) := by decide +kernel
theorem dX0_requireAtHome_12 : decode cX0_requireAtHome 12 = .ok (.ldc 224, 2) := by decide +kernel
theorem dX0_requireAtHome_14 : decode cX0_requireAtHome 14 = .ok (.invokespecial 53, 3) := by decide +kernel
theorem dX0_requireAtHome_17 : decode cX0_requireAtHome 17 = .ok (.athrow, 1) := by decide +kernel
theorem dX0_requireAtHome_18 : decode cX0_requireAtHome 18 = .ok (.return_, 1) := by decide +kernel
set_option maxRecDepth 20000 in
theorem ggX0_layOutOwn_X0_layOut : GoodIn wsX0_layOutOwn wsX0_layOut := goodIn_r _ [5, 6, 7, 8, 9, 10, 11, 12, 13, 14, 15, 16, 17, 18, 19, 20, 21, 22, 23, 24, 25, 26, 27, 28, 29, 30, 31, 32, 33, 34, 35, 36, 37, 38] (by decide +kernel) (by decide +kernel)
set_option maxRecDepth 20000 in
theorem gX0_layOutOwn_X0_layOut : GoodIn wsX0_layOutOwn (wsV RX0 226 RX0 yX0_layOut wsX0_layOut) := goodIn_app (goodIn_of _ (by decide +kernel)) ggX0_layOutOwn_X0_layOut
theorem dX0_layOutOwn_0 : decode cX0_layOutOwn 0 = .ok (.aload_n 0, 1) := by decide +kernel
theorem dX0_layOutOwn_1 : decode cX0_layOutOwn 1 = .ok (.iload_n 1, 1) := by decide +kernel
theorem dX0_layOutOwn_2 : decode cX0_layOutOwn 2 = .ok (.iconst (-1), 1) := by decide +kernel
theorem dX0_layOutOwn_3 : decode cX0_layOutOwn 3 = .ok (.iconst (-1), 1) := by decide +kernel
theorem dX0_layOutOwn_4 : decode cX0_layOutOwn 4 = .ok (.invokevirtual 226, 3) := by decide +kernel
theorem dX0_layOutOwn_7 : decode cX0_layOutOwn 7 = .ok (.return_, 1) := by decide +kernel
set_option maxRecDepth 20000 in
theorem ggX0_layOut_J7_fill_53178 : GoodIn wsX0_layOut wsJ7_fill_53178 := goodIn_r _ [16] (by decide +kernel) (by decide +kernel)
set_option maxRecDepth 20000 in
theorem gX0_layOut_J7_fill_53178 : GoodIn wsX0_layOut (va_wsS RX0 56 yJ7_fill_53178 wsJ7_fill_53178) := goodIn_app (goodIn_of _ (by decide +kernel)) ggX0_layOut_J7_fill_53178
theorem dX0_layOut_0 : decode cX0_layOut 0 = .ok (.aload_n 0, 1) := by decide +kernel
theorem dX0_layOut_1 : decode cX0_layOut 1 = .ok (.getfield 42, 3) := by decide +kernel
theorem dX0_layOut_4 : decode cX0_layOut 4 = .ok (.iconst (-1), 1) := by decide +kernel
theorem dX0_layOut_5 : decode cX0_layOut 5 = .ok (.invokestatic 56, 3) := by decide +kernel
theorem dX0_layOut_8 : decode cX0_layOut 8 = .ok (.aload_n 0, 1) := by decide +kernel
theorem dX0_layOut_9 : decode cX0_layOut 9 = .ok (.iconst 0, 1) := by decide +kernel
theorem dX0_layOut_10 : decode cX0_layOut 10 = .ok (.putfield 230, 3) := by decide +kernel
theorem dX0_layOut_13 : decode cX0_layOut 13 = .ok (.iconst 0, 1) := by decide +kernel
theorem dX0_layOut_14 : decode cX0_layOut 14 = .ok (.istore 4, 2) := by decide +kernel
theorem dX0_layOut_16 : decode cX0_layOut 16 = .ok (.iload 4, 2) := by decide +kernel
theorem dX0_layOut_18 : decode cX0_layOut 18 = .ok (.aload_n 0, 1) := by decide +kernel
theorem dX0_layOut_19 : decode cX0_layOut 19 = .ok (.getfield 75, 3) := by decide +kernel
theorem dX0_layOut_22 : decode cX0_layOut 22 = .ok (.if_icmp .ge 94, 3) := by decide +kernel
theorem dX0_layOut_25 : decode cX0_layOut 25 = .ok (.iload 4, 2) := by decide +kernel
theorem dX0_layOut_27 : decode cX0_layOut 27 = .ok (.iload_n 3, 1) := by decide +kernel
theorem dX0_layOut_28 : decode cX0_layOut 28 = .ok (.if_icmp .eq 20, 3) := by decide +kernel
theorem dX0_layOut_31 : decode cX0_layOut 31 = .ok (.iload 4, 2) := by decide +kernel
theorem dX0_layOut_33 : decode cX0_layOut 33 = .ok (.iload_n 2, 1) := by decide +kernel
theorem dX0_layOut_34 : decode cX0_layOut 34 = .ok (.if_icmp .eq 76, 3) := by decide +kernel
theorem dX0_layOut_37 : decode cX0_layOut 37 = .ok (.aload_n 0, 1) := by decide +kernel
theorem dX0_layOut_38 : decode cX0_layOut 38 = .ok (.getfield 22, 3) := by decide +kernel
theorem dX0_layOut_41 : decode cX0_layOut 41 = .ok (.iload 4, 2) := by decide +kernel
theorem dX0_layOut_43 : decode cX0_layOut 43 = .ok (.iaload, 1) := by decide +kernel
theorem dX0_layOut_44 : decode cX0_layOut 44 = .ok (.iload_n 1, 1) := by decide +kernel
theorem dX0_layOut_45 : decode cX0_layOut 45 = .ok (.if_icmp .ne 65, 3) := by decide +kernel
theorem dX0_layOut_48 : decode cX0_layOut 48 = .ok (.aload_n 0, 1) := by decide +kernel
theorem dX0_layOut_49 : decode cX0_layOut 49 = .ok (.getfield 9, 3) := by decide +kernel
theorem dX0_layOut_52 : decode cX0_layOut 52 = .ok (.iload 4, 2) := by decide +kernel
theorem dX0_layOut_54 : decode cX0_layOut 54 = .ok (.iaload, 1) := by decide +kernel
theorem dX0_layOut_55 : decode cX0_layOut 55 = .ok (.bipush 6, 2) := by decide +kernel
theorem dX0_layOut_57 : decode cX0_layOut 57 = .ok (.imul, 1) := by decide +kernel
theorem dX0_layOut_58 : decode cX0_layOut 58 = .ok (.aload_n 0, 1) := by decide +kernel
theorem dX0_layOut_59 : decode cX0_layOut 59 = .ok (.getfield 13, 3) := by decide +kernel
theorem dX0_layOut_62 : decode cX0_layOut 62 = .ok (.iload 4, 2) := by decide +kernel
theorem dX0_layOut_64 : decode cX0_layOut 64 = .ok (.iaload, 1) := by decide +kernel
theorem dX0_layOut_65 : decode cX0_layOut 65 = .ok (.iadd, 1) := by decide +kernel
theorem dX0_layOut_66 : decode cX0_layOut 66 = .ok (.istore 5, 2) := by decide +kernel
theorem dX0_layOut_68 : decode cX0_layOut 68 = .ok (.aload_n 0, 1) := by decide +kernel
theorem dX0_layOut_69 : decode cX0_layOut 69 = .ok (.getfield 42, 3) := by decide +kernel
theorem dX0_layOut_72 : decode cX0_layOut 72 = .ok (.iload 5, 2) := by decide +kernel
theorem dX0_layOut_74 : decode cX0_layOut 74 = .ok (.aload_n 0, 1) := by decide +kernel
theorem dX0_layOut_75 : decode cX0_layOut 75 = .ok (.getfield 42, 3) := by decide +kernel
theorem dX0_layOut_78 : decode cX0_layOut 78 = .ok (.iload 5, 2) := by decide +kernel
theorem dX0_layOut_80 : decode cX0_layOut 80 = .ok (.iaload, 1) := by decide +kernel
theorem dX0_layOut_81 : decode cX0_layOut 81 = .ok (.aload_n 0, 1) := by decide +kernel
theorem dX0_layOut_82 : decode cX0_layOut 82 = .ok (.getfield 19, 3) := by decide +kernel
theorem dX0_layOut_85 : decode cX0_layOut 85 = .ok (.iload 4, 2) := by decide +kernel
theorem dX0_layOut_87 : decode cX0_layOut 87 = .ok (.iaload, 1) := by decide +kernel
theorem dX0_layOut_88 : decode cX0_layOut 88 = .ok (.invokestatic 233, 3) := by decide +kernel
theorem dX0_layOut_91 : decode cX0_layOut 91 = .ok (.iastore, 1) := by decide +kernel
theorem dX0_layOut_92 : decode cX0_layOut 92 = .ok (.aload_n 0, 1) := by decide +kernel
theorem dX0_layOut_93 : decode cX0_layOut 93 = .ok (.dup, 1) := by decide +kernel
theorem dX0_layOut_94 : decode cX0_layOut 94 = .ok (.getfield 230, 3) := by decide +kernel
theorem dX0_layOut_97 : decode cX0_layOut 97 = .ok (.iconst 1, 1) := by decide +kernel
theorem dX0_layOut_98 : decode cX0_layOut 98 = .ok (.aload_n 0, 1) := by decide +kernel
theorem dX0_layOut_99 : decode cX0_layOut 99 = .ok (.getfield 16, 3) := by decide +kernel
theorem dX0_layOut_102 : decode cX0_layOut 102 = .ok (.iload 4, 2) := by decide +kernel
theorem dX0_layOut_104 : decode cX0_layOut 104 = .ok (.iaload, 1) := by decide +kernel
theorem dX0_layOut_105 : decode cX0_layOut 105 = .ok (.ishl, 1) := by decide +kernel
theorem dX0_layOut_106 : decode cX0_layOut 106 = .ok (.ior, 1) := by decide +kernel
theorem dX0_layOut_107 : decode cX0_layOut 107 = .ok (.putfield 230, 3) := by decide +kernel
theorem dX0_layOut_110 : decode cX0_layOut 110 = .ok (.iinc 4 1, 3) := by decide +kernel
theorem dX0_layOut_113 : decode cX0_layOut 113 = .ok (.goto (-97), 3) := by decide +kernel
theorem dX0_layOut_116 : decode cX0_layOut 116 = .ok (.return_, 1) := by decide +kernel
theorem dX0_numbersLaidOut_0 : decode cX0_numbersLaidOut 0 = .ok (.iconst 0, 1) := by decide +kernel
theorem dX0_numbersLaidOut_1 : decode cX0_numbersLaidOut 1 = .ok (.istore_n 2, 1) := by decide +kernel
theorem dX0_numbersLaidOut_2 : decode cX0_numbersLaidOut 2 = .ok (.iconst 0, 1) := by decide +kernel
theorem dX0_numbersLaidOut_3 : decode cX0_numbersLaidOut 3 = .ok (.istore_n 3, 1) := by decide +kernel
theorem dX0_numbersLaidOut_4 : decode cX0_numbersLaidOut 4 = .ok (.iload_n 3, 1) := by decide +kernel
theorem dX0_numbersLaidOut_5 : decode cX0_numbersLaidOut 5 = .ok (.bipush 6, 2) := by decide +kernel
theorem dX0_numbersLaidOut_7 : decode cX0_numbersLaidOut 7 = .ok (.if_icmp .ge 27, 3) := by decide +kernel
theorem dX0_numbersLaidOut_10 : decode cX0_numbersLaidOut 10 = .ok (.aload_n 0, 1) := by decide +kernel
theorem dX0_numbersLaidOut_11 : decode cX0_numbersLaidOut 11 = .ok (.getfield 42, 3) := by decide +kernel
theorem dX0_numbersLaidOut_14 : decode cX0_numbersLaidOut 14 = .ok (.iload_n 1, 1) := by decide +kernel
theorem dX0_numbersLaidOut_15 : decode cX0_numbersLaidOut 15 = .ok (.bipush 6, 2) := by decide +kernel
theorem dX0_numbersLaidOut_17 : decode cX0_numbersLaidOut 17 = .ok (.imul, 1) := by decide +kernel
theorem dX0_numbersLaidOut_18 : decode cX0_numbersLaidOut 18 = .ok (.iload_n 3, 1) := by decide +kernel
theorem dX0_numbersLaidOut_19 : decode cX0_numbersLaidOut 19 = .ok (.iadd, 1) := by decide +kernel
theorem dX0_numbersLaidOut_20 : decode cX0_numbersLaidOut 20 = .ok (.iaload, 1) := by decide +kernel
theorem dX0_numbersLaidOut_21 : decode cX0_numbersLaidOut 21 = .ok (.iconst (-1), 1) := by decide +kernel
theorem dX0_numbersLaidOut_22 : decode cX0_numbersLaidOut 22 = .ok (.if_icmp .eq 6, 3) := by decide +kernel
theorem dX0_numbersLaidOut_25 : decode cX0_numbersLaidOut 25 = .ok (.iinc 2 1, 3) := by decide +kernel
theorem dX0_numbersLaidOut_28 : decode cX0_numbersLaidOut 28 = .ok (.iinc 3 1, 3) := by decide +kernel
theorem dX0_numbersLaidOut_31 : decode cX0_numbersLaidOut 31 = .ok (.goto (-27), 3) := by decide +kernel
theorem dX0_numbersLaidOut_34 : decode cX0_numbersLaidOut 34 = .ok (.iload_n 2, 1) := by decide +kernel
theorem dX0_numbersLaidOut_35 : decode cX0_numbersLaidOut 35 = .ok (.ireturn, 1) := by decide +kernel
theorem dX0_statesLaidOut_0 : decode cX0_statesLaidOut 0 = .ok (.iconst 0, 1) := by decide +kernel
theorem dX0_statesLaidOut_1 : decode cX0_statesLaidOut 1 = .ok (.istore_n 2, 1) := by decide +kernel
theorem dX0_statesLaidOut_2 : decode cX0_statesLaidOut 2 = .ok (.iconst 0, 1) := by decide +kernel
theorem dX0_statesLaidOut_3 : decode cX0_statesLaidOut 3 = .ok (.istore_n 3, 1) := by decide +kernel
theorem dX0_statesLaidOut_4 : decode cX0_statesLaidOut 4 = .ok (.iload_n 3, 1) := by decide +kernel
theorem dX0_statesLaidOut_5 : decode cX0_statesLaidOut 5 = .ok (.bipush 6, 2) := by decide +kernel
theorem dX0_statesLaidOut_7 : decode cX0_statesLaidOut 7 = .ok (.if_icmp .ge 27, 3) := by decide +kernel
theorem dX0_statesLaidOut_10 : decode cX0_statesLaidOut 10 = .ok (.iload_n 2, 1) := by decide +kernel
theorem dX0_statesLaidOut_11 : decode cX0_statesLaidOut 11 = .ok (.aload_n 0, 1) := by decide +kernel
theorem dX0_statesLaidOut_12 : decode cX0_statesLaidOut 12 = .ok (.getfield 42, 3) := by decide +kernel
theorem dX0_statesLaidOut_15 : decode cX0_statesLaidOut 15 = .ok (.iload_n 1, 1) := by decide +kernel
theorem dX0_statesLaidOut_16 : decode cX0_statesLaidOut 16 = .ok (.bipush 6, 2) := by decide +kernel
theorem dX0_statesLaidOut_18 : decode cX0_statesLaidOut 18 = .ok (.imul, 1) := by decide +kernel
theorem dX0_statesLaidOut_19 : decode cX0_statesLaidOut 19 = .ok (.iload_n 3, 1) := by decide +kernel
theorem dX0_statesLaidOut_20 : decode cX0_statesLaidOut 20 = .ok (.iadd, 1) := by decide +kernel
theorem dX0_statesLaidOut_21 : decode cX0_statesLaidOut 21 = .ok (.iaload, 1) := by decide +kernel
theorem dX0_statesLaidOut_22 : decode cX0_statesLaidOut 22 = .ok (.iconst 0, 1) := by decide +kernel
theorem dX0_statesLaidOut_23 : decode cX0_statesLaidOut 23 = .ok (.invokestatic 233, 3) := by decide +kernel
theorem dX0_statesLaidOut_26 : decode cX0_statesLaidOut 26 = .ok (.iadd, 1) := by decide +kernel
theorem dX0_statesLaidOut_27 : decode cX0_statesLaidOut 27 = .ok (.istore_n 2, 1) := by decide +kernel
theorem dX0_statesLaidOut_28 : decode cX0_statesLaidOut 28 = .ok (.iinc 3 1, 3) := by decide +kernel
theorem dX0_statesLaidOut_31 : decode cX0_statesLaidOut 31 = .ok (.goto (-27), 3) := by decide +kernel
theorem dX0_statesLaidOut_34 : decode cX0_statesLaidOut 34 = .ok (.iload_n 2, 1) := by decide +kernel
theorem dX0_statesLaidOut_35 : decode cX0_statesLaidOut 35 = .ok (.ireturn, 1) := by decide +kernel
set_option maxRecDepth 20000 in
theorem ggX0_worthLaidOut_J6_bitCount_0f7a4 : GoodIn wsX0_worthLaidOut wsJ6_bitCount_0f7a4 := goodIn_r _ [6, 7, 8, 9] (by decide +kernel) (by decide +kernel)
set_option maxRecDepth 20000 in
theorem gX0_worthLaidOut_J6_bitCount_0f7a4 : GoodIn wsX0_worthLaidOut (va_wsS RX0 156 yJ6_bitCount_0f7a4 wsJ6_bitCount_0f7a4) := goodIn_app (goodIn_of _ (by decide +kernel)) ggX0_worthLaidOut_J6_bitCount_0f7a4
set_option maxRecDepth 20000 in
theorem ggX0_worthLaidOut_X0_numbersLaidOut : GoodIn wsX0_worthLaidOut wsX0_numbersLaidOut := goodIn_r _ [14, 15, 24, 25, 26, 27, 28, 29, 30, 31, 32, 33, 34, 35, 36, 37, 38, 39, 40] (by decide +kernel) (by decide +kernel)
set_option maxRecDepth 20000 in
theorem gX0_worthLaidOut_X0_numbersLaidOut : GoodIn wsX0_worthLaidOut (wsV RX0 167 RX0 yX0_numbersLaidOut wsX0_numbersLaidOut) := goodIn_app (goodIn_of _ (by decide +kernel)) ggX0_worthLaidOut_X0_numbersLaidOut
set_option maxRecDepth 20000 in
theorem ggX0_worthLaidOut_X0_statesLaidOut : GoodIn wsX0_worthLaidOut wsX0_statesLaidOut := goodIn_r _ [19, 15, 20, 21, 22, 23, 24, 25, 26, 27, 28, 29, 30, 31, 32, 33, 34, 35, 36, 37, 38, 39, 40] (by decide +kernel) (by decide +kernel)
set_option maxRecDepth 20000 in
theorem gX0_worthLaidOut_X0_statesLaidOut : GoodIn wsX0_worthLaidOut (wsV RX0 170 RX0 yX0_statesLaidOut wsX0_statesLaidOut) := goodIn_app (goodIn_of _ (by decide +kernel)) ggX0_worthLaidOut_X0_statesLaidOut
theorem dX0_worthLaidOut_0 : decode cX0_worthLaidOut 0 = .ok (.iconst 3, 1) := by decide +kernel
theorem dX0_worthLaidOut_1 : decode cX0_worthLaidOut 1 = .ok (.aload_n 0, 1) := by decide +kernel
theorem dX0_worthLaidOut_2 : decode cX0_worthLaidOut 2 = .ok (.getfield 230, 3) := by decide +kernel
theorem dX0_worthLaidOut_5 : decode cX0_worthLaidOut 5 = .ok (.invokestatic 156, 3) := by decide +kernel
theorem dX0_worthLaidOut_8 : decode cX0_worthLaidOut 8 = .ok (.imul, 1) := by decide +kernel
theorem dX0_worthLaidOut_9 : decode cX0_worthLaidOut 9 = .ok (.istore_n 2, 1) := by decide +kernel
theorem dX0_worthLaidOut_10 : decode cX0_worthLaidOut 10 = .ok (.iconst 0, 1) := by decide +kernel
theorem dX0_worthLaidOut_11 : decode cX0_worthLaidOut 11 = .ok (.istore_n 3, 1) := by decide +kernel
theorem dX0_worthLaidOut_12 : decode cX0_worthLaidOut 12 = .ok (.iload_n 3, 1) := by decide +kernel
theorem dX0_worthLaidOut_13 : decode cX0_worthLaidOut 13 = .ok (.bipush 8, 2) := by decide +kernel
theorem dX0_worthLaidOut_15 : decode cX0_worthLaidOut 15 = .ok (.if_icmp .ge 41, 3) := by decide +kernel
theorem dX0_worthLaidOut_18 : decode cX0_worthLaidOut 18 = .ok (.aload_n 0, 1) := by decide +kernel
theorem dX0_worthLaidOut_19 : decode cX0_worthLaidOut 19 = .ok (.iload_n 3, 1) := by decide +kernel
theorem dX0_worthLaidOut_20 : decode cX0_worthLaidOut 20 = .ok (.invokevirtual 167, 3) := by decide +kernel
theorem dX0_worthLaidOut_23 : decode cX0_worthLaidOut 23 = .ok (.istore 4, 2) := by decide +kernel
theorem dX0_worthLaidOut_25 : decode cX0_worthLaidOut 25 = .ok (.iload_n 2, 1) := by decide +kernel
theorem dX0_worthLaidOut_26 : decode cX0_worthLaidOut 26 = .ok (.aload_n 0, 1) := by decide +kernel
theorem dX0_worthLaidOut_27 : decode cX0_worthLaidOut 27 = .ok (.getfield 33, 3) := by decide +kernel
theorem dX0_worthLaidOut_30 : decode cX0_worthLaidOut 30 = .ok (.iload_n 1, 1) := by decide +kernel
theorem dX0_worthLaidOut_31 : decode cX0_worthLaidOut 31 = .ok (.aaload, 1) := by decide +kernel
theorem dX0_worthLaidOut_32 : decode cX0_worthLaidOut 32 = .ok (.iload_n 3, 1) := by decide +kernel
theorem dX0_worthLaidOut_33 : decode cX0_worthLaidOut 33 = .ok (.iaload, 1) := by decide +kernel
theorem dX0_worthLaidOut_34 : decode cX0_worthLaidOut 34 = .ok (.iconst 2, 1) := by decide +kernel
theorem dX0_worthLaidOut_35 : decode cX0_worthLaidOut 35 = .ok (.imul, 1) := by decide +kernel
theorem dX0_worthLaidOut_36 : decode cX0_worthLaidOut 36 = .ok (.iload 4, 2) := by decide +kernel
theorem dX0_worthLaidOut_38 : decode cX0_worthLaidOut 38 = .ok (.imul, 1) := by decide +kernel
theorem dX0_worthLaidOut_39 : decode cX0_worthLaidOut 39 = .ok (.iload 4, 2) := by decide +kernel
theorem dX0_worthLaidOut_41 : decode cX0_worthLaidOut 41 = .ok (.imul, 1) := by decide +kernel
theorem dX0_worthLaidOut_42 : decode cX0_worthLaidOut 42 = .ok (.aload_n 0, 1) := by decide +kernel
theorem dX0_worthLaidOut_43 : decode cX0_worthLaidOut 43 = .ok (.iload_n 3, 1) := by decide +kernel
theorem dX0_worthLaidOut_44 : decode cX0_worthLaidOut 44 = .ok (.invokevirtual 170, 3) := by decide +kernel
theorem dX0_worthLaidOut_47 : decode cX0_worthLaidOut 47 = .ok (.iadd, 1) := by decide +kernel
theorem dX0_worthLaidOut_48 : decode cX0_worthLaidOut 48 = .ok (.iadd, 1) := by decide +kernel
theorem dX0_worthLaidOut_49 : decode cX0_worthLaidOut 49 = .ok (.istore_n 2, 1) := by decide +kernel
theorem dX0_worthLaidOut_50 : decode cX0_worthLaidOut 50 = .ok (.iinc 3 1, 3) := by decide +kernel
theorem dX0_worthLaidOut_53 : decode cX0_worthLaidOut 53 = .ok (.goto (-41), 3) := by decide +kernel
theorem dX0_worthLaidOut_56 : decode cX0_worthLaidOut 56 = .ok (.iload_n 2, 1) := by decide +kernel
theorem dX0_worthLaidOut_57 : decode cX0_worthLaidOut 57 = .ok (.ireturn, 1) := by decide +kernel
set_option maxRecDepth 20000 in
theorem ggX0_worthNow_X0_layOutOwn : GoodIn wsX0_worthNow wsX0_layOutOwn := goodIn_r _ [5, 6, 7, 8, 4, 9, 10, 11, 12, 13, 14, 15, 16, 17, 18, 19, 20, 21, 22, 23, 24, 25, 46, 47, 48, 49, 50, 51, 52, 53, 54, 55, 56, 57, 58, 59, 60, 61, 62] (by decide +kernel) (by decide +kernel)
set_option maxRecDepth 20000 in
theorem gX0_worthNow_X0_layOutOwn : GoodIn wsX0_worthNow (wsV RX0 164 RX0 yX0_layOutOwn wsX0_layOutOwn) := goodIn_app (goodIn_of _ (by decide +kernel)) ggX0_worthNow_X0_layOutOwn
set_option maxRecDepth 20000 in
theorem ggX0_worthNow_X0_worthLaidOut : GoodIn wsX0_worthNow wsX0_worthLaidOut := goodIn_r _ [29, 11, 30, 31, 32, 33, 34, 35, 36, 37, 38, 39, 40, 4, 41, 10, 42, 43, 44, 45, 17, 18, 19, 20, 46, 47, 48, 49, 50, 51, 52, 53, 54, 55, 56, 57, 58, 59, 60, 61, 62] (by decide +kernel) (by decide +kernel)
set_option maxRecDepth 20000 in
theorem gX0_worthNow_X0_worthLaidOut : GoodIn wsX0_worthNow (wsV RX0 238 RX0 yX0_worthLaidOut wsX0_worthLaidOut) := goodIn_app (goodIn_of _ (by decide +kernel)) ggX0_worthNow_X0_worthLaidOut
theorem dX0_worthNow_0 : decode cX0_worthNow 0 = .ok (.aload_n 0, 1) := by decide +kernel
theorem dX0_worthNow_1 : decode cX0_worthNow 1 = .ok (.iload_n 1, 1) := by decide +kernel
theorem dX0_worthNow_2 : decode cX0_worthNow 2 = .ok (.invokevirtual 164, 3) := by decide +kernel
theorem dX0_worthNow_5 : decode cX0_worthNow 5 = .ok (.aload_n 0, 1) := by decide +kernel
theorem dX0_worthNow_6 : decode cX0_worthNow 6 = .ok (.iload_n 1, 1) := by decide +kernel
theorem dX0_worthNow_7 : decode cX0_worthNow 7 = .ok (.invokevirtual 238, 3) := by decide +kernel
theorem dX0_worthNow_10 : decode cX0_worthNow 10 = .ok (.ireturn, 1) := by decide +kernel
set_option maxRecDepth 20000 in
theorem ggX0_worthAfter_X0_layOut : GoodIn wsX0_worthAfter wsX0_layOut := goodIn_r _ [5, 6, 7, 8, 9, 10, 11, 12, 13, 14, 15, 16, 17, 18, 19, 20, 21, 42, 43, 44, 45, 46, 47, 48, 49, 50, 51, 52, 53, 54, 55, 56, 57, 58] (by decide +kernel) (by decide +kernel)
set_option maxRecDepth 20000 in
theorem gX0_worthAfter_X0_layOut : GoodIn wsX0_worthAfter (wsV RX0 226 RX0 yX0_layOut wsX0_layOut) := goodIn_app (goodIn_of _ (by decide +kernel)) ggX0_worthAfter_X0_layOut
set_option maxRecDepth 20000 in
theorem ggX0_worthAfter_X0_worthLaidOut : GoodIn wsX0_worthAfter wsX0_worthLaidOut := goodIn_r _ [25, 7, 26, 27, 28, 29, 30, 31, 32, 33, 34, 35, 36, 4, 37, 6, 38, 39, 40, 41, 13, 14, 15, 16, 42, 43, 44, 45, 46, 47, 48, 49, 50, 51, 52, 53, 54, 55, 56, 57, 58] (by decide +kernel) (by decide +kernel)
set_option maxRecDepth 20000 in
theorem gX0_worthAfter_X0_worthLaidOut : GoodIn wsX0_worthAfter (wsV RX0 238 RX0 yX0_worthLaidOut wsX0_worthLaidOut) := goodIn_app (goodIn_of _ (by decide +kernel)) ggX0_worthAfter_X0_worthLaidOut
theorem dX0_worthAfter_0 : decode cX0_worthAfter 0 = .ok (.aload_n 0, 1) := by decide +kernel
theorem dX0_worthAfter_1 : decode cX0_worthAfter 1 = .ok (.iload_n 1, 1) := by decide +kernel
theorem dX0_worthAfter_2 : decode cX0_worthAfter 2 = .ok (.iload_n 2, 1) := by decide +kernel
theorem dX0_worthAfter_3 : decode cX0_worthAfter 3 = .ok (.iload_n 3, 1) := by decide +kernel
theorem dX0_worthAfter_4 : decode cX0_worthAfter 4 = .ok (.invokevirtual 226, 3) := by decide +kernel
theorem dX0_worthAfter_7 : decode cX0_worthAfter 7 = .ok (.aload_n 0, 1) := by decide +kernel
theorem dX0_worthAfter_8 : decode cX0_worthAfter 8 = .ok (.iload_n 1, 1) := by decide +kernel
theorem dX0_worthAfter_9 : decode cX0_worthAfter 9 = .ok (.invokevirtual 238, 3) := by decide +kernel
theorem dX0_worthAfter_12 : decode cX0_worthAfter 12 = .ok (.ireturn, 1) := by decide +kernel
set_option maxRecDepth 20000 in
theorem ggX0_worthOfAll_X0_worthNow : GoodIn wsX0_worthOfAll wsX0_worthNow := goodIn_r _ [6, 7, 8, 9, 5, 10, 11, 12, 13, 14, 15, 16, 17, 18, 19, 20, 21, 22, 23, 24, 25, 26, 27, 28, 29, 30, 31, 32, 33, 34, 35, 36, 37, 38, 39, 40, 41, 42, 43, 44, 45, 46, 47, 48, 49, 50, 51, 52, 53, 54, 55, 56, 57, 58, 59, 60, 61, 62, 63, 64, 65, 66, 67] (by decide +kernel) (by decide +kernel)
set_option maxRecDepth 20000 in
theorem gX0_worthOfAll_X0_worthNow : GoodIn wsX0_worthOfAll (wsV RX0 99 RX0 yX0_worthNow wsX0_worthNow) := goodIn_app (goodIn_of _ (by decide +kernel)) ggX0_worthOfAll_X0_worthNow
theorem dX0_worthOfAll_0 : decode cX0_worthOfAll 0 = .ok (.iconst 0, 1) := by decide +kernel
theorem dX0_worthOfAll_1 : decode cX0_worthOfAll 1 = .ok (.istore_n 1, 1) := by decide +kernel
theorem dX0_worthOfAll_2 : decode cX0_worthOfAll 2 = .ok (.iconst 0, 1) := by decide +kernel
theorem dX0_worthOfAll_3 : decode cX0_worthOfAll 3 = .ok (.istore_n 2, 1) := by decide +kernel
theorem dX0_worthOfAll_4 : decode cX0_worthOfAll 4 = .ok (.iload_n 2, 1) := by decide +kernel
theorem dX0_worthOfAll_5 : decode cX0_worthOfAll 5 = .ok (.aload_n 0, 1) := by decide +kernel
theorem dX0_worthOfAll_6 : decode cX0_worthOfAll 6 = .ok (.getfield 45, 3) := by decide +kernel
theorem dX0_worthOfAll_9 : decode cX0_worthOfAll 9 = .ok (.if_icmp .ge 17, 3) := by decide +kernel
theorem dX0_worthOfAll_12 : decode cX0_worthOfAll 12 = .ok (.iload_n 1, 1) := by decide +kernel
theorem dX0_worthOfAll_13 : decode cX0_worthOfAll 13 = .ok (.aload_n 0, 1) := by decide +kernel
theorem dX0_worthOfAll_14 : decode cX0_worthOfAll 14 = .ok (.iload_n 2, 1) := by decide +kernel
theorem dX0_worthOfAll_15 : decode cX0_worthOfAll 15 = .ok (.invokevirtual 99, 3) := by decide +kernel
theorem dX0_worthOfAll_18 : decode cX0_worthOfAll 18 = .ok (.iadd, 1) := by decide +kernel
theorem dX0_worthOfAll_19 : decode cX0_worthOfAll 19 = .ok (.istore_n 1, 1) := by decide +kernel
theorem dX0_worthOfAll_20 : decode cX0_worthOfAll 20 = .ok (.iinc 2 1, 3) := by decide +kernel
theorem dX0_worthOfAll_23 : decode cX0_worthOfAll 23 = .ok (.goto (-19), 3) := by decide +kernel
theorem dX0_worthOfAll_26 : decode cX0_worthOfAll 26 = .ok (.iload_n 1, 1) := by decide +kernel
theorem dX0_worthOfAll_27 : decode cX0_worthOfAll 27 = .ok (.ireturn, 1) := by decide +kernel
set_option maxRecDepth 20000 in
theorem ggX0_differentHallmarks_X0_layOutOwn : GoodIn wsX0_differentHallmarks wsX0_layOutOwn := goodIn_r _ [6, 7, 8, 9, 5, 10, 11, 1, 12, 13, 14, 15, 16, 17, 18, 19, 20, 21, 22, 23, 24, 25, 33, 34, 35, 36, 37, 38, 39, 40, 41, 42, 43, 44, 45, 46, 47, 48, 49] (by decide +kernel) (by decide +kernel)
set_option maxRecDepth 20000 in
theorem gX0_differentHallmarks_X0_layOutOwn : GoodIn wsX0_differentHallmarks (wsV RX0 164 RX0 yX0_layOutOwn wsX0_layOutOwn) := goodIn_app (goodIn_of _ (by decide +kernel)) ggX0_differentHallmarks_X0_layOutOwn
set_option maxRecDepth 20000 in
theorem ggX0_differentHallmarks_J6_bitCount_0f7a4 : GoodIn wsX0_differentHallmarks wsJ6_bitCount_0f7a4 := goodIn_r _ [29, 30, 31, 32] (by decide +kernel) (by decide +kernel)
set_option maxRecDepth 20000 in
theorem gX0_differentHallmarks_J6_bitCount_0f7a4 : GoodIn wsX0_differentHallmarks (va_wsS RX0 156 yJ6_bitCount_0f7a4 wsJ6_bitCount_0f7a4) := goodIn_app (goodIn_of _ (by decide +kernel)) ggX0_differentHallmarks_J6_bitCount_0f7a4
theorem dX0_differentHallmarks_0 : decode cX0_differentHallmarks 0 = .ok (.aload_n 0, 1) := by decide +kernel
theorem dX0_differentHallmarks_1 : decode cX0_differentHallmarks 1 = .ok (.iload_n 1, 1) := by decide +kernel
theorem dX0_differentHallmarks_2 : decode cX0_differentHallmarks 2 = .ok (.invokevirtual 164, 3) := by decide +kernel
theorem dX0_differentHallmarks_5 : decode cX0_differentHallmarks 5 = .ok (.aload_n 0, 1) := by decide +kernel
theorem dX0_differentHallmarks_6 : decode cX0_differentHallmarks 6 = .ok (.getfield 230, 3) := by decide +kernel
theorem dX0_differentHallmarks_9 : decode cX0_differentHallmarks 9 = .ok (.invokestatic 156, 3) := by decide +kernel
theorem dX0_differentHallmarks_12 : decode cX0_differentHallmarks 12 = .ok (.ireturn, 1) := by decide +kernel
set_option maxRecDepth 20000 in
theorem ggX0_wholeSets_X0_layOutOwn : GoodIn wsX0_wholeSets wsX0_layOutOwn := goodIn_r _ [5, 6, 7, 8, 4, 9, 10, 11, 12, 13, 14, 15, 16, 17, 18, 19, 20, 21, 22, 23, 24, 25, 30, 31, 32, 33, 34, 35, 36, 37, 38, 39, 40, 41, 42, 43, 44, 45, 46] (by decide +kernel) (by decide +kernel)
set_option maxRecDepth 20000 in
theorem gX0_wholeSets_X0_layOutOwn : GoodIn wsX0_wholeSets (wsV RX0 164 RX0 yX0_layOutOwn wsX0_layOutOwn) := goodIn_app (goodIn_of _ (by decide +kernel)) ggX0_wholeSets_X0_layOutOwn
set_option maxRecDepth 20000 in
theorem ggX0_wholeSets_X0_numbersLaidOut : GoodIn wsX0_wholeSets wsX0_numbersLaidOut := goodIn_r _ [29, 10, 30, 31, 32, 33, 34, 35, 36, 37, 38, 39, 40, 41, 42, 43, 44, 45, 46] (by decide +kernel) (by decide +kernel)
set_option maxRecDepth 20000 in
theorem gX0_wholeSets_X0_numbersLaidOut : GoodIn wsX0_wholeSets (wsV RX0 167 RX0 yX0_numbersLaidOut wsX0_numbersLaidOut) := goodIn_app (goodIn_of _ (by decide +kernel)) ggX0_wholeSets_X0_numbersLaidOut
theorem dX0_wholeSets_0 : decode cX0_wholeSets 0 = .ok (.aload_n 0, 1) := by decide +kernel
theorem dX0_wholeSets_1 : decode cX0_wholeSets 1 = .ok (.iload_n 1, 1) := by decide +kernel
theorem dX0_wholeSets_2 : decode cX0_wholeSets 2 = .ok (.invokevirtual 164, 3) := by decide +kernel
theorem dX0_wholeSets_5 : decode cX0_wholeSets 5 = .ok (.iconst 0, 1) := by decide +kernel
theorem dX0_wholeSets_6 : decode cX0_wholeSets 6 = .ok (.istore_n 2, 1) := by decide +kernel
theorem dX0_wholeSets_7 : decode cX0_wholeSets 7 = .ok (.iconst 0, 1) := by decide +kernel
theorem dX0_wholeSets_8 : decode cX0_wholeSets 8 = .ok (.istore_n 3, 1) := by decide +kernel
theorem dX0_wholeSets_9 : decode cX0_wholeSets 9 = .ok (.iload_n 3, 1) := by decide +kernel
theorem dX0_wholeSets_10 : decode cX0_wholeSets 10 = .ok (.bipush 8, 2) := by decide +kernel
theorem dX0_wholeSets_12 : decode cX0_wholeSets 12 = .ok (.if_icmp .ge 22, 3) := by decide +kernel
theorem dX0_wholeSets_15 : decode cX0_wholeSets 15 = .ok (.aload_n 0, 1) := by decide +kernel
theorem dX0_wholeSets_16 : decode cX0_wholeSets 16 = .ok (.iload_n 3, 1) := by decide +kernel
theorem dX0_wholeSets_17 : decode cX0_wholeSets 17 = .ok (.invokevirtual 167, 3) := by decide +kernel
theorem dX0_wholeSets_20 : decode cX0_wholeSets 20 = .ok (.bipush 6, 2) := by decide +kernel
theorem dX0_wholeSets_22 : decode cX0_wholeSets 22 = .ok (.if_icmp .ne 6, 3) := by decide +kernel
theorem dX0_wholeSets_25 : decode cX0_wholeSets 25 = .ok (.iinc 2 1, 3) := by decide +kernel
theorem dX0_wholeSets_28 : decode cX0_wholeSets 28 = .ok (.iinc 3 1, 3) := by decide +kernel
theorem dX0_wholeSets_31 : decode cX0_wholeSets 31 = .ok (.goto (-22), 3) := by decide +kernel
theorem dX0_wholeSets_34 : decode cX0_wholeSets 34 = .ok (.iload_n 2, 1) := by decide +kernel
theorem dX0_wholeSets_35 : decode cX0_wholeSets 35 = .ok (.ireturn, 1) := by decide +kernel
set_option maxRecDepth 20000 in
theorem ggX0_gainOfOwner_X0_worthAfter : GoodIn wsX0_gainOfOwner wsX0_worthAfter := goodIn_r _ [6, 7, 8, 9, 5, 10, 11, 12, 13, 1, 14, 15, 16, 17, 18, 19, 20, 21, 22, 23, 24, 25, 26, 27, 28, 29, 30, 31, 32, 33, 34, 35, 36, 37, 38, 39, 40, 41, 42, 43, 44, 45, 54, 55, 56, 57, 58, 59, 60, 61, 62, 63, 64, 65, 66, 67, 68, 69, 70] (by decide +kernel) (by decide +kernel)
set_option maxRecDepth 20000 in
theorem gX0_gainOfOwner_X0_worthAfter : GoodIn wsX0_gainOfOwner (wsV RX0 241 RX0 yX0_worthAfter wsX0_worthAfter) := goodIn_app (goodIn_of _ (by decide +kernel)) ggX0_gainOfOwner_X0_worthAfter
set_option maxRecDepth 20000 in
theorem ggX0_gainOfOwner_X0_worthNow : GoodIn wsX0_gainOfOwner wsX0_worthNow := goodIn_r _ [49, 50, 51, 52, 5, 53, 7, 8, 9, 10, 11, 12, 13, 1, 14, 15, 16, 17, 18, 19, 20, 21, 22, 23, 24, 25, 26, 27, 28, 29, 30, 31, 32, 33, 34, 35, 36, 37, 38, 39, 40, 41, 42, 43, 44, 45, 54, 55, 56, 57, 58, 59, 60, 61, 62, 63, 64, 65, 66, 67, 68, 69, 70] (by decide +kernel) (by decide +kernel)
set_option maxRecDepth 20000 in
theorem gX0_gainOfOwner_X0_worthNow : GoodIn wsX0_gainOfOwner (wsV RX0 99 RX0 yX0_worthNow wsX0_worthNow) := goodIn_app (goodIn_of _ (by decide +kernel)) ggX0_gainOfOwner_X0_worthNow
theorem dX0_gainOfOwner_0 : decode cX0_gainOfOwner 0 = .ok (.aload_n 0, 1) := by decide +kernel
theorem dX0_gainOfOwner_1 : decode cX0_gainOfOwner 1 = .ok (.getfield 22, 3) := by decide +kernel
theorem dX0_gainOfOwner_4 : decode cX0_gainOfOwner 4 = .ok (.iload_n 1, 1) := by decide +kernel
theorem dX0_gainOfOwner_5 : decode cX0_gainOfOwner 5 = .ok (.iaload, 1) := by decide +kernel
theorem dX0_gainOfOwner_6 : decode cX0_gainOfOwner 6 = .ok (.istore_n 3, 1) := by decide +kernel
theorem dX0_gainOfOwner_7 : decode cX0_gainOfOwner 7 = .ok (.aload_n 0, 1) := by decide +kernel
theorem dX0_gainOfOwner_8 : decode cX0_gainOfOwner 8 = .ok (.iload_n 3, 1) := by decide +kernel
theorem dX0_gainOfOwner_9 : decode cX0_gainOfOwner 9 = .ok (.iload_n 1, 1) := by decide +kernel
theorem dX0_gainOfOwner_10 : decode cX0_gainOfOwner 10 = .ok (.iload_n 2, 1) := by decide +kernel
theorem dX0_gainOfOwner_11 : decode cX0_gainOfOwner 11 = .ok (.invokevirtual 241, 3) := by decide +kernel
theorem dX0_gainOfOwner_14 : decode cX0_gainOfOwner 14 = .ok (.aload_n 0, 1) := by decide +kernel
theorem dX0_gainOfOwner_15 : decode cX0_gainOfOwner 15 = .ok (.iload_n 3, 1) := by decide +kernel
theorem dX0_gainOfOwner_16 : decode cX0_gainOfOwner 16 = .ok (.invokevirtual 99, 3) := by decide +kernel
theorem dX0_gainOfOwner_19 : decode cX0_gainOfOwner 19 = .ok (.isub, 1) := by decide +kernel
theorem dX0_gainOfOwner_20 : decode cX0_gainOfOwner 20 = .ok (.ireturn, 1) := by decide +kernel
theorem dX0_isEnough_0 : decode cX0_isEnough 0 = .ok (.iload_n 1, 1) := by decide +kernel
theorem dX0_isEnough_1 : decode cX0_isEnough 1 = .ok (.iconst 2, 1) := by decide +kernel
theorem dX0_isEnough_2 : decode cX0_isEnough 2 = .ok (.aload_n 0, 1) := by decide +kernel
theorem dX0_isEnough_3 : decode cX0_isEnough 3 = .ok (.getfield 36, 3) := by decide +kernel
theorem dX0_isEnough_6 : decode cX0_isEnough 6 = .ok (.iload_n 2, 1) := by decide +kernel
theorem dX0_isEnough_7 : decode cX0_isEnough 7 = .ok (.aaload, 1) := by decide +kernel
theorem dX0_isEnough_8 : decode cX0_isEnough 8 = .ok (.iload_n 3, 1) := by decide +kernel
theorem dX0_isEnough_9 : decode cX0_isEnough 9 = .ok (.iaload, 1) := by decide +kernel
theorem dX0_isEnough_10 : decode cX0_isEnough 10 = .ok (.imul, 1) := by decide +kernel
theorem dX0_isEnough_11 : decode cX0_isEnough 11 = .ok (.if_icmp .le 7, 3) := by decide +kernel
theorem dX0_isEnough_14 : decode cX0_isEnough 14 = .ok (.iconst 1, 1) := by decide +kernel
theorem dX0_isEnough_15 : decode cX0_isEnough 15 = .ok (.goto 4, 3) := by decide +kernel
theorem dX0_isEnough_18 : decode cX0_isEnough 18 = .ok (.iconst 0, 1) := by decide +kernel
theorem dX0_isEnough_19 : decode cX0_isEnough 19 = .ok (.ireturn, 1) := by decide +kernel
theorem dX0_oneIfAbove0_0 : decode cX0_oneIfAbove0 0 = .ok (.iload_n 0, 1) := by decide +kernel
theorem dX0_oneIfAbove0_1 : decode cX0_oneIfAbove0 1 = .ok (.ifCond .le 7, 3) := by decide +kernel
theorem dX0_oneIfAbove0_4 : decode cX0_oneIfAbove0 4 = .ok (.iconst 1, 1) := by decide +kernel
theorem dX0_oneIfAbove0_5 : decode cX0_oneIfAbove0 5 = .ok (.goto 4, 3) := by decide +kernel
theorem dX0_oneIfAbove0_8 : decode cX0_oneIfAbove0 8 = .ok (.iconst 0, 1) := by decide +kernel
theorem dX0_oneIfAbove0_9 : decode cX0_oneIfAbove0 9 = .ok (.ireturn, 1) := by decide +kernel
set_option maxRecDepth 20000 in
theorem ggX0_bestSwapOf_X0_worthNow : GoodIn wsX0_bestSwapOf wsX0_worthNow := goodIn_r _ [6, 7, 8, 9, 5, 10, 11, 12, 13, 14, 15, 16, 1, 17, 18, 19, 20, 21, 22, 23, 24, 25, 26, 27, 28, 29, 30, 31, 32, 33, 34, 35, 36, 37, 38, 39, 40, 41, 42, 43, 44, 45, 46, 47, 48, 49, 68, 69, 70, 71, 72, 73, 74, 75, 76, 77, 78, 79, 80, 81, 82, 83, 84] (by decide +kernel) (by decide +kernel)
set_option maxRecDepth 20000 in
theorem gX0_bestSwapOf_X0_worthNow : GoodIn wsX0_bestSwapOf (wsV RX0 99 RX0 yX0_worthNow wsX0_worthNow) := goodIn_app (goodIn_of _ (by decide +kernel)) ggX0_bestSwapOf_X0_worthNow
set_option maxRecDepth 20000 in
theorem ggX0_bestSwapOf_X0_isAtHomeWith : GoodIn wsX0_bestSwapOf wsX0_isAtHomeWith := goodIn_r _ [53, 17, 54, 55, 56, 5, 57, 58, 68, 69, 70, 71, 72, 73, 74, 75, 76, 77, 78, 79, 80, 81, 82, 83, 84] (by decide +kernel) (by decide +kernel)
set_option maxRecDepth 20000 in
theorem gX0_bestSwapOf_X0_isAtHomeWith : GoodIn wsX0_bestSwapOf (wsV RX0 245 RX0 yX0_isAtHomeWith wsX0_isAtHomeWith) := goodIn_app (goodIn_of _ (by decide +kernel)) ggX0_bestSwapOf_X0_isAtHomeWith
set_option maxRecDepth 20000 in
theorem ggX0_bestSwapOf_X0_worthAfter : GoodIn wsX0_bestSwapOf wsX0_worthAfter := goodIn_r _ [62, 11, 12, 13, 5, 14, 15, 16, 1, 17, 18, 19, 20, 21, 22, 23, 24, 25, 26, 27, 28, 29, 30, 31, 32, 33, 34, 35, 36, 37, 38, 39, 40, 41, 42, 43, 44, 45, 46, 47, 48, 49, 68, 69, 70, 71, 72, 73, 74, 75, 76, 77, 78, 79, 80, 81, 82, 83, 84] (by decide +kernel) (by decide +kernel)
set_option maxRecDepth 20000 in
theorem gX0_bestSwapOf_X0_worthAfter : GoodIn wsX0_bestSwapOf (wsV RX0 241 RX0 yX0_worthAfter wsX0_worthAfter) := goodIn_app (goodIn_of _ (by decide +kernel)) ggX0_bestSwapOf_X0_worthAfter
set_option maxRecDepth 20000 in
theorem ggX0_bestSwapOf_X0_isEnough : GoodIn wsX0_bestSwapOf wsX0_isEnough := goodIn_r _ [66, 67, 68, 69, 70, 71, 72, 73, 74, 75, 76, 77, 78, 79, 80, 81, 82, 83, 84] (by decide +kernel) (by decide +kernel)
set_option maxRecDepth 20000 in
theorem gX0_bestSwapOf_X0_isEnough : GoodIn wsX0_bestSwapOf (wsV RX0 121 RX0 yX0_isEnough wsX0_isEnough) := goodIn_app (goodIn_of _ (by decide +kernel)) ggX0_bestSwapOf_X0_isEnough
theorem dX0_bestSwapOf_0 : decode cX0_bestSwapOf 0 = .ok (.aload_n 0, 1) := by decide +kernel
theorem dX0_bestSwapOf_1 : decode cX0_bestSwapOf 1 = .ok (.iload_n 1, 1) := by decide +kernel
theorem dX0_bestSwapOf_2 : decode cX0_bestSwapOf 2 = .ok (.invokevirtual 99, 3) := by decide +kernel
theorem dX0_bestSwapOf_5 : decode cX0_bestSwapOf 5 = .ok (.istore_n 3, 1) := by decide +kernel
theorem dX0_bestSwapOf_6 : decode cX0_bestSwapOf 6 = .ok (.aload_n 0, 1) := by decide +kernel
theorem dX0_bestSwapOf_7 : decode cX0_bestSwapOf 7 = .ok (.iload_n 2, 1) := by decide +kernel
theorem dX0_bestSwapOf_8 : decode cX0_bestSwapOf 8 = .ok (.invokevirtual 99, 3) := by decide +kernel
theorem dX0_bestSwapOf_11 : decode cX0_bestSwapOf 11 = .ok (.istore 4, 2) := by decide +kernel
theorem dX0_bestSwapOf_13 : decode cX0_bestSwapOf 13 = .ok (.iconst (-1), 1) := by decide +kernel
theorem dX0_bestSwapOf_14 : decode cX0_bestSwapOf 14 = .ok (.istore 5, 2) := by decide +kernel
theorem dX0_bestSwapOf_16 : decode cX0_bestSwapOf 16 = .ok (.iconst 0, 1) := by decide +kernel
theorem dX0_bestSwapOf_17 : decode cX0_bestSwapOf 17 = .ok (.istore 6, 2) := by decide +kernel
theorem dX0_bestSwapOf_19 : decode cX0_bestSwapOf 19 = .ok (.iconst 0, 1) := by decide +kernel
theorem dX0_bestSwapOf_20 : decode cX0_bestSwapOf 20 = .ok (.istore 7, 2) := by decide +kernel
theorem dX0_bestSwapOf_22 : decode cX0_bestSwapOf 22 = .ok (.iload 7, 2) := by decide +kernel
theorem dX0_bestSwapOf_24 : decode cX0_bestSwapOf 24 = .ok (.aload_n 0, 1) := by decide +kernel
theorem dX0_bestSwapOf_25 : decode cX0_bestSwapOf 25 = .ok (.getfield 75, 3) := by decide +kernel
theorem dX0_bestSwapOf_28 : decode cX0_bestSwapOf 28 = .ok (.if_icmp .ge 132, 3) := by decide +kernel
theorem dX0_bestSwapOf_31 : decode cX0_bestSwapOf 31 = .ok (.aload_n 0, 1) := by decide +kernel
theorem dX0_bestSwapOf_32 : decode cX0_bestSwapOf 32 = .ok (.iload 7, 2) := by decide +kernel
theorem dX0_bestSwapOf_34 : decode cX0_bestSwapOf 34 = .ok (.iload_n 1, 1) := by decide +kernel
theorem dX0_bestSwapOf_35 : decode cX0_bestSwapOf 35 = .ok (.invokevirtual 245, 3) := by decide +kernel
theorem dX0_bestSwapOf_38 : decode cX0_bestSwapOf 38 = .ok (.ifCond .ne 6, 3) := by decide +kernel
theorem dX0_bestSwapOf_41 : decode cX0_bestSwapOf 41 = .ok (.goto 113, 3) := by decide +kernel
theorem dX0_bestSwapOf_44 : decode cX0_bestSwapOf 44 = .ok (.iconst 0, 1) := by decide +kernel
theorem dX0_bestSwapOf_45 : decode cX0_bestSwapOf 45 = .ok (.istore 8, 2) := by decide +kernel
theorem dX0_bestSwapOf_47 : decode cX0_bestSwapOf 47 = .ok (.iload 8, 2) := by decide +kernel
theorem dX0_bestSwapOf_49 : decode cX0_bestSwapOf 49 = .ok (.aload_n 0, 1) := by decide +kernel
theorem dX0_bestSwapOf_50 : decode cX0_bestSwapOf 50 = .ok (.getfield 75, 3) := by decide +kernel
theorem dX0_bestSwapOf_53 : decode cX0_bestSwapOf 53 = .ok (.if_icmp .ge 101, 3) := by decide +kernel
theorem dX0_bestSwapOf_56 : decode cX0_bestSwapOf 56 = .ok (.aload_n 0, 1) := by decide +kernel
theorem dX0_bestSwapOf_57 : decode cX0_bestSwapOf 57 = .ok (.iload 8, 2) := by decide +kernel
theorem dX0_bestSwapOf_59 : decode cX0_bestSwapOf 59 = .ok (.iload_n 2, 1) := by decide +kernel
theorem dX0_bestSwapOf_60 : decode cX0_bestSwapOf 60 = .ok (.invokevirtual 245, 3) := by decide +kernel
theorem dX0_bestSwapOf_63 : decode cX0_bestSwapOf 63 = .ok (.ifCond .ne 6, 3) := by decide +kernel
theorem dX0_bestSwapOf_66 : decode cX0_bestSwapOf 66 = .ok (.goto 82, 3) := by decide +kernel
theorem dX0_bestSwapOf_69 : decode cX0_bestSwapOf 69 = .ok (.aload_n 0, 1) := by decide +kernel
theorem dX0_bestSwapOf_70 : decode cX0_bestSwapOf 70 = .ok (.iload_n 1, 1) := by decide +kernel
theorem dX0_bestSwapOf_71 : decode cX0_bestSwapOf 71 = .ok (.iload 7, 2) := by decide +kernel
theorem dX0_bestSwapOf_73 : decode cX0_bestSwapOf 73 = .ok (.iload 8, 2) := by decide +kernel
theorem dX0_bestSwapOf_75 : decode cX0_bestSwapOf 75 = .ok (.invokevirtual 241, 3) := by decide +kernel
theorem dX0_bestSwapOf_78 : decode cX0_bestSwapOf 78 = .ok (.iload_n 3, 1) := by decide +kernel
theorem dX0_bestSwapOf_79 : decode cX0_bestSwapOf 79 = .ok (.isub, 1) := by decide +kernel
theorem dX0_bestSwapOf_80 : decode cX0_bestSwapOf 80 = .ok (.istore 9, 2) := by decide +kernel
theorem dX0_bestSwapOf_82 : decode cX0_bestSwapOf 82 = .ok (.aload_n 0, 1) := by decide +kernel
theorem dX0_bestSwapOf_83 : decode cX0_bestSwapOf 83 = .ok (.iload 9, 2) := by decide +kernel
theorem dX0_bestSwapOf_85 : decode cX0_bestSwapOf 85 = .ok (.iload_n 1, 1) := by decide +kernel
theorem dX0_bestSwapOf_86 : decode cX0_bestSwapOf 86 = .ok (.iload_n 2, 1) := by decide +kernel
theorem dX0_bestSwapOf_87 : decode cX0_bestSwapOf 87 = .ok (.invokevirtual 121, 3) := by decide +kernel
theorem dX0_bestSwapOf_90 : decode cX0_bestSwapOf 90 = .ok (.ifCond .ne 6, 3) := by decide +kernel
theorem dX0_bestSwapOf_93 : decode cX0_bestSwapOf 93 = .ok (.goto 55, 3) := by decide +kernel
theorem dX0_bestSwapOf_96 : decode cX0_bestSwapOf 96 = .ok (.aload_n 0, 1) := by decide +kernel
theorem dX0_bestSwapOf_97 : decode cX0_bestSwapOf 97 = .ok (.iload_n 2, 1) := by decide +kernel
theorem dX0_bestSwapOf_98 : decode cX0_bestSwapOf 98 = .ok (.iload 8, 2) := by decide +kernel
theorem dX0_bestSwapOf_100 : decode cX0_bestSwapOf 100 = .ok (.iload 7, 2) := by decide +kernel
theorem dX0_bestSwapOf_102 : decode cX0_bestSwapOf 102 = .ok (.invokevirtual 241, 3) := by decide +kernel
theorem dX0_bestSwapOf_105 : decode cX0_bestSwapOf 105 = .ok (.iload 4, 2) := by decide +kernel
theorem dX0_bestSwapOf_107 : decode cX0_bestSwapOf 107 = .ok (.isub, 1) := by decide +kernel
theorem dX0_bestSwapOf_108 : decode cX0_bestSwapOf 108 = .ok (.istore 10, 2) := by decide +kernel
theorem dX0_bestSwapOf_110 : decode cX0_bestSwapOf 110 = .ok (.aload_n 0, 1) := by decide +kernel
theorem dX0_bestSwapOf_111 : decode cX0_bestSwapOf 111 = .ok (.iload 10, 2) := by decide +kernel
theorem dX0_bestSwapOf_113 : decode cX0_bestSwapOf 113 = .ok (.iload_n 2, 1) := by decide +kernel
theorem dX0_bestSwapOf_114 : decode cX0_bestSwapOf 114 = .ok (.iload_n 1, 1) := by decide +kernel
theorem dX0_bestSwapOf_115 : decode cX0_bestSwapOf 115 = .ok (.invokevirtual 121, 3) := by decide +kernel
theorem dX0_bestSwapOf_118 : decode cX0_bestSwapOf 118 = .ok (.ifCond .eq 30, 3) := by decide +kernel
theorem dX0_bestSwapOf_121 : decode cX0_bestSwapOf 121 = .ok (.iload 9, 2) := by decide +kernel
theorem dX0_bestSwapOf_123 : decode cX0_bestSwapOf 123 = .ok (.iload 10, 2) := by decide +kernel
theorem dX0_bestSwapOf_125 : decode cX0_bestSwapOf 125 = .ok (.iadd, 1) := by decide +kernel
theorem dX0_bestSwapOf_126 : decode cX0_bestSwapOf 126 = .ok (.iload 6, 2) := by decide +kernel
theorem dX0_bestSwapOf_128 : decode cX0_bestSwapOf 128 = .ok (.if_icmp .le 20, 3) := by decide +kernel
theorem dX0_bestSwapOf_131 : decode cX0_bestSwapOf 131 = .ok (.iload 7, 2) := by decide +kernel
theorem dX0_bestSwapOf_133 : decode cX0_bestSwapOf 133 = .ok (.bipush 36, 2) := by decide +kernel
theorem dX0_bestSwapOf_135 : decode cX0_bestSwapOf 135 = .ok (.imul, 1) := by decide +kernel
theorem dX0_bestSwapOf_136 : decode cX0_bestSwapOf 136 = .ok (.iload 8, 2) := by decide +kernel
theorem dX0_bestSwapOf_138 : decode cX0_bestSwapOf 138 = .ok (.iadd, 1) := by decide +kernel
theorem dX0_bestSwapOf_139 : decode cX0_bestSwapOf 139 = .ok (.istore 5, 2) := by decide +kernel
theorem dX0_bestSwapOf_141 : decode cX0_bestSwapOf 141 = .ok (.iload 9, 2) := by decide +kernel
theorem dX0_bestSwapOf_143 : decode cX0_bestSwapOf 143 = .ok (.iload 10, 2) := by decide +kernel
theorem dX0_bestSwapOf_145 : decode cX0_bestSwapOf 145 = .ok (.iadd, 1) := by decide +kernel
theorem dX0_bestSwapOf_146 : decode cX0_bestSwapOf 146 = .ok (.istore 6, 2) := by decide +kernel
theorem dX0_bestSwapOf_148 : decode cX0_bestSwapOf 148 = .ok (.iinc 8 1, 3) := by decide +kernel
theorem dX0_bestSwapOf_151 : decode cX0_bestSwapOf 151 = .ok (.goto (-104), 3) := by decide +kernel
theorem dX0_bestSwapOf_154 : decode cX0_bestSwapOf 154 = .ok (.iinc 7 1, 3) := by decide +kernel
theorem dX0_bestSwapOf_157 : decode cX0_bestSwapOf 157 = .ok (.goto (-135), 3) := by decide +kernel
theorem dX0_bestSwapOf_160 : decode cX0_bestSwapOf 160 = .ok (.iload 5, 2) := by decide +kernel
theorem dX0_bestSwapOf_162 : decode cX0_bestSwapOf 162 = .ok (.ireturn, 1) := by decide +kernel
set_option maxRecDepth 20000 in
theorem ggX0_bestSwapOfFirstPair_X0_bestSwapOf : GoodIn wsX0_bestSwapOfFirstPair wsX0_bestSwapOf := goodIn_r _ [6, 7, 8, 9, 10, 5, 11, 12, 13, 14, 15, 16, 17, 18, 19, 20, 21, 22, 23, 24, 25, 26, 27, 28, 29, 30, 31, 32, 33, 34, 35, 36, 37, 38, 39, 40, 41, 42, 43, 44, 45, 46, 47, 48, 49, 50, 51, 52, 53, 54, 55, 56, 57, 58, 59, 60, 61, 62, 63, 64, 65, 66, 67, 68, 69, 70, 71, 72, 73, 74, 75, 76, 77, 78, 79, 80, 81, 82, 83, 84, 85, 86, 87, 88, 89] (by decide +kernel) (by decide +kernel)
set_option maxRecDepth 20000 in
theorem gX0_bestSwapOfFirstPair_X0_bestSwapOf : GoodIn wsX0_bestSwapOfFirstPair (wsV RX0 136 RX0 yX0_bestSwapOf wsX0_bestSwapOf) := goodIn_app (goodIn_of _ (by decide +kernel)) ggX0_bestSwapOfFirstPair_X0_bestSwapOf
theorem dX0_bestSwapOfFirstPair_0 : decode cX0_bestSwapOfFirstPair 0 = .ok (.iconst 0, 1) := by decide +kernel
theorem dX0_bestSwapOfFirstPair_1 : decode cX0_bestSwapOfFirstPair 1 = .ok (.istore_n 1, 1) := by decide +kernel
theorem dX0_bestSwapOfFirstPair_2 : decode cX0_bestSwapOfFirstPair 2 = .ok (.iload_n 1, 1) := by decide +kernel
theorem dX0_bestSwapOfFirstPair_3 : decode cX0_bestSwapOfFirstPair 3 = .ok (.aload_n 0, 1) := by decide +kernel
theorem dX0_bestSwapOfFirstPair_4 : decode cX0_bestSwapOfFirstPair 4 = .ok (.getfield 45, 3) := by decide +kernel
theorem dX0_bestSwapOfFirstPair_7 : decode cX0_bestSwapOfFirstPair 7 = .ok (.if_icmp .ge 41, 3) := by decide +kernel
theorem dX0_bestSwapOfFirstPair_10 : decode cX0_bestSwapOfFirstPair 10 = .ok (.iload_n 1, 1) := by decide +kernel
theorem dX0_bestSwapOfFirstPair_11 : decode cX0_bestSwapOfFirstPair 11 = .ok (.iconst 1, 1) := by decide +kernel
theorem dX0_bestSwapOfFirstPair_12 : decode cX0_bestSwapOfFirstPair 12 = .ok (.iadd, 1) := by decide +kernel
theorem dX0_bestSwapOfFirstPair_13 : decode cX0_bestSwapOfFirstPair 13 = .ok (.istore_n 2, 1) := by decide +kernel
theorem dX0_bestSwapOfFirstPair_14 : decode cX0_bestSwapOfFirstPair 14 = .ok (.iload_n 2, 1) := by decide +kernel
theorem dX0_bestSwapOfFirstPair_15 : decode cX0_bestSwapOfFirstPair 15 = .ok (.aload_n 0, 1) := by decide +kernel
theorem dX0_bestSwapOfFirstPair_16 : decode cX0_bestSwapOfFirstPair 16 = .ok (.getfield 45, 3) := by decide +kernel
theorem dX0_bestSwapOfFirstPair_19 : decode cX0_bestSwapOfFirstPair 19 = .ok (.if_icmp .ge 23, 3) := by decide +kernel
theorem dX0_bestSwapOfFirstPair_22 : decode cX0_bestSwapOfFirstPair 22 = .ok (.aload_n 0, 1) := by decide +kernel
theorem dX0_bestSwapOfFirstPair_23 : decode cX0_bestSwapOfFirstPair 23 = .ok (.iload_n 1, 1) := by decide +kernel
theorem dX0_bestSwapOfFirstPair_24 : decode cX0_bestSwapOfFirstPair 24 = .ok (.iload_n 2, 1) := by decide +kernel
theorem dX0_bestSwapOfFirstPair_25 : decode cX0_bestSwapOfFirstPair 25 = .ok (.invokevirtual 136, 3) := by decide +kernel
theorem dX0_bestSwapOfFirstPair_28 : decode cX0_bestSwapOfFirstPair 28 = .ok (.istore_n 3, 1) := by decide +kernel
theorem dX0_bestSwapOfFirstPair_29 : decode cX0_bestSwapOfFirstPair 29 = .ok (.iload_n 3, 1) := by decide +kernel
theorem dX0_bestSwapOfFirstPair_30 : decode cX0_bestSwapOfFirstPair 30 = .ok (.iconst (-1), 1) := by decide +kernel
theorem dX0_bestSwapOfFirstPair_31 : decode cX0_bestSwapOfFirstPair 31 = .ok (.if_icmp .eq 5, 3) := by decide +kernel
theorem dX0_bestSwapOfFirstPair_34 : decode cX0_bestSwapOfFirstPair 34 = .ok (.iload_n 3, 1) := by decide +kernel
theorem dX0_bestSwapOfFirstPair_35 : decode cX0_bestSwapOfFirstPair 35 = .ok (.ireturn, 1) := by decide +kernel
theorem dX0_bestSwapOfFirstPair_36 : decode cX0_bestSwapOfFirstPair 36 = .ok (.iinc 2 1, 3) := by decide +kernel
theorem dX0_bestSwapOfFirstPair_39 : decode cX0_bestSwapOfFirstPair 39 = .ok (.goto (-25), 3) := by decide +kernel
theorem dX0_bestSwapOfFirstPair_42 : decode cX0_bestSwapOfFirstPair 42 = .ok (.iinc 1 1, 3) := by decide +kernel
theorem dX0_bestSwapOfFirstPair_45 : decode cX0_bestSwapOfFirstPair 45 = .ok (.goto (-43), 3) := by decide +kernel
theorem dX0_bestSwapOfFirstPair_48 : decode cX0_bestSwapOfFirstPair 48 = .ok (.iconst (-1), 1) := by decide +kernel
theorem dX0_bestSwapOfFirstPair_49 : decode cX0_bestSwapOfFirstPair 49 = .ok (.ireturn, 1) := by decide +kernel
set_option maxRecDepth 20000 in
theorem ggX0_changeHands_X0_soften : GoodIn wsX0_changeHands wsX0_soften := goodIn_r _ [8, 9, 10, 11, 12, 13, 14, 15, 16, 17, 18, 19, 20, 21, 22, 23, 24, 25, 26, 27, 28, 29, 30] (by decide +kernel) (by decide +kernel)
set_option maxRecDepth 20000 in
theorem gX0_changeHands_X0_soften : GoodIn wsX0_changeHands (wsV RX0 248 RX0 yX0_soften wsX0_soften) := goodIn_app (goodIn_of _ (by decide +kernel)) ggX0_changeHands_X0_soften
theorem dX0_changeHands_0 : decode cX0_changeHands 0 = .ok (.aload_n 0, 1) := by decide +kernel
theorem dX0_changeHands_1 : decode cX0_changeHands 1 = .ok (.getfield 22, 3) := by decide +kernel
theorem dX0_changeHands_4 : decode cX0_changeHands 4 = .ok (.iload_n 1, 1) := by decide +kernel
theorem dX0_changeHands_5 : decode cX0_changeHands 5 = .ok (.iaload, 1) := by decide +kernel
theorem dX0_changeHands_6 : decode cX0_changeHands 6 = .ok (.istore_n 3, 1) := by decide +kernel
theorem dX0_changeHands_7 : decode cX0_changeHands 7 = .ok (.aload_n 0, 1) := by decide +kernel
theorem dX0_changeHands_8 : decode cX0_changeHands 8 = .ok (.getfield 22, 3) := by decide +kernel
theorem dX0_changeHands_11 : decode cX0_changeHands 11 = .ok (.iload_n 2, 1) := by decide +kernel
theorem dX0_changeHands_12 : decode cX0_changeHands 12 = .ok (.iaload, 1) := by decide +kernel
theorem dX0_changeHands_13 : decode cX0_changeHands 13 = .ok (.istore 4, 2) := by decide +kernel
theorem dX0_changeHands_15 : decode cX0_changeHands 15 = .ok (.aload_n 0, 1) := by decide +kernel
theorem dX0_changeHands_16 : decode cX0_changeHands 16 = .ok (.getfield 22, 3) := by decide +kernel
theorem dX0_changeHands_19 : decode cX0_changeHands 19 = .ok (.iload_n 1, 1) := by decide +kernel
theorem dX0_changeHands_20 : decode cX0_changeHands 20 = .ok (.iload 4, 2) := by decide +kernel
theorem dX0_changeHands_22 : decode cX0_changeHands 22 = .ok (.iastore, 1) := by decide +kernel
theorem dX0_changeHands_23 : decode cX0_changeHands 23 = .ok (.aload_n 0, 1) := by decide +kernel
theorem dX0_changeHands_24 : decode cX0_changeHands 24 = .ok (.getfield 22, 3) := by decide +kernel
theorem dX0_changeHands_27 : decode cX0_changeHands 27 = .ok (.iload_n 2, 1) := by decide +kernel
theorem dX0_changeHands_28 : decode cX0_changeHands 28 = .ok (.iload_n 3, 1) := by decide +kernel
theorem dX0_changeHands_29 : decode cX0_changeHands 29 = .ok (.iastore, 1) := by decide +kernel
theorem dX0_changeHands_30 : decode cX0_changeHands 30 = .ok (.aload_n 0, 1) := by decide +kernel
theorem dX0_changeHands_31 : decode cX0_changeHands 31 = .ok (.iload_n 3, 1) := by decide +kernel
theorem dX0_changeHands_32 : decode cX0_changeHands 32 = .ok (.iload 4, 2) := by decide +kernel
theorem dX0_changeHands_34 : decode cX0_changeHands 34 = .ok (.invokevirtual 248, 3) := by decide +kernel
theorem dX0_changeHands_37 : decode cX0_changeHands 37 = .ok (.aload_n 0, 1) := by decide +kernel
theorem dX0_changeHands_38 : decode cX0_changeHands 38 = .ok (.iload 4, 2) := by decide +kernel
theorem dX0_changeHands_40 : decode cX0_changeHands 40 = .ok (.iload_n 3, 1) := by decide +kernel
theorem dX0_changeHands_41 : decode cX0_changeHands 41 = .ok (.invokevirtual 248, 3) := by decide +kernel
theorem dX0_changeHands_44 : decode cX0_changeHands 44 = .ok (.aload_n 0, 1) := by decide +kernel
theorem dX0_changeHands_45 : decode cX0_changeHands 45 = .ok (.getfield 39, 3) := by decide +kernel
theorem dX0_changeHands_48 : decode cX0_changeHands 48 = .ok (.iload_n 3, 1) := by decide +kernel
theorem dX0_changeHands_49 : decode cX0_changeHands 49 = .ok (.dup2, 1) := by decide +kernel
theorem dX0_changeHands_50 : decode cX0_changeHands 50 = .ok (.iaload, 1) := by decide +kernel
theorem dX0_changeHands_51 : decode cX0_changeHands 51 = .ok (.iconst 1, 1) := by decide +kernel
theorem dX0_changeHands_52 : decode cX0_changeHands 52 = .ok (.iadd, 1) := by decide +kernel
theorem dX0_changeHands_53 : decode cX0_changeHands 53 = .ok (.iastore, 1) := by decide +kernel
theorem dX0_changeHands_54 : decode cX0_changeHands 54 = .ok (.aload_n 0, 1) := by decide +kernel
theorem dX0_changeHands_55 : decode cX0_changeHands 55 = .ok (.getfield 39, 3) := by decide +kernel
theorem dX0_changeHands_58 : decode cX0_changeHands 58 = .ok (.iload 4, 2) := by decide +kernel
theorem dX0_changeHands_60 : decode cX0_changeHands 60 = .ok (.dup2, 1) := by decide +kernel
theorem dX0_changeHands_61 : decode cX0_changeHands 61 = .ok (.iaload, 1) := by decide +kernel
theorem dX0_changeHands_62 : decode cX0_changeHands 62 = .ok (.iconst 1, 1) := by decide +kernel
theorem dX0_changeHands_63 : decode cX0_changeHands 63 = .ok (.iadd, 1) := by decide +kernel
theorem dX0_changeHands_64 : decode cX0_changeHands 64 = .ok (.iastore, 1) := by decide +kernel
theorem dX0_changeHands_65 : decode cX0_changeHands 65 = .ok (.aload_n 0, 1) := by decide +kernel
theorem dX0_changeHands_66 : decode cX0_changeHands 66 = .ok (.dup, 1) := by decide +kernel
theorem dX0_changeHands_67 : decode cX0_changeHands 67 = .ok (.getfield 181, 3) := by decide +kernel
theorem dX0_changeHands_70 : decode cX0_changeHands 70 = .ok (.iconst 1, 1) := by decide +kernel
theorem dX0_changeHands_71 : decode cX0_changeHands 71 = .ok (.iadd, 1) := by decide +kernel
theorem dX0_changeHands_72 : decode cX0_changeHands 72 = .ok (.putfield 181, 3) := by decide +kernel
theorem dX0_changeHands_75 : decode cX0_changeHands 75 = .ok (.return_, 1) := by decide +kernel
theorem dX0_soften_0 : decode cX0_soften 0 = .ok (.aload_n 0, 1) := by decide +kernel
theorem dX0_soften_1 : decode cX0_soften 1 = .ok (.getfield 36, 3) := by decide +kernel
theorem dX0_soften_4 : decode cX0_soften 4 = .ok (.iload_n 1, 1) := by decide +kernel
theorem dX0_soften_5 : decode cX0_soften 5 = .ok (.aaload, 1) := by decide +kernel
theorem dX0_soften_6 : decode cX0_soften 6 = .ok (.iload_n 2, 1) := by decide +kernel
theorem dX0_soften_7 : decode cX0_soften 7 = .ok (.aload_n 0, 1) := by decide +kernel
theorem dX0_soften_8 : decode cX0_soften 8 = .ok (.getfield 36, 3) := by decide +kernel
theorem dX0_soften_11 : decode cX0_soften 11 = .ok (.iload_n 1, 1) := by decide +kernel
theorem dX0_soften_12 : decode cX0_soften 12 = .ok (.aaload, 1) := by decide +kernel
theorem dX0_soften_13 : decode cX0_soften 13 = .ok (.iload_n 2, 1) := by decide +kernel
theorem dX0_soften_14 : decode cX0_soften 14 = .ok (.iaload, 1) := by decide +kernel
theorem dX0_soften_15 : decode cX0_soften 15 = .ok (.iconst 1, 1) := by decide +kernel
theorem dX0_soften_16 : decode cX0_soften 16 = .ok (.isub, 1) := by decide +kernel
theorem dX0_soften_17 : decode cX0_soften 17 = .ok (.iconst 0, 1) := by decide +kernel
theorem dX0_soften_18 : decode cX0_soften 18 = .ok (.invokestatic 233, 3) := by decide +kernel
theorem dX0_soften_21 : decode cX0_soften 21 = .ok (.iastore, 1) := by decide +kernel
theorem dX0_soften_22 : decode cX0_soften 22 = .ok (.return_, 1) := by decide +kernel
theorem dX0_resent_0 : decode cX0_resent 0 = .ok (.aload_n 0, 1) := by decide +kernel
theorem dX0_resent_1 : decode cX0_resent 1 = .ok (.getfield 36, 3) := by decide +kernel
theorem dX0_resent_4 : decode cX0_resent 4 = .ok (.iload_n 1, 1) := by decide +kernel
theorem dX0_resent_5 : decode cX0_resent 5 = .ok (.aaload, 1) := by decide +kernel
theorem dX0_resent_6 : decode cX0_resent 6 = .ok (.iload_n 2, 1) := by decide +kernel
theorem dX0_resent_7 : decode cX0_resent 7 = .ok (.aload_n 0, 1) := by decide +kernel
theorem dX0_resent_8 : decode cX0_resent 8 = .ok (.getfield 36, 3) := by decide +kernel
theorem dX0_resent_11 : decode cX0_resent 11 = .ok (.iload_n 1, 1) := by decide +kernel
theorem dX0_resent_12 : decode cX0_resent 12 = .ok (.aaload, 1) := by decide +kernel
theorem dX0_resent_13 : decode cX0_resent 13 = .ok (.iload_n 2, 1) := by decide +kernel
theorem dX0_resent_14 : decode cX0_resent 14 = .ok (.iaload, 1) := by decide +kernel
theorem dX0_resent_15 : decode cX0_resent 15 = .ok (.iconst 1, 1) := by decide +kernel
theorem dX0_resent_16 : decode cX0_resent 16 = .ok (.iadd, 1) := by decide +kernel
theorem dX0_resent_17 : decode cX0_resent 17 = .ok (.bipush 9, 2) := by decide +kernel
theorem dX0_resent_19 : decode cX0_resent 19 = .ok (.invokestatic 251, 3) := by decide +kernel
theorem dX0_resent_22 : decode cX0_resent 22 = .ok (.iastore, 1) := by decide +kernel
theorem dX0_resent_23 : decode cX0_resent 23 = .ok (.return_, 1) := by decide +kernel
theorem dX0_allGrudgesOf_0 : decode cX0_allGrudgesOf 0 = .ok (.iconst 0, 1) := by decide +kernel
theorem dX0_allGrudgesOf_1 : decode cX0_allGrudgesOf 1 = .ok (.istore_n 2, 1) := by decide +kernel
theorem dX0_allGrudgesOf_2 : decode cX0_allGrudgesOf 2 = .ok (.iconst 0, 1) := by decide +kernel
theorem dX0_allGrudgesOf_3 : decode cX0_allGrudgesOf 3 = .ok (.istore_n 3, 1) := by decide +kernel
theorem dX0_allGrudgesOf_4 : decode cX0_allGrudgesOf 4 = .ok (.iload_n 3, 1) := by decide +kernel
theorem dX0_allGrudgesOf_5 : decode cX0_allGrudgesOf 5 = .ok (.aload_n 0, 1) := by decide +kernel
theorem dX0_allGrudgesOf_6 : decode cX0_allGrudgesOf 6 = .ok (.getfield 45, 3) := by decide +kernel
theorem dX0_allGrudgesOf_9 : decode cX0_allGrudgesOf 9 = .ok (.if_icmp .ge 20, 3) := by decide +kernel
theorem dX0_allGrudgesOf_12 : decode cX0_allGrudgesOf 12 = .ok (.iload_n 2, 1) := by decide +kernel
theorem dX0_allGrudgesOf_13 : decode cX0_allGrudgesOf 13 = .ok (.aload_n 0, 1) := by decide +kernel
theorem dX0_allGrudgesOf_14 : decode cX0_allGrudgesOf 14 = .ok (.getfield 36, 3) := by decide +kernel
theorem dX0_allGrudgesOf_17 : decode cX0_allGrudgesOf 17 = .ok (.iload_n 1, 1) := by decide +kernel
theorem dX0_allGrudgesOf_18 : decode cX0_allGrudgesOf 18 = .ok (.aaload, 1) := by decide +kernel
theorem dX0_allGrudgesOf_19 : decode cX0_allGrudgesOf 19 = .ok (.iload_n 3, 1) := by decide +kernel
theorem dX0_allGrudgesOf_20 : decode cX0_allGrudgesOf 20 = .ok (.iaload, 1) := by decide +kernel
theorem dX0_allGrudgesOf_21 : decode cX0_allGrudgesOf 21 = .ok (.iadd, 1) := by decide +kernel
theorem dX0_allGrudgesOf_22 : decode cX0_allGrudgesOf 22 = .ok (.istore_n 2, 1) := by decide +kernel
theorem dX0_allGrudgesOf_23 : decode cX0_allGrudgesOf 23 = .ok (.iinc 3 1, 3) := by decide +kernel
theorem dX0_allGrudgesOf_26 : decode cX0_allGrudgesOf 26 = .ok (.goto (-22), 3) := by decide +kernel
theorem dX0_allGrudgesOf_29 : decode cX0_allGrudgesOf 29 = .ok (.iload_n 2, 1) := by decide +kernel
theorem dX0_allGrudgesOf_30 : decode cX0_allGrudgesOf 30 = .ok (.ireturn, 1) := by decide +kernel
theorem dX0_isLent_0 : decode cX0_isLent 0 = .ok (.aload_n 0, 1) := by decide +kernel
theorem dX0_isLent_1 : decode cX0_isLent 1 = .ok (.getfield 25, 3) := by decide +kernel
theorem dX0_isLent_4 : decode cX0_isLent 4 = .ok (.iload_n 1, 1) := by decide +kernel
theorem dX0_isLent_5 : decode cX0_isLent 5 = .ok (.iaload, 1) := by decide +kernel
theorem dX0_isLent_6 : decode cX0_isLent 6 = .ok (.iconst (-1), 1) := by decide +kernel
theorem dX0_isLent_7 : decode cX0_isLent 7 = .ok (.if_icmp .eq 7, 3) := by decide +kernel
theorem dX0_isLent_10 : decode cX0_isLent 10 = .ok (.iconst 1, 1) := by decide +kernel
theorem dX0_isLent_11 : decode cX0_isLent 11 = .ok (.goto 4, 3) := by decide +kernel
theorem dX0_isLent_14 : decode cX0_isLent 14 = .ok (.iconst 0, 1) := by decide +kernel
theorem dX0_isLent_15 : decode cX0_isLent 15 = .ok (.ireturn, 1) := by decide +kernel
set_option maxRecDepth 20000 in
theorem ggX0_isAtHomeWith_X0_isLent : GoodIn wsX0_isAtHomeWith wsX0_isLent := goodIn_r _ [6, 7, 8, 9, 10, 11, 12, 13, 14, 15, 16, 17, 18, 19, 20, 21, 22, 23, 24] (by decide +kernel) (by decide +kernel)
set_option maxRecDepth 20000 in
theorem gX0_isAtHomeWith_X0_isLent : GoodIn wsX0_isAtHomeWith (wsV RX0 220 RX0 yX0_isLent wsX0_isLent) := goodIn_app (goodIn_of _ (by decide +kernel)) ggX0_isAtHomeWith_X0_isLent
theorem dX0_isAtHomeWith_0 : decode cX0_isAtHomeWith 0 = .ok (.aload_n 0, 1) := by decide +kernel
theorem dX0_isAtHomeWith_1 : decode cX0_isAtHomeWith 1 = .ok (.getfield 22, 3) := by decide +kernel
theorem dX0_isAtHomeWith_4 : decode cX0_isAtHomeWith 4 = .ok (.iload_n 1, 1) := by decide +kernel
theorem dX0_isAtHomeWith_5 : decode cX0_isAtHomeWith 5 = .ok (.iaload, 1) := by decide +kernel
theorem dX0_isAtHomeWith_6 : decode cX0_isAtHomeWith 6 = .ok (.iload_n 2, 1) := by decide +kernel
theorem dX0_isAtHomeWith_7 : decode cX0_isAtHomeWith 7 = .ok (.if_icmp .ne 15, 3) := by decide +kernel
theorem dX0_isAtHomeWith_10 : decode cX0_isAtHomeWith 10 = .ok (.aload_n 0, 1) := by decide +kernel
theorem dX0_isAtHomeWith_11 : decode cX0_isAtHomeWith 11 = .ok (.iload_n 1, 1) := by decide +kernel
theorem dX0_isAtHomeWith_12 : decode cX0_isAtHomeWith 12 = .ok (.invokevirtual 220, 3) := by decide +kernel
theorem dX0_isAtHomeWith_15 : decode cX0_isAtHomeWith 15 = .ok (.ifCond .ne 7, 3) := by decide +kernel
theorem dX0_isAtHomeWith_18 : decode cX0_isAtHomeWith 18 = .ok (.iconst 1, 1) := by decide +kernel
theorem dX0_isAtHomeWith_19 : decode cX0_isAtHomeWith 19 = .ok (.goto 4, 3) := by decide +kernel
theorem dX0_isAtHomeWith_22 : decode cX0_isAtHomeWith 22 = .ok (.iconst 0, 1) := by decide +kernel
theorem dX0_isAtHomeWith_23 : decode cX0_isAtHomeWith 23 = .ok (.ireturn, 1) := by decide +kernel
theorem dX0_thimblesOf_0 : decode cX0_thimblesOf 0 = .ok (.iconst 0, 1) := by decide +kernel
theorem dX0_thimblesOf_1 : decode cX0_thimblesOf 1 = .ok (.istore_n 2, 1) := by decide +kernel
theorem dX0_thimblesOf_2 : decode cX0_thimblesOf 2 = .ok (.iconst 0, 1) := by decide +kernel
theorem dX0_thimblesOf_3 : decode cX0_thimblesOf 3 = .ok (.istore_n 3, 1) := by decide +kernel
theorem dX0_thimblesOf_4 : decode cX0_thimblesOf 4 = .ok (.iload_n 3, 1) := by decide +kernel
theorem dX0_thimblesOf_5 : decode cX0_thimblesOf 5 = .ok (.aload_n 0, 1) := by decide +kernel
theorem dX0_thimblesOf_6 : decode cX0_thimblesOf 6 = .ok (.getfield 75, 3) := by decide +kernel
theorem dX0_thimblesOf_9 : decode cX0_thimblesOf 9 = .ok (.if_icmp .ge 22, 3) := by decide +kernel
theorem dX0_thimblesOf_12 : decode cX0_thimblesOf 12 = .ok (.aload_n 0, 1) := by decide +kernel
theorem dX0_thimblesOf_13 : decode cX0_thimblesOf 13 = .ok (.getfield 22, 3) := by decide +kernel
theorem dX0_thimblesOf_16 : decode cX0_thimblesOf 16 = .ok (.iload_n 3, 1) := by decide +kernel
theorem dX0_thimblesOf_17 : decode cX0_thimblesOf 17 = .ok (.iaload, 1) := by decide +kernel
theorem dX0_thimblesOf_18 : decode cX0_thimblesOf 18 = .ok (.iload_n 1, 1) := by decide +kernel
theorem dX0_thimblesOf_19 : decode cX0_thimblesOf 19 = .ok (.if_icmp .ne 6, 3) := by decide +kernel
theorem dX0_thimblesOf_22 : decode cX0_thimblesOf 22 = .ok (.iinc 2 1, 3) := by decide +kernel
theorem dX0_thimblesOf_25 : decode cX0_thimblesOf 25 = .ok (.iinc 3 1, 3) := by decide +kernel
theorem dX0_thimblesOf_28 : decode cX0_thimblesOf 28 = .ok (.goto (-24), 3) := by decide +kernel
theorem dX0_thimblesOf_31 : decode cX0_thimblesOf 31 = .ok (.iload_n 2, 1) := by decide +kernel
theorem dX0_thimblesOf_32 : decode cX0_thimblesOf 32 = .ok (.ireturn, 1) := by decide +kernel
set_option maxRecDepth 20000 in
theorem ggX0_thimblesLentBy_X0_isLent : GoodIn wsX0_thimblesLentBy wsX0_isLent := goodIn_r _ [7, 8, 9, 10, 11, 12, 13, 14, 15, 16, 17, 18, 19, 20, 21, 22, 23, 24, 25] (by decide +kernel) (by decide +kernel)
set_option maxRecDepth 20000 in
theorem gX0_thimblesLentBy_X0_isLent : GoodIn wsX0_thimblesLentBy (wsV RX0 220 RX0 yX0_isLent wsX0_isLent) := goodIn_app (goodIn_of _ (by decide +kernel)) ggX0_thimblesLentBy_X0_isLent
theorem dX0_thimblesLentBy_0 : decode cX0_thimblesLentBy 0 = .ok (.iconst 0, 1) := by decide +kernel
theorem dX0_thimblesLentBy_1 : decode cX0_thimblesLentBy 1 = .ok (.istore_n 2, 1) := by decide +kernel
theorem dX0_thimblesLentBy_2 : decode cX0_thimblesLentBy 2 = .ok (.iconst 0, 1) := by decide +kernel
theorem dX0_thimblesLentBy_3 : decode cX0_thimblesLentBy 3 = .ok (.istore_n 3, 1) := by decide +kernel
theorem dX0_thimblesLentBy_4 : decode cX0_thimblesLentBy 4 = .ok (.iload_n 3, 1) := by decide +kernel
theorem dX0_thimblesLentBy_5 : decode cX0_thimblesLentBy 5 = .ok (.aload_n 0, 1) := by decide +kernel
theorem dX0_thimblesLentBy_6 : decode cX0_thimblesLentBy 6 = .ok (.getfield 75, 3) := by decide +kernel
theorem dX0_thimblesLentBy_9 : decode cX0_thimblesLentBy 9 = .ok (.if_icmp .ge 30, 3) := by decide +kernel
theorem dX0_thimblesLentBy_12 : decode cX0_thimblesLentBy 12 = .ok (.aload_n 0, 1) := by decide +kernel
theorem dX0_thimblesLentBy_13 : decode cX0_thimblesLentBy 13 = .ok (.getfield 22, 3) := by decide +kernel
theorem dX0_thimblesLentBy_16 : decode cX0_thimblesLentBy 16 = .ok (.iload_n 3, 1) := by decide +kernel
theorem dX0_thimblesLentBy_17 : decode cX0_thimblesLentBy 17 = .ok (.iaload, 1) := by decide +kernel
theorem dX0_thimblesLentBy_18 : decode cX0_thimblesLentBy 18 = .ok (.iload_n 1, 1) := by decide +kernel
theorem dX0_thimblesLentBy_19 : decode cX0_thimblesLentBy 19 = .ok (.if_icmp .ne 14, 3) := by decide +kernel
theorem dX0_thimblesLentBy_22 : decode cX0_thimblesLentBy 22 = .ok (.aload_n 0, 1) := by decide +kernel
theorem dX0_thimblesLentBy_23 : decode cX0_thimblesLentBy 23 = .ok (.iload_n 3, 1) := by decide +kernel
theorem dX0_thimblesLentBy_24 : decode cX0_thimblesLentBy 24 = .ok (.invokevirtual 220, 3) := by decide +kernel
theorem dX0_thimblesLentBy_27 : decode cX0_thimblesLentBy 27 = .ok (.ifCond .eq 6, 3) := by decide +kernel
theorem dX0_thimblesLentBy_30 : decode cX0_thimblesLentBy 30 = .ok (.iinc 2 1, 3) := by decide +kernel
theorem dX0_thimblesLentBy_33 : decode cX0_thimblesLentBy 33 = .ok (.iinc 3 1, 3) := by decide +kernel
theorem dX0_thimblesLentBy_36 : decode cX0_thimblesLentBy 36 = .ok (.goto (-32), 3) := by decide +kernel
theorem dX0_thimblesLentBy_39 : decode cX0_thimblesLentBy 39 = .ok (.iload_n 2, 1) := by decide +kernel
theorem dX0_thimblesLentBy_40 : decode cX0_thimblesLentBy 40 = .ok (.ireturn, 1) := by decide +kernel
set_option maxRecDepth 20000 in
theorem ggX0_thimblesLent_X0_isLent : GoodIn wsX0_thimblesLent wsX0_isLent := goodIn_r _ [6, 7, 8, 9, 10, 11, 12, 13, 14, 15, 16, 17, 18, 19, 20, 21, 22, 23, 24] (by decide +kernel) (by decide +kernel)
set_option maxRecDepth 20000 in
theorem gX0_thimblesLent_X0_isLent : GoodIn wsX0_thimblesLent (wsV RX0 220 RX0 yX0_isLent wsX0_isLent) := goodIn_app (goodIn_of _ (by decide +kernel)) ggX0_thimblesLent_X0_isLent
theorem dX0_thimblesLent_0 : decode cX0_thimblesLent 0 = .ok (.iconst 0, 1) := by decide +kernel
theorem dX0_thimblesLent_1 : decode cX0_thimblesLent 1 = .ok (.istore_n 1, 1) := by decide +kernel
theorem dX0_thimblesLent_2 : decode cX0_thimblesLent 2 = .ok (.iconst 0, 1) := by decide +kernel
theorem dX0_thimblesLent_3 : decode cX0_thimblesLent 3 = .ok (.istore_n 2, 1) := by decide +kernel
theorem dX0_thimblesLent_4 : decode cX0_thimblesLent 4 = .ok (.iload_n 2, 1) := by decide +kernel
theorem dX0_thimblesLent_5 : decode cX0_thimblesLent 5 = .ok (.aload_n 0, 1) := by decide +kernel
theorem dX0_thimblesLent_6 : decode cX0_thimblesLent 6 = .ok (.getfield 75, 3) := by decide +kernel
theorem dX0_thimblesLent_9 : decode cX0_thimblesLent 9 = .ok (.if_icmp .ge 20, 3) := by decide +kernel
theorem dX0_thimblesLent_12 : decode cX0_thimblesLent 12 = .ok (.aload_n 0, 1) := by decide +kernel
theorem dX0_thimblesLent_13 : decode cX0_thimblesLent 13 = .ok (.iload_n 2, 1) := by decide +kernel
theorem dX0_thimblesLent_14 : decode cX0_thimblesLent 14 = .ok (.invokevirtual 220, 3) := by decide +kernel
theorem dX0_thimblesLent_17 : decode cX0_thimblesLent 17 = .ok (.ifCond .eq 6, 3) := by decide +kernel
theorem dX0_thimblesLent_20 : decode cX0_thimblesLent 20 = .ok (.iinc 1 1, 3) := by decide +kernel
theorem dX0_thimblesLent_23 : decode cX0_thimblesLent 23 = .ok (.iinc 2 1, 3) := by decide +kernel
theorem dX0_thimblesLent_26 : decode cX0_thimblesLent 26 = .ok (.goto (-22), 3) := by decide +kernel
theorem dX0_thimblesLent_29 : decode cX0_thimblesLent 29 = .ok (.iload_n 1, 1) := by decide +kernel
theorem dX0_thimblesLent_30 : decode cX0_thimblesLent 30 = .ok (.ireturn, 1) := by decide +kernel
theorem dX0_numbersFound_0 : decode cX0_numbersFound 0 = .ok (.iconst 0, 1) := by decide +kernel
theorem dX0_numbersFound_1 : decode cX0_numbersFound 1 = .ok (.istore_n 2, 1) := by decide +kernel
theorem dX0_numbersFound_2 : decode cX0_numbersFound 2 = .ok (.iconst 0, 1) := by decide +kernel
theorem dX0_numbersFound_3 : decode cX0_numbersFound 3 = .ok (.istore_n 3, 1) := by decide +kernel
theorem dX0_numbersFound_4 : decode cX0_numbersFound 4 = .ok (.iload_n 3, 1) := by decide +kernel
theorem dX0_numbersFound_5 : decode cX0_numbersFound 5 = .ok (.aload_n 0, 1) := by decide +kernel
theorem dX0_numbersFound_6 : decode cX0_numbersFound 6 = .ok (.getfield 75, 3) := by decide +kernel
theorem dX0_numbersFound_9 : decode cX0_numbersFound 9 = .ok (.if_icmp .ge 30, 3) := by decide +kernel
theorem dX0_numbersFound_12 : decode cX0_numbersFound 12 = .ok (.aload_n 0, 1) := by decide +kernel
theorem dX0_numbersFound_13 : decode cX0_numbersFound 13 = .ok (.getfield 9, 3) := by decide +kernel
theorem dX0_numbersFound_16 : decode cX0_numbersFound 16 = .ok (.iload_n 3, 1) := by decide +kernel
theorem dX0_numbersFound_17 : decode cX0_numbersFound 17 = .ok (.iaload, 1) := by decide +kernel
theorem dX0_numbersFound_18 : decode cX0_numbersFound 18 = .ok (.iload_n 1, 1) := by decide +kernel
theorem dX0_numbersFound_19 : decode cX0_numbersFound 19 = .ok (.if_icmp .ne 14, 3) := by decide +kernel
theorem dX0_numbersFound_22 : decode cX0_numbersFound 22 = .ok (.iload_n 2, 1) := by decide +kernel
theorem dX0_numbersFound_23 : decode cX0_numbersFound 23 = .ok (.iconst 1, 1) := by decide +kernel
theorem dX0_numbersFound_24 : decode cX0_numbersFound 24 = .ok (.aload_n 0, 1) := by decide +kernel
theorem dX0_numbersFound_25 : decode cX0_numbersFound 25 = .ok (.getfield 13, 3) := by decide +kernel
theorem dX0_numbersFound_28 : decode cX0_numbersFound 28 = .ok (.iload_n 3, 1) := by decide +kernel
theorem dX0_numbersFound_29 : decode cX0_numbersFound 29 = .ok (.iaload, 1) := by decide +kernel
theorem dX0_numbersFound_30 : decode cX0_numbersFound 30 = .ok (.ishl, 1) := by decide +kernel
theorem dX0_numbersFound_31 : decode cX0_numbersFound 31 = .ok (.ior, 1) := by decide +kernel
theorem dX0_numbersFound_32 : decode cX0_numbersFound 32 = .ok (.istore_n 2, 1) := by decide +kernel
theorem dX0_numbersFound_33 : decode cX0_numbersFound 33 = .ok (.iinc 3 1, 3) := by decide +kernel
theorem dX0_numbersFound_36 : decode cX0_numbersFound 36 = .ok (.goto (-32), 3) := by decide +kernel
theorem dX0_numbersFound_39 : decode cX0_numbersFound 39 = .ok (.iload_n 2, 1) := by decide +kernel
theorem dX0_numbersFound_40 : decode cX0_numbersFound 40 = .ok (.ireturn, 1) := by decide +kernel
set_option maxRecDepth 20000 in
theorem ggX0_numbersShown_X0_isLent : GoodIn wsX0_numbersShown wsX0_isLent := goodIn_r _ [8, 9, 10, 11, 12, 13, 14, 15, 16, 17, 18, 19, 20, 21, 22, 23, 24, 25, 26] (by decide +kernel) (by decide +kernel)
set_option maxRecDepth 20000 in
theorem gX0_numbersShown_X0_isLent : GoodIn wsX0_numbersShown (wsV RX0 220 RX0 yX0_isLent wsX0_isLent) := goodIn_app (goodIn_of _ (by decide +kernel)) ggX0_numbersShown_X0_isLent
theorem dX0_numbersShown_0 : decode cX0_numbersShown 0 = .ok (.iconst 0, 1) := by decide +kernel
theorem dX0_numbersShown_1 : decode cX0_numbersShown 1 = .ok (.istore_n 2, 1) := by decide +kernel
theorem dX0_numbersShown_2 : decode cX0_numbersShown 2 = .ok (.iconst 0, 1) := by decide +kernel
theorem dX0_numbersShown_3 : decode cX0_numbersShown 3 = .ok (.istore_n 3, 1) := by decide +kernel
theorem dX0_numbersShown_4 : decode cX0_numbersShown 4 = .ok (.iload_n 3, 1) := by decide +kernel
theorem dX0_numbersShown_5 : decode cX0_numbersShown 5 = .ok (.aload_n 0, 1) := by decide +kernel
theorem dX0_numbersShown_6 : decode cX0_numbersShown 6 = .ok (.getfield 75, 3) := by decide +kernel
theorem dX0_numbersShown_9 : decode cX0_numbersShown 9 = .ok (.if_icmp .ge 38, 3) := by decide +kernel
theorem dX0_numbersShown_12 : decode cX0_numbersShown 12 = .ok (.aload_n 0, 1) := by decide +kernel
theorem dX0_numbersShown_13 : decode cX0_numbersShown 13 = .ok (.getfield 9, 3) := by decide +kernel
theorem dX0_numbersShown_16 : decode cX0_numbersShown 16 = .ok (.iload_n 3, 1) := by decide +kernel
theorem dX0_numbersShown_17 : decode cX0_numbersShown 17 = .ok (.iaload, 1) := by decide +kernel
theorem dX0_numbersShown_18 : decode cX0_numbersShown 18 = .ok (.iload_n 1, 1) := by decide +kernel
theorem dX0_numbersShown_19 : decode cX0_numbersShown 19 = .ok (.if_icmp .ne 22, 3) := by decide +kernel
theorem dX0_numbersShown_22 : decode cX0_numbersShown 22 = .ok (.aload_n 0, 1) := by decide +kernel
theorem dX0_numbersShown_23 : decode cX0_numbersShown 23 = .ok (.iload_n 3, 1) := by decide +kernel
theorem dX0_numbersShown_24 : decode cX0_numbersShown 24 = .ok (.invokevirtual 220, 3) := by decide +kernel
theorem dX0_numbersShown_27 : decode cX0_numbersShown 27 = .ok (.ifCond .eq 14, 3) := by decide +kernel
theorem dX0_numbersShown_30 : decode cX0_numbersShown 30 = .ok (.iload_n 2, 1) := by decide +kernel
theorem dX0_numbersShown_31 : decode cX0_numbersShown 31 = .ok (.iconst 1, 1) := by decide +kernel
theorem dX0_numbersShown_32 : decode cX0_numbersShown 32 = .ok (.aload_n 0, 1) := by decide +kernel
theorem dX0_numbersShown_33 : decode cX0_numbersShown 33 = .ok (.getfield 13, 3) := by decide +kernel
theorem dX0_numbersShown_36 : decode cX0_numbersShown 36 = .ok (.iload_n 3, 1) := by decide +kernel
theorem dX0_numbersShown_37 : decode cX0_numbersShown 37 = .ok (.iaload, 1) := by decide +kernel
theorem dX0_numbersShown_38 : decode cX0_numbersShown 38 = .ok (.ishl, 1) := by decide +kernel
theorem dX0_numbersShown_39 : decode cX0_numbersShown 39 = .ok (.ior, 1) := by decide +kernel
theorem dX0_numbersShown_40 : decode cX0_numbersShown 40 = .ok (.istore_n 2, 1) := by decide +kernel
theorem dX0_numbersShown_41 : decode cX0_numbersShown 41 = .ok (.iinc 3 1, 3) := by decide +kernel
theorem dX0_numbersShown_44 : decode cX0_numbersShown 44 = .ok (.goto (-40), 3) := by decide +kernel
theorem dX0_numbersShown_47 : decode cX0_numbersShown 47 = .ok (.iload_n 2, 1) := by decide +kernel
theorem dX0_numbersShown_48 : decode cX0_numbersShown 48 = .ok (.ireturn, 1) := by decide +kernel
set_option maxRecDepth 20000 in
theorem ggX0_endWeek_X0_isLent : GoodIn wsX0_endWeek wsX0_isLent := goodIn_r _ [8, 2, 29, 30, 31, 32, 33, 34, 35, 36, 37, 38, 39, 40, 41, 42, 43, 44, 45] (by decide +kernel) (by decide +kernel)
set_option maxRecDepth 20000 in
theorem gX0_endWeek_X0_isLent : GoodIn wsX0_endWeek (wsV RX0 220 RX0 yX0_isLent wsX0_isLent) := goodIn_app (goodIn_of _ (by decide +kernel)) ggX0_endWeek_X0_isLent
set_option maxRecDepth 20000 in
theorem ggX0_endWeek_X0_bringHome : GoodIn wsX0_endWeek wsX0_bringHome := goodIn_r _ [12, 2, 13, 14, 15, 16, 17, 18, 29, 30, 31, 32, 33, 34, 35, 36, 37, 38, 39, 40, 41, 42, 43, 44, 45] (by decide +kernel) (by decide +kernel)
set_option maxRecDepth 20000 in
theorem gX0_endWeek_X0_bringHome : GoodIn wsX0_endWeek (wsV RX0 254 RX0 yX0_bringHome wsX0_bringHome) := goodIn_app (goodIn_of _ (by decide +kernel)) ggX0_endWeek_X0_bringHome
set_option maxRecDepth 20000 in
theorem ggX0_endWeek_X0_softenAll : GoodIn wsX0_endWeek wsX0_softenAll := goodIn_r _ [22, 23, 24, 25, 26, 7, 27, 28, 15, 16, 17, 18, 29, 30, 31, 32, 33, 34, 35, 36, 37, 38, 39, 40, 41, 42, 43, 44, 45] (by decide +kernel) (by decide +kernel)
set_option maxRecDepth 20000 in
theorem gX0_endWeek_X0_softenAll : GoodIn wsX0_endWeek (wsV RX0 257 RX0 yX0_softenAll wsX0_softenAll) := goodIn_app (goodIn_of _ (by decide +kernel)) ggX0_endWeek_X0_softenAll
theorem dX0_endWeek_0 : decode cX0_endWeek 0 = .ok (.iconst 0, 1) := by decide +kernel
theorem dX0_endWeek_1 : decode cX0_endWeek 1 = .ok (.istore_n 1, 1) := by decide +kernel
theorem dX0_endWeek_2 : decode cX0_endWeek 2 = .ok (.iconst 0, 1) := by decide +kernel
theorem dX0_endWeek_3 : decode cX0_endWeek 3 = .ok (.istore_n 2, 1) := by decide +kernel
theorem dX0_endWeek_4 : decode cX0_endWeek 4 = .ok (.iload_n 2, 1) := by decide +kernel
theorem dX0_endWeek_5 : decode cX0_endWeek 5 = .ok (.aload_n 0, 1) := by decide +kernel
theorem dX0_endWeek_6 : decode cX0_endWeek 6 = .ok (.getfield 75, 3) := by decide +kernel
theorem dX0_endWeek_9 : decode cX0_endWeek 9 = .ok (.if_icmp .ge 38, 3) := by decide +kernel
theorem dX0_endWeek_12 : decode cX0_endWeek 12 = .ok (.aload_n 0, 1) := by decide +kernel
theorem dX0_endWeek_13 : decode cX0_endWeek 13 = .ok (.iload_n 2, 1) := by decide +kernel
theorem dX0_endWeek_14 : decode cX0_endWeek 14 = .ok (.invokevirtual 220, 3) := by decide +kernel
theorem dX0_endWeek_17 : decode cX0_endWeek 17 = .ok (.ifCond .eq 24, 3) := by decide +kernel
theorem dX0_endWeek_20 : decode cX0_endWeek 20 = .ok (.aload_n 0, 1) := by decide +kernel
theorem dX0_endWeek_21 : decode cX0_endWeek 21 = .ok (.getfield 25, 3) := by decide +kernel
theorem dX0_endWeek_24 : decode cX0_endWeek 24 = .ok (.iload_n 2, 1) := by decide +kernel
theorem dX0_endWeek_25 : decode cX0_endWeek 25 = .ok (.iaload, 1) := by decide +kernel
theorem dX0_endWeek_26 : decode cX0_endWeek 26 = .ok (.aload_n 0, 1) := by decide +kernel
theorem dX0_endWeek_27 : decode cX0_endWeek 27 = .ok (.getfield 150, 3) := by decide +kernel
theorem dX0_endWeek_30 : decode cX0_endWeek 30 = .ok (.if_icmp .gt 11, 3) := by decide +kernel
theorem dX0_endWeek_33 : decode cX0_endWeek 33 = .ok (.aload_n 0, 1) := by decide +kernel
theorem dX0_endWeek_34 : decode cX0_endWeek 34 = .ok (.iload_n 2, 1) := by decide +kernel
theorem dX0_endWeek_35 : decode cX0_endWeek 35 = .ok (.invokevirtual 254, 3) := by decide +kernel
theorem dX0_endWeek_38 : decode cX0_endWeek 38 = .ok (.iinc 1 1, 3) := by decide +kernel
theorem dX0_endWeek_41 : decode cX0_endWeek 41 = .ok (.iinc 2 1, 3) := by decide +kernel
theorem dX0_endWeek_44 : decode cX0_endWeek 44 = .ok (.goto (-40), 3) := by decide +kernel
theorem dX0_endWeek_47 : decode cX0_endWeek 47 = .ok (.aload_n 0, 1) := by decide +kernel
theorem dX0_endWeek_48 : decode cX0_endWeek 48 = .ok (.getfield 150, 3) := by decide +kernel
theorem dX0_endWeek_51 : decode cX0_endWeek 51 = .ok (.iconst 5, 1) := by decide +kernel
theorem dX0_endWeek_52 : decode cX0_endWeek 52 = .ok (.irem, 1) := by decide +kernel
theorem dX0_endWeek_53 : decode cX0_endWeek 53 = .ok (.ifCond .ne 7, 3) := by decide +kernel
theorem dX0_endWeek_56 : decode cX0_endWeek 56 = .ok (.aload_n 0, 1) := by decide +kernel
theorem dX0_endWeek_57 : decode cX0_endWeek 57 = .ok (.invokevirtual 257, 3) := by decide +kernel
theorem dX0_endWeek_60 : decode cX0_endWeek 60 = .ok (.aload_n 0, 1) := by decide +kernel
theorem dX0_endWeek_61 : decode cX0_endWeek 61 = .ok (.dup, 1) := by decide +kernel
theorem dX0_endWeek_62 : decode cX0_endWeek 62 = .ok (.getfield 150, 3) := by decide +kernel
theorem dX0_endWeek_65 : decode cX0_endWeek 65 = .ok (.iconst 1, 1) := by decide +kernel
theorem dX0_endWeek_66 : decode cX0_endWeek 66 = .ok (.iadd, 1) := by decide +kernel
theorem dX0_endWeek_67 : decode cX0_endWeek 67 = .ok (.putfield 150, 3) := by decide +kernel
theorem dX0_endWeek_70 : decode cX0_endWeek 70 = .ok (.iload_n 1, 1) := by decide +kernel
theorem dX0_endWeek_71 : decode cX0_endWeek 71 = .ok (.ireturn, 1) := by decide +kernel
theorem dX0_bringHome_0 : decode cX0_bringHome 0 = .ok (.aload_n 0, 1) := by decide +kernel
theorem dX0_bringHome_1 : decode cX0_bringHome 1 = .ok (.getfield 25, 3) := by decide +kernel
theorem dX0_bringHome_4 : decode cX0_bringHome 4 = .ok (.iload_n 1, 1) := by decide +kernel
theorem dX0_bringHome_5 : decode cX0_bringHome 5 = .ok (.iconst (-1), 1) := by decide +kernel
theorem dX0_bringHome_6 : decode cX0_bringHome 6 = .ok (.iastore, 1) := by decide +kernel
theorem dX0_bringHome_7 : decode cX0_bringHome 7 = .ok (.aload_n 0, 1) := by decide +kernel
theorem dX0_bringHome_8 : decode cX0_bringHome 8 = .ok (.getfield 28, 3) := by decide +kernel
theorem dX0_bringHome_11 : decode cX0_bringHome 11 = .ok (.iload_n 1, 1) := by decide +kernel
theorem dX0_bringHome_12 : decode cX0_bringHome 12 = .ok (.iaload, 1) := by decide +kernel
theorem dX0_bringHome_13 : decode cX0_bringHome 13 = .ok (.iconst 4, 1) := by decide +kernel
theorem dX0_bringHome_14 : decode cX0_bringHome 14 = .ok (.if_icmp .lt 21, 3) := by decide +kernel
theorem dX0_bringHome_17 : decode cX0_bringHome 17 = .ok (.aload_n 0, 1) := by decide +kernel
theorem dX0_bringHome_18 : decode cX0_bringHome 18 = .ok (.getfield 19, 3) := by decide +kernel
theorem dX0_bringHome_21 : decode cX0_bringHome 21 = .ok (.iload_n 1, 1) := by decide +kernel
theorem dX0_bringHome_22 : decode cX0_bringHome 22 = .ok (.aload_n 0, 1) := by decide +kernel
theorem dX0_bringHome_23 : decode cX0_bringHome 23 = .ok (.getfield 19, 3) := by decide +kernel
theorem dX0_bringHome_26 : decode cX0_bringHome 26 = .ok (.iload_n 1, 1) := by decide +kernel
theorem dX0_bringHome_27 : decode cX0_bringHome 27 = .ok (.iaload, 1) := by decide +kernel
theorem dX0_bringHome_28 : decode cX0_bringHome 28 = .ok (.iconst 1, 1) := by decide +kernel
theorem dX0_bringHome_29 : decode cX0_bringHome 29 = .ok (.isub, 1) := by decide +kernel
theorem dX0_bringHome_30 : decode cX0_bringHome 30 = .ok (.iconst 0, 1) := by decide +kernel
theorem dX0_bringHome_31 : decode cX0_bringHome 31 = .ok (.invokestatic 233, 3) := by decide +kernel
theorem dX0_bringHome_34 : decode cX0_bringHome 34 = .ok (.iastore, 1) := by decide +kernel
theorem dX0_bringHome_35 : decode cX0_bringHome 35 = .ok (.return_, 1) := by decide +kernel
set_option maxRecDepth 20000 in
theorem ggX0_softenAll_X0_soften : GoodIn wsX0_softenAll wsX0_soften := goodIn_r _ [6, 7, 8, 9, 10, 11, 12, 13, 14, 15, 16, 17, 18, 19, 20, 21, 22, 23, 24, 25, 26, 27, 28] (by decide +kernel) (by decide +kernel)
set_option maxRecDepth 20000 in
theorem gX0_softenAll_X0_soften : GoodIn wsX0_softenAll (wsV RX0 248 RX0 yX0_soften wsX0_soften) := goodIn_app (goodIn_of _ (by decide +kernel)) ggX0_softenAll_X0_soften
theorem dX0_softenAll_0 : decode cX0_softenAll 0 = .ok (.iconst 0, 1) := by decide +kernel
theorem dX0_softenAll_1 : decode cX0_softenAll 1 = .ok (.istore_n 1, 1) := by decide +kernel
theorem dX0_softenAll_2 : decode cX0_softenAll 2 = .ok (.iload_n 1, 1) := by decide +kernel
theorem dX0_softenAll_3 : decode cX0_softenAll 3 = .ok (.aload_n 0, 1) := by decide +kernel
theorem dX0_softenAll_4 : decode cX0_softenAll 4 = .ok (.getfield 45, 3) := by decide +kernel
theorem dX0_softenAll_7 : decode cX0_softenAll 7 = .ok (.if_icmp .ge 31, 3) := by decide +kernel
theorem dX0_softenAll_10 : decode cX0_softenAll 10 = .ok (.iconst 0, 1) := by decide +kernel
theorem dX0_softenAll_11 : decode cX0_softenAll 11 = .ok (.istore_n 2, 1) := by decide +kernel
theorem dX0_softenAll_12 : decode cX0_softenAll 12 = .ok (.iload_n 2, 1) := by decide +kernel
theorem dX0_softenAll_13 : decode cX0_softenAll 13 = .ok (.aload_n 0, 1) := by decide +kernel
theorem dX0_softenAll_14 : decode cX0_softenAll 14 = .ok (.getfield 45, 3) := by decide +kernel
theorem dX0_softenAll_17 : decode cX0_softenAll 17 = .ok (.if_icmp .ge 15, 3) := by decide +kernel
theorem dX0_softenAll_20 : decode cX0_softenAll 20 = .ok (.aload_n 0, 1) := by decide +kernel
theorem dX0_softenAll_21 : decode cX0_softenAll 21 = .ok (.iload_n 1, 1) := by decide +kernel
theorem dX0_softenAll_22 : decode cX0_softenAll 22 = .ok (.iload_n 2, 1) := by decide +kernel
theorem dX0_softenAll_23 : decode cX0_softenAll 23 = .ok (.invokevirtual 248, 3) := by decide +kernel
theorem dX0_softenAll_26 : decode cX0_softenAll 26 = .ok (.iinc 2 1, 3) := by decide +kernel
theorem dX0_softenAll_29 : decode cX0_softenAll 29 = .ok (.goto (-17), 3) := by decide +kernel
theorem dX0_softenAll_32 : decode cX0_softenAll 32 = .ok (.iinc 1 1, 3) := by decide +kernel
theorem dX0_softenAll_35 : decode cX0_softenAll 35 = .ok (.goto (-33), 3) := by decide +kernel
theorem dX0_softenAll_38 : decode cX0_softenAll 38 = .ok (.return_, 1) := by decide +kernel
