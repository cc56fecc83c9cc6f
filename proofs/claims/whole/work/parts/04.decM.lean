theorem dX1_init_0 : decode cX1_init 0 = .ok (.aload_n 0, 1) := by decide +kernel
theorem dX1_init_1 : decode cX1_init 1 = .ok (.invokespecial 1, 3) := by decide +kernel
theorem dX1_init_4 : decode cX1_init 4 = .ok (.aload_n 0, 1) := by decide +kernel
theorem dX1_init_5 : decode cX1_init 5 = .ok (.sipush 252, 3) := by decide +kernel
theorem dX1_init_8 : decode cX1_init 8 = .ok (.newarray .int, 2) := by decide +kernel
theorem dX1_init_10 : decode cX1_init 10 = .ok (.putfield 9, 3) := by decide +kernel
theorem dX1_init_13 : decode cX1_init 13 = .ok (.aload_n 0, 1) := by decide +kernel
theorem dX1_init_14 : decode cX1_init 14 = .ok (.bipush 56, 2) := by decide +kernel
theorem dX1_init_16 : decode cX1_init 16 = .ok (.newarray .int, 2) := by decide +kernel
theorem dX1_init_18 : decode cX1_init 18 = .ok (.putfield 13, 3) := by decide +kernel
theorem dX1_init_21 : decode cX1_init 21 = .ok (.aload_n 0, 1) := by decide +kernel
theorem dX1_init_22 : decode cX1_init 22 = .ok (.bipush 49, 2) := by decide +kernel
theorem dX1_init_24 : decode cX1_init 24 = .ok (.newarray .int, 2) := by decide +kernel
theorem dX1_init_26 : decode cX1_init 26 = .ok (.putfield 16, 3) := by decide +kernel
theorem dX1_init_29 : decode cX1_init 29 = .ok (.aload_n 0, 1) := by decide +kernel
theorem dX1_init_30 : decode cX1_init 30 = .ok (.bipush 7, 2) := by decide +kernel
theorem dX1_init_32 : decode cX1_init 32 = .ok (.newarray .int, 2) := by decide +kernel
theorem dX1_init_34 : decode cX1_init 34 = .ok (.putfield 19, 3) := by decide +kernel
theorem dX1_init_37 : decode cX1_init 37 = .ok (.aload_n 0, 1) := by decide +kernel
theorem dX1_init_38 : decode cX1_init 38 = .ok (.iconst 3, 1) := by decide +kernel
theorem dX1_init_39 : decode cX1_init 39 = .ok (.newarray .int, 2) := by decide +kernel
theorem dX1_init_41 : decode cX1_init 41 = .ok (.putfield 22, 3) := by decide +kernel
theorem dX1_init_44 : decode cX1_init 44 = .ok (.aload_n 0, 1) := by decide +kernel
theorem dX1_init_45 : decode cX1_init 45 = .ok (.bipush 6, 2) := by decide +kernel
theorem dX1_init_47 : decode cX1_init 47 = .ok (.newarray .int, 2) := by decide +kernel
theorem dX1_init_49 : decode cX1_init 49 = .ok (.putfield 25, 3) := by decide +kernel
theorem dX1_init_52 : decode cX1_init 52 = .ok (.return_, 1) := by decide +kernel
theorem dX1_thrown_0 : decode cX1_thrown 0 = .ok (.aload_n 0, 1) := by decide +kernel
theorem dX1_thrown_1 : decode cX1_thrown 1 = .ok (.getfield 28, 3) := by decide +kernel
theorem dX1_thrown_4 : decode cX1_thrown 4 = .ok (.ireturn, 1) := by decide +kernel
theorem dX1_fail_0 : decode cX1_fail 0 = .ok (.aload_n 0, 1) := by decide +kernel
theorem dX1_fail_1 : decode cX1_fail 1 = .ok (.iload_n 1, 1) := by decide +kernel
theorem dX1_fail_2 : decode cX1_fail 2 = .ok (.putfield 28, 3) := by decide +kernel
theorem dX1_fail_5 : decode cX1_fail 5 = .ok (.iconst 0, 1) := by decide +kernel
theorem dX1_fail_6 : decode cX1_fail 6 = .ok (.ireturn, 1) := by decide +kernel
theorem dX1_isIn_0 : decode cX1_isIn 0 = .ok (.iload_n 0, 1) := by decide +kernel
theorem dX1_isIn_1 : decode cX1_isIn 1 = .ok (.iload_n 1, 1) := by decide +kernel
theorem dX1_isIn_2 : decode cX1_isIn 2 = .ok (.if_icmp .lt 12, 3) := by decide +kernel
theorem dX1_isIn_5 : decode cX1_isIn 5 = .ok (.iload_n 0, 1) := by decide +kernel
theorem dX1_isIn_6 : decode cX1_isIn 6 = .ok (.iload_n 2, 1) := by decide +kernel
theorem dX1_isIn_7 : decode cX1_isIn 7 = .ok (.if_icmp .gt 7, 3) := by decide +kernel
theorem dX1_isIn_10 : decode cX1_isIn 10 = .ok (.iconst 1, 1) := by decide +kernel
theorem dX1_isIn_11 : decode cX1_isIn 11 = .ok (.goto 4, 3) := by decide +kernel
theorem dX1_isIn_14 : decode cX1_isIn 14 = .ok (.iconst 0, 1) := by decide +kernel
theorem dX1_isIn_15 : decode cX1_isIn 15 = .ok (.ireturn, 1) := by decide +kernel
set_option maxRecDepth 20000 in
theorem ggX1_isCollector_X1_isIn : GoodIn wsX1_isCollector wsX1_isIn := goodIn_r _ [5] (by decide +kernel) (by decide +kernel)
set_option maxRecDepth 20000 in
theorem gX1_isCollector_X1_isIn : GoodIn wsX1_isCollector (va_wsS RX1 35 yX1_isIn wsX1_isIn) := goodIn_app (goodIn_of _ (by decide +kernel)) ggX1_isCollector_X1_isIn
theorem dX1_isCollector_0 : decode cX1_isCollector 0 = .ok (.iload_n 1, 1) := by decide +kernel
theorem dX1_isCollector_1 : decode cX1_isCollector 1 = .ok (.iconst 0, 1) := by decide +kernel
theorem dX1_isCollector_2 : decode cX1_isCollector 2 = .ok (.aload_n 0, 1) := by decide +kernel
theorem dX1_isCollector_3 : decode cX1_isCollector 3 = .ok (.getfield 32, 3) := by decide +kernel
theorem dX1_isCollector_6 : decode cX1_isCollector 6 = .ok (.iconst 1, 1) := by decide +kernel
theorem dX1_isCollector_7 : decode cX1_isCollector 7 = .ok (.isub, 1) := by decide +kernel
theorem dX1_isCollector_8 : decode cX1_isCollector 8 = .ok (.invokestatic 35, 3) := by decide +kernel
theorem dX1_isCollector_11 : decode cX1_isCollector 11 = .ok (.ireturn, 1) := by decide +kernel
set_option maxRecDepth 20000 in
theorem ggX1_isThimble_X1_isIn : GoodIn wsX1_isThimble wsX1_isIn := goodIn_r _ [5] (by decide +kernel) (by decide +kernel)
set_option maxRecDepth 20000 in
theorem gX1_isThimble_X1_isIn : GoodIn wsX1_isThimble (va_wsS RX1 35 yX1_isIn wsX1_isIn) := goodIn_app (goodIn_of _ (by decide +kernel)) ggX1_isThimble_X1_isIn
theorem dX1_isThimble_0 : decode cX1_isThimble 0 = .ok (.iload_n 1, 1) := by decide +kernel
theorem dX1_isThimble_1 : decode cX1_isThimble 1 = .ok (.iconst 0, 1) := by decide +kernel
theorem dX1_isThimble_2 : decode cX1_isThimble 2 = .ok (.aload_n 0, 1) := by decide +kernel
theorem dX1_isThimble_3 : decode cX1_isThimble 3 = .ok (.getfield 39, 3) := by decide +kernel
theorem dX1_isThimble_6 : decode cX1_isThimble 6 = .ok (.iconst 1, 1) := by decide +kernel
theorem dX1_isThimble_7 : decode cX1_isThimble 7 = .ok (.isub, 1) := by decide +kernel
theorem dX1_isThimble_8 : decode cX1_isThimble 8 = .ok (.invokestatic 35, 3) := by decide +kernel
theorem dX1_isThimble_11 : decode cX1_isThimble 11 = .ok (.ireturn, 1) := by decide +kernel
set_option maxRecDepth 20000 in
theorem ggX1_isSet_X1_isIn : GoodIn wsX1_isSet wsX1_isIn := goodIn_r _ [4] (by decide +kernel) (by decide +kernel)
set_option maxRecDepth 20000 in
theorem gX1_isSet_X1_isIn : GoodIn wsX1_isSet (va_wsS RX1 35 yX1_isIn wsX1_isIn) := goodIn_app (goodIn_of _ (by decide +kernel)) ggX1_isSet_X1_isIn
theorem dX1_isSet_0 : decode cX1_isSet 0 = .ok (.iload_n 0, 1) := by decide +kernel
theorem dX1_isSet_1 : decode cX1_isSet 1 = .ok (.iconst 0, 1) := by decide +kernel
theorem dX1_isSet_2 : decode cX1_isSet 2 = .ok (.bipush 7, 2) := by decide +kernel
theorem dX1_isSet_4 : decode cX1_isSet 4 = .ok (.invokestatic 35, 3) := by decide +kernel
theorem dX1_isSet_7 : decode cX1_isSet 7 = .ok (.ireturn, 1) := by decide +kernel
theorem dX1_th_0 : decode cX1_th 0 = .ok (.aload_n 0, 1) := by decide +kernel
theorem dX1_th_1 : decode cX1_th 1 = .ok (.getfield 9, 3) := by decide +kernel
theorem dX1_th_4 : decode cX1_th 4 = .ok (.bipush 7, 2) := by decide +kernel
theorem dX1_th_6 : decode cX1_th 6 = .ok (.iload_n 1, 1) := by decide +kernel
theorem dX1_th_7 : decode cX1_th 7 = .ok (.imul, 1) := by decide +kernel
theorem dX1_th_8 : decode cX1_th 8 = .ok (.iload_n 2, 1) := by decide +kernel
theorem dX1_th_9 : decode cX1_th 9 = .ok (.iadd, 1) := by decide +kernel
theorem dX1_th_10 : decode cX1_th 10 = .ok (.iaload, 1) := by decide +kernel
theorem dX1_th_11 : decode cX1_th 11 = .ok (.ireturn, 1) := by decide +kernel
theorem dX1_set_0 : decode cX1_set 0 = .ok (.aload_n 0, 1) := by decide +kernel
theorem dX1_set_1 : decode cX1_set 1 = .ok (.getfield 9, 3) := by decide +kernel
theorem dX1_set_4 : decode cX1_set 4 = .ok (.bipush 7, 2) := by decide +kernel
theorem dX1_set_6 : decode cX1_set 6 = .ok (.iload_n 1, 1) := by decide +kernel
theorem dX1_set_7 : decode cX1_set 7 = .ok (.imul, 1) := by decide +kernel
theorem dX1_set_8 : decode cX1_set 8 = .ok (.iload_n 2, 1) := by decide +kernel
theorem dX1_set_9 : decode cX1_set 9 = .ok (.iadd, 1) := by decide +kernel
theorem dX1_set_10 : decode cX1_set 10 = .ok (.iload_n 3, 1) := by decide +kernel
theorem dX1_set_11 : decode cX1_set 11 = .ok (.iastore, 1) := by decide +kernel
theorem dX1_set_12 : decode cX1_set 12 = .ok (.return_, 1) := by decide +kernel
set_option maxRecDepth 20000 in
theorem ggX1_isLent_X1_th : GoodIn wsX1_isLent wsX1_th := goodIn_r _ [5, 6, 7, 8, 9, 10, 11, 12, 13, 14, 15] (by decide +kernel) (by decide +kernel)
set_option maxRecDepth 20000 in
theorem gX1_isLent_X1_th : GoodIn wsX1_isLent (wsV RX1 42 RX1 yX1_th wsX1_th) := goodIn_app (goodIn_of _ (by decide +kernel)) ggX1_isLent_X1_th
theorem dX1_isLent_0 : decode cX1_isLent 0 = .ok (.aload_n 0, 1) := by decide +kernel
theorem dX1_isLent_1 : decode cX1_isLent 1 = .ok (.iload_n 1, 1) := by decide +kernel
theorem dX1_isLent_2 : decode cX1_isLent 2 = .ok (.iconst 5, 1) := by decide +kernel
theorem dX1_isLent_3 : decode cX1_isLent 3 = .ok (.invokevirtual 42, 3) := by decide +kernel
theorem dX1_isLent_6 : decode cX1_isLent 6 = .ok (.iconst (-1), 1) := by decide +kernel
theorem dX1_isLent_7 : decode cX1_isLent 7 = .ok (.if_icmp .eq 7, 3) := by decide +kernel
theorem dX1_isLent_10 : decode cX1_isLent 10 = .ok (.iconst 1, 1) := by decide +kernel
theorem dX1_isLent_11 : decode cX1_isLent 11 = .ok (.goto 4, 3) := by decide +kernel
theorem dX1_isLent_14 : decode cX1_isLent 14 = .ok (.iconst 0, 1) := by decide +kernel
theorem dX1_isLent_15 : decode cX1_isLent 15 = .ok (.ireturn, 1) := by decide +kernel
set_option maxRecDepth 20000 in
theorem ggX1_join_X1_fail : GoodIn wsX1_join wsX1_fail := goodIn_r _ [8, 1, 9, 10, 11, 12, 13, 14, 15, 16, 17] (by decide +kernel) (by decide +kernel)
set_option maxRecDepth 20000 in
theorem gX1_join_X1_fail : GoodIn wsX1_join (wsV RX1 46 RX1 yX1_fail wsX1_fail) := goodIn_app (goodIn_of _ (by decide +kernel)) ggX1_join_X1_fail
theorem dX1_join_0 : decode cX1_join 0 = .ok (.aload_n 0, 1) := by decide +kernel
theorem dX1_join_1 : decode cX1_join 1 = .ok (.iconst 0, 1) := by decide +kernel
theorem dX1_join_2 : decode cX1_join 2 = .ok (.putfield 28, 3) := by decide +kernel
theorem dX1_join_5 : decode cX1_join 5 = .ok (.aload_n 0, 1) := by decide +kernel
theorem dX1_join_6 : decode cX1_join 6 = .ok (.getfield 32, 3) := by decide +kernel
theorem dX1_join_9 : decode cX1_join 9 = .ok (.bipush 7, 2) := by decide +kernel
theorem dX1_join_11 : decode cX1_join 11 = .ok (.if_icmp .ne 9, 3) := by decide +kernel
theorem dX1_join_14 : decode cX1_join 14 = .ok (.aload_n 0, 1) := by decide +kernel
theorem dX1_join_15 : decode cX1_join 15 = .ok (.iconst 1, 1) := by decide +kernel
theorem dX1_join_16 : decode cX1_join 16 = .ok (.invokevirtual 46, 3) := by decide +kernel
theorem dX1_join_19 : decode cX1_join 19 = .ok (.ireturn, 1) := by decide +kernel
theorem dX1_join_20 : decode cX1_join 20 = .ok (.iconst 0, 1) := by decide +kernel
theorem dX1_join_21 : decode cX1_join 21 = .ok (.istore_n 1, 1) := by decide +kernel
theorem dX1_join_22 : decode cX1_join 22 = .ok (.iload_n 1, 1) := by decide +kernel
theorem dX1_join_23 : decode cX1_join 23 = .ok (.bipush 8, 2) := by decide +kernel
theorem dX1_join_25 : decode cX1_join 25 = .ok (.if_icmp .ge 24, 3) := by decide +kernel
theorem dX1_join_28 : decode cX1_join 28 = .ok (.aload_n 0, 1) := by decide +kernel
theorem dX1_join_29 : decode cX1_join 29 = .ok (.getfield 13, 3) := by decide +kernel
theorem dX1_join_32 : decode cX1_join 32 = .ok (.bipush 8, 2) := by decide +kernel
theorem dX1_join_34 : decode cX1_join 34 = .ok (.aload_n 0, 1) := by decide +kernel
theorem dX1_join_35 : decode cX1_join 35 = .ok (.getfield 32, 3) := by decide +kernel
theorem dX1_join_38 : decode cX1_join 38 = .ok (.imul, 1) := by decide +kernel
theorem dX1_join_39 : decode cX1_join 39 = .ok (.iload_n 1, 1) := by decide +kernel
theorem dX1_join_40 : decode cX1_join 40 = .ok (.iadd, 1) := by decide +kernel
theorem dX1_join_41 : decode cX1_join 41 = .ok (.iconst 1, 1) := by decide +kernel
theorem dX1_join_42 : decode cX1_join 42 = .ok (.iastore, 1) := by decide +kernel
theorem dX1_join_43 : decode cX1_join 43 = .ok (.iinc 1 1, 3) := by decide +kernel
theorem dX1_join_46 : decode cX1_join 46 = .ok (.goto (-24), 3) := by decide +kernel
theorem dX1_join_49 : decode cX1_join 49 = .ok (.aload_n 0, 1) := by decide +kernel
theorem dX1_join_50 : decode cX1_join 50 = .ok (.dup, 1) := by decide +kernel
theorem dX1_join_51 : decode cX1_join 51 = .ok (.getfield 32, 3) := by decide +kernel
theorem dX1_join_54 : decode cX1_join 54 = .ok (.iconst 1, 1) := by decide +kernel
theorem dX1_join_55 : decode cX1_join 55 = .ok (.iadd, 1) := by decide +kernel
theorem dX1_join_56 : decode cX1_join 56 = .ok (.putfield 32, 3) := by decide +kernel
theorem dX1_join_59 : decode cX1_join 59 = .ok (.aload_n 0, 1) := by decide +kernel
theorem dX1_join_60 : decode cX1_join 60 = .ok (.getfield 32, 3) := by decide +kernel
theorem dX1_join_63 : decode cX1_join 63 = .ok (.iconst 1, 1) := by decide +kernel
theorem dX1_join_64 : decode cX1_join 64 = .ok (.isub, 1) := by decide +kernel
theorem dX1_join_65 : decode cX1_join 65 = .ok (.ireturn, 1) := by decide +kernel
set_option maxRecDepth 20000 in
theorem ggX1_find_X1_isCollector : GoodIn wsX1_find wsX1_isCollector := goodIn_r _ [13, 14, 15, 16, 12, 17, 25, 26, 27, 28, 29, 30, 31, 32, 33] (by decide +kernel) (by decide +kernel)
set_option maxRecDepth 20000 in
theorem gX1_find_X1_isCollector : GoodIn wsX1_find (wsV RX1 50 RX1 yX1_isCollector wsX1_isCollector) := goodIn_app (goodIn_of _ (by decide +kernel)) ggX1_find_X1_isCollector
set_option maxRecDepth 20000 in
theorem ggX1_find_X1_fail : GoodIn wsX1_find wsX1_fail := goodIn_r _ [21, 1, 25, 26, 27, 28, 29, 30, 31, 32, 33] (by decide +kernel) (by decide +kernel)
set_option maxRecDepth 20000 in
theorem gX1_find_X1_fail : GoodIn wsX1_find (wsV RX1 46 RX1 yX1_fail wsX1_fail) := goodIn_app (goodIn_of _ (by decide +kernel)) ggX1_find_X1_fail
set_option maxRecDepth 20000 in
theorem ggX1_find_X1_isSet : GoodIn wsX1_find wsX1_isSet := goodIn_r _ [24, 15, 16, 12, 17] (by decide +kernel) (by decide +kernel)
set_option maxRecDepth 20000 in
theorem gX1_find_X1_isSet : GoodIn wsX1_find (va_wsS RX1 54 yX1_isSet wsX1_isSet) := goodIn_app (goodIn_of _ (by decide +kernel)) ggX1_find_X1_isSet
set_option maxRecDepth 20000 in
theorem ggX1_find_X1_isIn : GoodIn wsX1_find wsX1_isIn := goodIn_r _ [17] (by decide +kernel) (by decide +kernel)
set_option maxRecDepth 20000 in
theorem gX1_find_X1_isIn : GoodIn wsX1_find (va_wsS RX1 35 yX1_isIn wsX1_isIn) := goodIn_app (goodIn_of _ (by decide +kernel)) ggX1_find_X1_isIn
theorem dX1_find_0 : decode cX1_find 0 = .ok (.aload_n 0, 1) := by decide +kernel
theorem dX1_find_1 : decode cX1_find 1 = .ok (.iconst 0, 1) := by decide +kernel
theorem dX1_find_2 : decode cX1_find 2 = .ok (.putfield 28, 3) := by decide +kernel
theorem dX1_find_5 : decode cX1_find 5 = .ok (.aload_n 0, 1) := by decide +kernel
theorem dX1_find_6 : decode cX1_find 6 = .ok (.iload_n 1, 1) := by decide +kernel
theorem dX1_find_7 : decode cX1_find 7 = .ok (.invokevirtual 50, 3) := by decide +kernel
theorem dX1_find_10 : decode cX1_find 10 = .ok (.ifCond .ne 9, 3) := by decide +kernel
theorem dX1_find_13 : decode cX1_find 13 = .ok (.aload_n 0, 1) := by decide +kernel
theorem dX1_find_14 : decode cX1_find 14 = .ok (.iconst 1, 1) := by decide +kernel
theorem dX1_find_15 : decode cX1_find 15 = .ok (.invokevirtual 46, 3) := by decide +kernel
theorem dX1_find_18 : decode cX1_find 18 = .ok (.ireturn, 1) := by decide +kernel
theorem dX1_find_19 : decode cX1_find 19 = .ok (.iload_n 2, 1) := by decide +kernel
theorem dX1_find_20 : decode cX1_find 20 = .ok (.invokestatic 54, 3) := by decide +kernel
theorem dX1_find_23 : decode cX1_find 23 = .ok (.ifCond .eq 34, 3) := by decide +kernel
theorem dX1_find_26 : decode cX1_find 26 = .ok (.iload_n 3, 1) := by decide +kernel
theorem dX1_find_27 : decode cX1_find 27 = .ok (.iconst 0, 1) := by decide +kernel
theorem dX1_find_28 : decode cX1_find 28 = .ok (.iconst 5, 1) := by decide +kernel
theorem dX1_find_29 : decode cX1_find 29 = .ok (.invokestatic 35, 3) := by decide +kernel
theorem dX1_find_32 : decode cX1_find 32 = .ok (.ifCond .eq 25, 3) := by decide +kernel
theorem dX1_find_35 : decode cX1_find 35 = .ok (.iload 4, 2) := by decide +kernel
theorem dX1_find_37 : decode cX1_find 37 = .ok (.iconst 0, 1) := by decide +kernel
theorem dX1_find_38 : decode cX1_find 38 = .ok (.bipush 19, 2) := by decide +kernel
theorem dX1_find_40 : decode cX1_find 40 = .ok (.invokestatic 35, 3) := by decide +kernel
theorem dX1_find_43 : decode cX1_find 43 = .ok (.ifCond .eq 14, 3) := by decide +kernel
theorem dX1_find_46 : decode cX1_find 46 = .ok (.iload 5, 2) := by decide +kernel
theorem dX1_find_48 : decode cX1_find 48 = .ok (.iconst 0, 1) := by decide +kernel
theorem dX1_find_49 : decode cX1_find 49 = .ok (.bipush 9, 2) := by decide +kernel
theorem dX1_find_51 : decode cX1_find 51 = .ok (.invokestatic 35, 3) := by decide +kernel
theorem dX1_find_54 : decode cX1_find 54 = .ok (.ifCond .ne 9, 3) := by decide +kernel
theorem dX1_find_57 : decode cX1_find 57 = .ok (.aload_n 0, 1) := by decide +kernel
theorem dX1_find_58 : decode cX1_find 58 = .ok (.iconst 2, 1) := by decide +kernel
theorem dX1_find_59 : decode cX1_find 59 = .ok (.invokevirtual 46, 3) := by decide +kernel
theorem dX1_find_62 : decode cX1_find 62 = .ok (.ireturn, 1) := by decide +kernel
theorem dX1_find_63 : decode cX1_find 63 = .ok (.aload_n 0, 1) := by decide +kernel
theorem dX1_find_64 : decode cX1_find 64 = .ok (.getfield 39, 3) := by decide +kernel
theorem dX1_find_67 : decode cX1_find 67 = .ok (.bipush 36, 2) := by decide +kernel
theorem dX1_find_69 : decode cX1_find 69 = .ok (.if_icmp .ne 9, 3) := by decide +kernel
theorem dX1_find_72 : decode cX1_find 72 = .ok (.aload_n 0, 1) := by decide +kernel
theorem dX1_find_73 : decode cX1_find 73 = .ok (.iconst 3, 1) := by decide +kernel
theorem dX1_find_74 : decode cX1_find 74 = .ok (.invokevirtual 46, 3) := by decide +kernel
theorem dX1_find_77 : decode cX1_find 77 = .ok (.ireturn, 1) := by decide +kernel
theorem dX1_find_78 : decode cX1_find 78 = .ok (.bipush 7, 2) := by decide +kernel
theorem dX1_find_80 : decode cX1_find 80 = .ok (.newarray .int, 2) := by decide +kernel
theorem dX1_find_82 : decode cX1_find 82 = .ok (.dup, 1) := by decide +kernel
theorem dX1_find_83 : decode cX1_find 83 = .ok (.iconst 0, 1) := by decide +kernel
theorem dX1_find_84 : decode cX1_find 84 = .ok (.iload_n 2, 1) := by decide +kernel
theorem dX1_find_85 : decode cX1_find 85 = .ok (.iastore, 1) := by decide +kernel
theorem dX1_find_86 : decode cX1_find 86 = .ok (.dup, 1) := by decide +kernel
theorem dX1_find_87 : decode cX1_find 87 = .ok (.iconst 1, 1) := by decide +kernel
theorem dX1_find_88 : decode cX1_find 88 = .ok (.iload_n 3, 1) := by decide +kernel
theorem dX1_find_89 : decode cX1_find 89 = .ok (.iastore, 1) := by decide +kernel
theorem dX1_find_90 : decode cX1_find 90 = .ok (.dup, 1) := by decide +kernel
theorem dX1_find_91 : decode cX1_find 91 = .ok (.iconst 2, 1) := by decide +kernel
theorem dX1_find_92 : decode cX1_find 92 = .ok (.iload 4, 2) := by decide +kernel
theorem dX1_find_94 : decode cX1_find 94 = .ok (.iastore, 1) := by decide +kernel
theorem dX1_find_95 : decode cX1_find 95 = .ok (.dup, 1) := by decide +kernel
theorem dX1_find_96 : decode cX1_find 96 = .ok (.iconst 3, 1) := by decide +kernel
theorem dX1_find_97 : decode cX1_find 97 = .ok (.iload 5, 2) := by decide +kernel
theorem dX1_find_99 : decode cX1_find 99 = .ok (.iastore, 1) := by decide +kernel
theorem dX1_find_100 : decode cX1_find 100 = .ok (.dup, 1) := by decide +kernel
theorem dX1_find_101 : decode cX1_find 101 = .ok (.iconst 4, 1) := by decide +kernel
theorem dX1_find_102 : decode cX1_find 102 = .ok (.iload_n 1, 1) := by decide +kernel
theorem dX1_find_103 : decode cX1_find 103 = .ok (.iastore, 1) := by decide +kernel
theorem dX1_find_104 : decode cX1_find 104 = .ok (.dup, 1) := by decide +kernel
theorem dX1_find_105 : decode cX1_find 105 = .ok (.iconst 5, 1) := by decide +kernel
theorem dX1_find_106 : decode cX1_find 106 = .ok (.iconst (-1), 1) := by decide +kernel
theorem dX1_find_107 : decode cX1_find 107 = .ok (.iastore, 1) := by decide +kernel
theorem dX1_find_108 : decode cX1_find 108 = .ok (.dup, 1) := by decide +kernel
theorem dX1_find_109 : decode cX1_find 109 = .ok (.bipush 6, 2) := by decide +kernel
theorem dX1_find_111 : decode cX1_find 111 = .ok (.iconst 0, 1) := by decide +kernel
theorem dX1_find_112 : decode cX1_find 112 = .ok (.iastore, 1) := by decide +kernel
theorem dX1_find_113 : decode cX1_find 113 = .ok (.astore 6, 2) := by decide +kernel
theorem dX1_find_115 : decode cX1_find 115 = .ok (.aload 6, 2) := by decide +kernel
theorem dX1_find_117 : decode cX1_find 117 = .ok (.iconst 0, 1) := by decide +kernel
theorem dX1_find_118 : decode cX1_find 118 = .ok (.aload_n 0, 1) := by decide +kernel
theorem dX1_find_119 : decode cX1_find 119 = .ok (.getfield 9, 3) := by decide +kernel
theorem dX1_find_122 : decode cX1_find 122 = .ok (.bipush 7, 2) := by decide +kernel
theorem dX1_find_124 : decode cX1_find 124 = .ok (.aload_n 0, 1) := by decide +kernel
theorem dX1_find_125 : decode cX1_find 125 = .ok (.getfield 39, 3) := by decide +kernel
theorem dX1_find_128 : decode cX1_find 128 = .ok (.imul, 1) := by decide +kernel
theorem dX1_find_129 : decode cX1_find 129 = .ok (.bipush 7, 2) := by decide +kernel
theorem dX1_find_131 : decode cX1_find 131 = .ok (.invokestatic 57, 3) := by decide +kernel
theorem dX1_find_134 : decode cX1_find 134 = .ok (.aload_n 0, 1) := by decide +kernel
theorem dX1_find_135 : decode cX1_find 135 = .ok (.dup, 1) := by decide +kernel
theorem dX1_find_136 : decode cX1_find 136 = .ok (.getfield 39, 3) := by decide +kernel
theorem dX1_find_139 : decode cX1_find 139 = .ok (.iconst 1, 1) := by decide +kernel
theorem dX1_find_140 : decode cX1_find 140 = .ok (.iadd, 1) := by decide +kernel
theorem dX1_find_141 : decode cX1_find 141 = .ok (.putfield 39, 3) := by decide +kernel
theorem dX1_find_144 : decode cX1_find 144 = .ok (.aload_n 0, 1) := by decide +kernel
theorem dX1_find_145 : decode cX1_find 145 = .ok (.getfield 39, 3) := by decide +kernel
theorem dX1_find_148 : decode cX1_find 148 = .ok (.iconst 1, 1) := by decide +kernel
theorem dX1_find_149 : decode cX1_find 149 = .ok (.isub, 1) := by decide +kernel
theorem dX1_find_150 : decode cX1_find 150 = .ok (.ireturn, 1) := by decide +kernel
set_option maxRecDepth 20000 in
theorem ggX1_like_X1_isCollector : GoodIn wsX1_like wsX1_isCollector := goodIn_r _ [7, 8, 9, 10, 6, 11, 19, 20, 21, 22, 23, 24, 25, 26, 27] (by decide +kernel) (by decide +kernel)
set_option maxRecDepth 20000 in
theorem gX1_like_X1_isCollector : GoodIn wsX1_like (wsV RX1 50 RX1 yX1_isCollector wsX1_isCollector) := goodIn_app (goodIn_of _ (by decide +kernel)) ggX1_like_X1_isCollector
set_option maxRecDepth 20000 in
theorem ggX1_like_X1_isSet : GoodIn wsX1_like wsX1_isSet := goodIn_r _ [14, 9, 10, 6, 11] (by decide +kernel) (by decide +kernel)
set_option maxRecDepth 20000 in
theorem gX1_like_X1_isSet : GoodIn wsX1_like (va_wsS RX1 54 yX1_isSet wsX1_isSet) := goodIn_app (goodIn_of _ (by decide +kernel)) ggX1_like_X1_isSet
set_option maxRecDepth 20000 in
theorem ggX1_like_X1_fail : GoodIn wsX1_like wsX1_fail := goodIn_r _ [18, 1, 19, 20, 21, 22, 23, 24, 25, 26, 27] (by decide +kernel) (by decide +kernel)
set_option maxRecDepth 20000 in
theorem gX1_like_X1_fail : GoodIn wsX1_like (wsV RX1 46 RX1 yX1_fail wsX1_fail) := goodIn_app (goodIn_of _ (by decide +kernel)) ggX1_like_X1_fail
set_option maxRecDepth 20000 in
theorem ggX1_like_X1_isIn : GoodIn wsX1_like wsX1_isIn := goodIn_r _ [11] (by decide +kernel) (by decide +kernel)
set_option maxRecDepth 20000 in
theorem gX1_like_X1_isIn : GoodIn wsX1_like (va_wsS RX1 35 yX1_isIn wsX1_isIn) := goodIn_app (goodIn_of _ (by decide +kernel)) ggX1_like_X1_isIn
theorem dX1_like_0 : decode cX1_like 0 = .ok (.aload_n 0, 1) := by decide +kernel
theorem dX1_like_1 : decode cX1_like 1 = .ok (.iconst 0, 1) := by decide +kernel
theorem dX1_like_2 : decode cX1_like 2 = .ok (.putfield 28, 3) := by decide +kernel
theorem dX1_like_5 : decode cX1_like 5 = .ok (.aload_n 0, 1) := by decide +kernel
theorem dX1_like_6 : decode cX1_like 6 = .ok (.iload_n 1, 1) := by decide +kernel
theorem dX1_like_7 : decode cX1_like 7 = .ok (.invokevirtual 50, 3) := by decide +kernel
theorem dX1_like_10 : decode cX1_like 10 = .ok (.ifCond .eq 10, 3) := by decide +kernel
theorem dX1_like_13 : decode cX1_like 13 = .ok (.iload_n 2, 1) := by decide +kernel
theorem dX1_like_14 : decode cX1_like 14 = .ok (.invokestatic 54, 3) := by decide +kernel
theorem dX1_like_17 : decode cX1_like 17 = .ok (.ifCond .ne 9, 3) := by decide +kernel
theorem dX1_like_20 : decode cX1_like 20 = .ok (.aload_n 0, 1) := by decide +kernel
theorem dX1_like_21 : decode cX1_like 21 = .ok (.iconst 1, 1) := by decide +kernel
theorem dX1_like_22 : decode cX1_like 22 = .ok (.invokevirtual 46, 3) := by decide +kernel
theorem dX1_like_25 : decode cX1_like 25 = .ok (.ireturn, 1) := by decide +kernel
theorem dX1_like_26 : decode cX1_like 26 = .ok (.iload_n 3, 1) := by decide +kernel
theorem dX1_like_27 : decode cX1_like 27 = .ok (.iconst 0, 1) := by decide +kernel
theorem dX1_like_28 : decode cX1_like 28 = .ok (.iconst 5, 1) := by decide +kernel
theorem dX1_like_29 : decode cX1_like 29 = .ok (.invokestatic 35, 3) := by decide +kernel
theorem dX1_like_32 : decode cX1_like 32 = .ok (.ifCond .ne 9, 3) := by decide +kernel
theorem dX1_like_35 : decode cX1_like 35 = .ok (.aload_n 0, 1) := by decide +kernel
theorem dX1_like_36 : decode cX1_like 36 = .ok (.iconst 2, 1) := by decide +kernel
theorem dX1_like_37 : decode cX1_like 37 = .ok (.invokevirtual 46, 3) := by decide +kernel
theorem dX1_like_40 : decode cX1_like 40 = .ok (.ireturn, 1) := by decide +kernel
theorem dX1_like_41 : decode cX1_like 41 = .ok (.aload_n 0, 1) := by decide +kernel
theorem dX1_like_42 : decode cX1_like 42 = .ok (.getfield 13, 3) := by decide +kernel
theorem dX1_like_45 : decode cX1_like 45 = .ok (.bipush 8, 2) := by decide +kernel
theorem dX1_like_47 : decode cX1_like 47 = .ok (.iload_n 1, 1) := by decide +kernel
theorem dX1_like_48 : decode cX1_like 48 = .ok (.imul, 1) := by decide +kernel
theorem dX1_like_49 : decode cX1_like 49 = .ok (.iload_n 2, 1) := by decide +kernel
theorem dX1_like_50 : decode cX1_like 50 = .ok (.iadd, 1) := by decide +kernel
theorem dX1_like_51 : decode cX1_like 51 = .ok (.iaload, 1) := by decide +kernel
theorem dX1_like_52 : decode cX1_like 52 = .ok (.istore 4, 2) := by decide +kernel
theorem dX1_like_54 : decode cX1_like 54 = .ok (.aload_n 0, 1) := by decide +kernel
theorem dX1_like_55 : decode cX1_like 55 = .ok (.getfield 13, 3) := by decide +kernel
theorem dX1_like_58 : decode cX1_like 58 = .ok (.bipush 8, 2) := by decide +kernel
theorem dX1_like_60 : decode cX1_like 60 = .ok (.iload_n 1, 1) := by decide +kernel
theorem dX1_like_61 : decode cX1_like 61 = .ok (.imul, 1) := by decide +kernel
theorem dX1_like_62 : decode cX1_like 62 = .ok (.iload_n 2, 1) := by decide +kernel
theorem dX1_like_63 : decode cX1_like 63 = .ok (.iadd, 1) := by decide +kernel
theorem dX1_like_64 : decode cX1_like 64 = .ok (.iload_n 3, 1) := by decide +kernel
theorem dX1_like_65 : decode cX1_like 65 = .ok (.iastore, 1) := by decide +kernel
theorem dX1_like_66 : decode cX1_like 66 = .ok (.iload 4, 2) := by decide +kernel
theorem dX1_like_68 : decode cX1_like 68 = .ok (.ireturn, 1) := by decide +kernel
set_option maxRecDepth 20000 in
theorem ggX1_gather_X1_th : GoodIn wsX1_gather wsX1_th := goodIn_r _ [11, 12, 13, 14, 15, 16, 17, 18, 19, 20, 21] (by decide +kernel) (by decide +kernel)
set_option maxRecDepth 20000 in
theorem gX1_gather_X1_th : GoodIn wsX1_gather (wsV RX1 42 RX1 yX1_th wsX1_th) := goodIn_app (goodIn_of _ (by decide +kernel)) ggX1_gather_X1_th
theorem dX1_gather_0 : decode cX1_gather 0 = .ok (.iconst 0, 1) := by decide +kernel
theorem dX1_gather_1 : decode cX1_gather 1 = .ok (.istore_n 3, 1) := by decide +kernel
theorem dX1_gather_2 : decode cX1_gather 2 = .ok (.iconst 0, 1) := by decide +kernel
theorem dX1_gather_3 : decode cX1_gather 3 = .ok (.istore 4, 2) := by decide +kernel
theorem dX1_gather_5 : decode cX1_gather 5 = .ok (.iload 4, 2) := by decide +kernel
theorem dX1_gather_7 : decode cX1_gather 7 = .ok (.bipush 6, 2) := by decide +kernel
theorem dX1_gather_9 : decode cX1_gather 9 = .ok (.if_icmp .ge 17, 3) := by decide +kernel
theorem dX1_gather_12 : decode cX1_gather 12 = .ok (.aload_n 0, 1) := by decide +kernel
theorem dX1_gather_13 : decode cX1_gather 13 = .ok (.getfield 25, 3) := by decide +kernel
theorem dX1_gather_16 : decode cX1_gather 16 = .ok (.iload 4, 2) := by decide +kernel
theorem dX1_gather_18 : decode cX1_gather 18 = .ok (.iconst 0, 1) := by decide +kernel
theorem dX1_gather_19 : decode cX1_gather 19 = .ok (.iastore, 1) := by decide +kernel
theorem dX1_gather_20 : decode cX1_gather 20 = .ok (.iinc 4 1, 3) := by decide +kernel
theorem dX1_gather_23 : decode cX1_gather 23 = .ok (.goto (-18), 3) := by decide +kernel
theorem dX1_gather_26 : decode cX1_gather 26 = .ok (.iconst 0, 1) := by decide +kernel
theorem dX1_gather_27 : decode cX1_gather 27 = .ok (.istore 4, 2) := by decide +kernel
theorem dX1_gather_29 : decode cX1_gather 29 = .ok (.iload 4, 2) := by decide +kernel
theorem dX1_gather_31 : decode cX1_gather 31 = .ok (.aload_n 0, 1) := by decide +kernel
theorem dX1_gather_32 : decode cX1_gather 32 = .ok (.getfield 39, 3) := by decide +kernel
theorem dX1_gather_35 : decode cX1_gather 35 = .ok (.if_icmp .ge 67, 3) := by decide +kernel
theorem dX1_gather_38 : decode cX1_gather 38 = .ok (.aload_n 0, 1) := by decide +kernel
theorem dX1_gather_39 : decode cX1_gather 39 = .ok (.iload 4, 2) := by decide +kernel
theorem dX1_gather_41 : decode cX1_gather 41 = .ok (.iconst 4, 1) := by decide +kernel
theorem dX1_gather_42 : decode cX1_gather 42 = .ok (.invokevirtual 42, 3) := by decide +kernel
theorem dX1_gather_45 : decode cX1_gather 45 = .ok (.iload_n 1, 1) := by decide +kernel
theorem dX1_gather_46 : decode cX1_gather 46 = .ok (.if_icmp .ne 50, 3) := by decide +kernel
theorem dX1_gather_49 : decode cX1_gather 49 = .ok (.aload_n 0, 1) := by decide +kernel
theorem dX1_gather_50 : decode cX1_gather 50 = .ok (.iload 4, 2) := by decide +kernel
theorem dX1_gather_52 : decode cX1_gather 52 = .ok (.iconst 0, 1) := by decide +kernel
theorem dX1_gather_53 : decode cX1_gather 53 = .ok (.invokevirtual 42, 3) := by decide +kernel
theorem dX1_gather_56 : decode cX1_gather 56 = .ok (.iload_n 2, 1) := by decide +kernel
theorem dX1_gather_57 : decode cX1_gather 57 = .ok (.if_icmp .ne 39, 3) := by decide +kernel
theorem dX1_gather_60 : decode cX1_gather 60 = .ok (.aload_n 0, 1) := by decide +kernel
theorem dX1_gather_61 : decode cX1_gather 61 = .ok (.getfield 25, 3) := by decide +kernel
theorem dX1_gather_64 : decode cX1_gather 64 = .ok (.aload_n 0, 1) := by decide +kernel
theorem dX1_gather_65 : decode cX1_gather 65 = .ok (.iload 4, 2) := by decide +kernel
theorem dX1_gather_67 : decode cX1_gather 67 = .ok (.iconst 1, 1) := by decide +kernel
theorem dX1_gather_68 : decode cX1_gather 68 = .ok (.invokevirtual 42, 3) := by decide +kernel
theorem dX1_gather_71 : decode cX1_gather 71 = .ok (.aload_n 0, 1) := by decide +kernel
theorem dX1_gather_72 : decode cX1_gather 72 = .ok (.getfield 25, 3) := by decide +kernel
theorem dX1_gather_75 : decode cX1_gather 75 = .ok (.aload_n 0, 1) := by decide +kernel
theorem dX1_gather_76 : decode cX1_gather 76 = .ok (.iload 4, 2) := by decide +kernel
theorem dX1_gather_78 : decode cX1_gather 78 = .ok (.iconst 1, 1) := by decide +kernel
theorem dX1_gather_79 : decode cX1_gather 79 = .ok (.invokevirtual 42, 3) := by decide +kernel
theorem dX1_gather_82 : decode cX1_gather 82 = .ok (.iaload, 1) := by decide +kernel
theorem dX1_gather_83 : decode cX1_gather 83 = .ok (.iconst 1, 1) := by decide +kernel
theorem dX1_gather_84 : decode cX1_gather 84 = .ok (.aload_n 0, 1) := by decide +kernel
theorem dX1_gather_85 : decode cX1_gather 85 = .ok (.iload 4, 2) := by decide +kernel
theorem dX1_gather_87 : decode cX1_gather 87 = .ok (.iconst 3, 1) := by decide +kernel
theorem dX1_gather_88 : decode cX1_gather 88 = .ok (.invokevirtual 42, 3) := by decide +kernel
theorem dX1_gather_91 : decode cX1_gather 91 = .ok (.iadd, 1) := by decide +kernel
theorem dX1_gather_92 : decode cX1_gather 92 = .ok (.invokestatic 63, 3) := by decide +kernel
theorem dX1_gather_95 : decode cX1_gather 95 = .ok (.iastore, 1) := by decide +kernel
theorem dX1_gather_96 : decode cX1_gather 96 = .ok (.iinc 4 1, 3) := by decide +kernel
theorem dX1_gather_99 : decode cX1_gather 99 = .ok (.goto (-70), 3) := by decide +kernel
theorem dX1_gather_102 : decode cX1_gather 102 = .ok (.iconst 0, 1) := by decide +kernel
theorem dX1_gather_103 : decode cX1_gather 103 = .ok (.istore 4, 2) := by decide +kernel
theorem dX1_gather_105 : decode cX1_gather 105 = .ok (.iload 4, 2) := by decide +kernel
theorem dX1_gather_107 : decode cX1_gather 107 = .ok (.bipush 6, 2) := by decide +kernel
theorem dX1_gather_109 : decode cX1_gather 109 = .ok (.if_icmp .ge 27, 3) := by decide +kernel
theorem dX1_gather_112 : decode cX1_gather 112 = .ok (.iload_n 3, 1) := by decide +kernel
theorem dX1_gather_113 : decode cX1_gather 113 = .ok (.aload_n 0, 1) := by decide +kernel
theorem dX1_gather_114 : decode cX1_gather 114 = .ok (.getfield 25, 3) := by decide +kernel
theorem dX1_gather_117 : decode cX1_gather 117 = .ok (.iload 4, 2) := by decide +kernel
theorem dX1_gather_119 : decode cX1_gather 119 = .ok (.iaload, 1) := by decide +kernel
theorem dX1_gather_120 : decode cX1_gather 120 = .ok (.ifCond .le 7, 3) := by decide +kernel
theorem dX1_gather_123 : decode cX1_gather 123 = .ok (.iconst 1, 1) := by decide +kernel
theorem dX1_gather_124 : decode cX1_gather 124 = .ok (.goto 4, 3) := by decide +kernel
theorem dX1_gather_127 : decode cX1_gather 127 = .ok (.iconst 0, 1) := by decide +kernel
theorem dX1_gather_128 : decode cX1_gather 128 = .ok (.iadd, 1) := by decide +kernel
theorem dX1_gather_129 : decode cX1_gather 129 = .ok (.istore_n 3, 1) := by decide +kernel
theorem dX1_gather_130 : decode cX1_gather 130 = .ok (.iinc 4 1, 3) := by decide +kernel
theorem dX1_gather_133 : decode cX1_gather 133 = .ok (.goto (-28), 3) := by decide +kernel
theorem dX1_gather_136 : decode cX1_gather 136 = .ok (.iload_n 3, 1) := by decide +kernel
theorem dX1_gather_137 : decode cX1_gather 137 = .ok (.ireturn, 1) := by decide +kernel
theorem dX1_states_0 : decode cX1_states 0 = .ok (.iconst 0, 1) := by decide +kernel
theorem dX1_states_1 : decode cX1_states 1 = .ok (.istore_n 1, 1) := by decide +kernel
theorem dX1_states_2 : decode cX1_states 2 = .ok (.aload_n 0, 1) := by decide +kernel
theorem dX1_states_3 : decode cX1_states 3 = .ok (.getfield 25, 3) := by decide +kernel
theorem dX1_states_6 : decode cX1_states 6 = .ok (.astore_n 2, 1) := by decide +kernel
theorem dX1_states_7 : decode cX1_states 7 = .ok (.aload_n 2, 1) := by decide +kernel
theorem dX1_states_8 : decode cX1_states 8 = .ok (.arraylength, 1) := by decide +kernel
theorem dX1_states_9 : decode cX1_states 9 = .ok (.istore_n 3, 1) := by decide +kernel
theorem dX1_states_10 : decode cX1_states 10 = .ok (.iconst 0, 1) := by decide +kernel
theorem dX1_states_11 : decode cX1_states 11 = .ok (.istore 4, 2) := by decide +kernel
theorem dX1_states_13 : decode cX1_states 13 = .ok (.iload 4, 2) := by decide +kernel
theorem dX1_states_15 : decode cX1_states 15 = .ok (.iload_n 3, 1) := by decide +kernel
theorem dX1_states_16 : decode cX1_states 16 = .ok (.if_icmp .ge 26, 3) := by decide +kernel
theorem dX1_states_19 : decode cX1_states 19 = .ok (.aload_n 2, 1) := by decide +kernel
theorem dX1_states_20 : decode cX1_states 20 = .ok (.iload 4, 2) := by decide +kernel
theorem dX1_states_22 : decode cX1_states 22 = .ok (.iaload, 1) := by decide +kernel
theorem dX1_states_23 : decode cX1_states 23 = .ok (.istore 5, 2) := by decide +kernel
theorem dX1_states_25 : decode cX1_states 25 = .ok (.iload_n 1, 1) := by decide +kernel
theorem dX1_states_26 : decode cX1_states 26 = .ok (.iconst 0, 1) := by decide +kernel
theorem dX1_states_27 : decode cX1_states 27 = .ok (.iload 5, 2) := by decide +kernel
theorem dX1_states_29 : decode cX1_states 29 = .ok (.iconst 1, 1) := by decide +kernel
theorem dX1_states_30 : decode cX1_states 30 = .ok (.isub, 1) := by decide +kernel
theorem dX1_states_31 : decode cX1_states 31 = .ok (.invokestatic 63, 3) := by decide +kernel
theorem dX1_states_34 : decode cX1_states 34 = .ok (.iadd, 1) := by decide +kernel
theorem dX1_states_35 : decode cX1_states 35 = .ok (.istore_n 1, 1) := by decide +kernel
theorem dX1_states_36 : decode cX1_states 36 = .ok (.iinc 4 1, 3) := by decide +kernel
theorem dX1_states_39 : decode cX1_states 39 = .ok (.goto (-26), 3) := by decide +kernel
theorem dX1_states_42 : decode cX1_states 42 = .ok (.iload_n 1, 1) := by decide +kernel
theorem dX1_states_43 : decode cX1_states 43 = .ok (.ireturn, 1) := by decide +kernel
set_option maxRecDepth 20000 in
theorem ggX1_hallmarks_X1_th : GoodIn wsX1_hallmarks wsX1_th := goodIn_r _ [6, 7, 15, 16, 17, 18, 19, 20, 21, 22, 23] (by decide +kernel) (by decide +kernel)
set_option maxRecDepth 20000 in
theorem gX1_hallmarks_X1_th : GoodIn wsX1_hallmarks (wsV RX1 42 RX1 yX1_th wsX1_th) := goodIn_app (goodIn_of _ (by decide +kernel)) ggX1_hallmarks_X1_th
set_option maxRecDepth 20000 in
theorem ggX1_hallmarks_J6_bitCount_0f7a4 : GoodIn wsX1_hallmarks wsJ6_bitCount_0f7a4 := goodIn_r _ [11, 12, 13, 14] (by decide +kernel) (by decide +kernel)
set_option maxRecDepth 20000 in
theorem gX1_hallmarks_J6_bitCount_0f7a4 : GoodIn wsX1_hallmarks (va_wsS RX1 68 yJ6_bitCount_0f7a4 wsJ6_bitCount_0f7a4) := goodIn_app (goodIn_of _ (by decide +kernel)) ggX1_hallmarks_J6_bitCount_0f7a4
theorem dX1_hallmarks_0 : decode cX1_hallmarks 0 = .ok (.iconst 0, 1) := by decide +kernel
theorem dX1_hallmarks_1 : decode cX1_hallmarks 1 = .ok (.istore_n 2, 1) := by decide +kernel
theorem dX1_hallmarks_2 : decode cX1_hallmarks 2 = .ok (.iconst 0, 1) := by decide +kernel
theorem dX1_hallmarks_3 : decode cX1_hallmarks 3 = .ok (.istore_n 3, 1) := by decide +kernel
theorem dX1_hallmarks_4 : decode cX1_hallmarks 4 = .ok (.iload_n 3, 1) := by decide +kernel
theorem dX1_hallmarks_5 : decode cX1_hallmarks 5 = .ok (.aload_n 0, 1) := by decide +kernel
theorem dX1_hallmarks_6 : decode cX1_hallmarks 6 = .ok (.getfield 39, 3) := by decide +kernel
theorem dX1_hallmarks_9 : decode cX1_hallmarks 9 = .ok (.if_icmp .ge 30, 3) := by decide +kernel
theorem dX1_hallmarks_12 : decode cX1_hallmarks 12 = .ok (.aload_n 0, 1) := by decide +kernel
theorem dX1_hallmarks_13 : decode cX1_hallmarks 13 = .ok (.iload_n 3, 1) := by decide +kernel
theorem dX1_hallmarks_14 : decode cX1_hallmarks 14 = .ok (.iconst 4, 1) := by decide +kernel
theorem dX1_hallmarks_15 : decode cX1_hallmarks 15 = .ok (.invokevirtual 42, 3) := by decide +kernel
theorem dX1_hallmarks_18 : decode cX1_hallmarks 18 = .ok (.iload_n 1, 1) := by decide +kernel
theorem dX1_hallmarks_19 : decode cX1_hallmarks 19 = .ok (.if_icmp .ne 14, 3) := by decide +kernel
theorem dX1_hallmarks_22 : decode cX1_hallmarks 22 = .ok (.iload_n 2, 1) := by decide +kernel
theorem dX1_hallmarks_23 : decode cX1_hallmarks 23 = .ok (.iconst 1, 1) := by decide +kernel
theorem dX1_hallmarks_24 : decode cX1_hallmarks 24 = .ok (.aload_n 0, 1) := by decide +kernel
theorem dX1_hallmarks_25 : decode cX1_hallmarks 25 = .ok (.iload_n 3, 1) := by decide +kernel
theorem dX1_hallmarks_26 : decode cX1_hallmarks 26 = .ok (.iconst 2, 1) := by decide +kernel
theorem dX1_hallmarks_27 : decode cX1_hallmarks 27 = .ok (.invokevirtual 42, 3) := by decide +kernel
theorem dX1_hallmarks_30 : decode cX1_hallmarks 30 = .ok (.ishl, 1) := by decide +kernel
theorem dX1_hallmarks_31 : decode cX1_hallmarks 31 = .ok (.ior, 1) := by decide +kernel
theorem dX1_hallmarks_32 : decode cX1_hallmarks 32 = .ok (.istore_n 2, 1) := by decide +kernel
theorem dX1_hallmarks_33 : decode cX1_hallmarks 33 = .ok (.iinc 3 1, 3) := by decide +kernel
theorem dX1_hallmarks_36 : decode cX1_hallmarks 36 = .ok (.goto (-32), 3) := by decide +kernel
theorem dX1_hallmarks_39 : decode cX1_hallmarks 39 = .ok (.iload_n 2, 1) := by decide +kernel
theorem dX1_hallmarks_40 : decode cX1_hallmarks 40 = .ok (.invokestatic 68, 3) := by decide +kernel
theorem dX1_hallmarks_43 : decode cX1_hallmarks 43 = .ok (.ireturn, 1) := by decide +kernel
set_option maxRecDepth 20000 in
theorem ggX1_worth_X1_hallmarks : GoodIn wsX1_worth wsX1_hallmarks := goodIn_r _ [6, 7, 8, 9, 10, 5, 11, 12, 13, 14, 15, 16, 17, 18, 19, 33, 34, 35, 36, 37, 38, 39, 40, 41] (by decide +kernel) (by decide +kernel)
set_option maxRecDepth 20000 in
theorem gX1_worth_X1_hallmarks : GoodIn wsX1_worth (wsV RX1 73 RX1 yX1_hallmarks wsX1_hallmarks) := goodIn_app (goodIn_of _ (by decide +kernel)) ggX1_worth_X1_hallmarks
set_option maxRecDepth 20000 in
theorem ggX1_worth_X1_gather : GoodIn wsX1_worth wsX1_gather := goodIn_r _ [23, 24, 7, 25, 26, 27, 28, 8, 9, 10, 5, 11, 12, 33, 34, 35, 36, 37, 38, 39, 40, 41] (by decide +kernel) (by decide +kernel)
set_option maxRecDepth 20000 in
theorem gX1_worth_X1_gather : GoodIn wsX1_worth (wsV RX1 76 RX1 yX1_gather wsX1_gather) := goodIn_app (goodIn_of _ (by decide +kernel)) ggX1_worth_X1_gather
set_option maxRecDepth 20000 in
theorem ggX1_worth_X1_states : GoodIn wsX1_worth wsX1_states := goodIn_r _ [32, 24, 25, 26, 27, 28, 33, 34, 35, 36, 37, 38, 39, 40, 41] (by decide +kernel) (by decide +kernel)
set_option maxRecDepth 20000 in
theorem gX1_worth_X1_states : GoodIn wsX1_worth (wsV RX1 79 RX1 yX1_states wsX1_states) := goodIn_app (goodIn_of _ (by decide +kernel)) ggX1_worth_X1_states
theorem dX1_worth_0 : decode cX1_worth 0 = .ok (.iconst 3, 1) := by decide +kernel
theorem dX1_worth_1 : decode cX1_worth 1 = .ok (.aload_n 0, 1) := by decide +kernel
theorem dX1_worth_2 : decode cX1_worth 2 = .ok (.iload_n 1, 1) := by decide +kernel
theorem dX1_worth_3 : decode cX1_worth 3 = .ok (.invokevirtual 73, 3) := by decide +kernel
theorem dX1_worth_6 : decode cX1_worth 6 = .ok (.imul, 1) := by decide +kernel
theorem dX1_worth_7 : decode cX1_worth 7 = .ok (.istore_n 2, 1) := by decide +kernel
theorem dX1_worth_8 : decode cX1_worth 8 = .ok (.iconst 0, 1) := by decide +kernel
theorem dX1_worth_9 : decode cX1_worth 9 = .ok (.istore_n 3, 1) := by decide +kernel
theorem dX1_worth_10 : decode cX1_worth 10 = .ok (.iload_n 3, 1) := by decide +kernel
theorem dX1_worth_11 : decode cX1_worth 11 = .ok (.bipush 8, 2) := by decide +kernel
theorem dX1_worth_13 : decode cX1_worth 13 = .ok (.if_icmp .ge 44, 3) := by decide +kernel
theorem dX1_worth_16 : decode cX1_worth 16 = .ok (.aload_n 0, 1) := by decide +kernel
theorem dX1_worth_17 : decode cX1_worth 17 = .ok (.iload_n 1, 1) := by decide +kernel
theorem dX1_worth_18 : decode cX1_worth 18 = .ok (.iload_n 3, 1) := by decide +kernel
theorem dX1_worth_19 : decode cX1_worth 19 = .ok (.invokevirtual 76, 3) := by decide +kernel
theorem dX1_worth_22 : decode cX1_worth 22 = .ok (.istore 4, 2) := by decide +kernel
theorem dX1_worth_24 : decode cX1_worth 24 = .ok (.iload_n 2, 1) := by decide +kernel
theorem dX1_worth_25 : decode cX1_worth 25 = .ok (.aload_n 0, 1) := by decide +kernel
theorem dX1_worth_26 : decode cX1_worth 26 = .ok (.getfield 13, 3) := by decide +kernel
theorem dX1_worth_29 : decode cX1_worth 29 = .ok (.bipush 8, 2) := by decide +kernel
theorem dX1_worth_31 : decode cX1_worth 31 = .ok (.iload_n 1, 1) := by decide +kernel
theorem dX1_worth_32 : decode cX1_worth 32 = .ok (.imul, 1) := by decide +kernel
theorem dX1_worth_33 : decode cX1_worth 33 = .ok (.iload_n 3, 1) := by decide +kernel
theorem dX1_worth_34 : decode cX1_worth 34 = .ok (.iadd, 1) := by decide +kernel
theorem dX1_worth_35 : decode cX1_worth 35 = .ok (.iaload, 1) := by decide +kernel
theorem dX1_worth_36 : decode cX1_worth 36 = .ok (.iconst 2, 1) := by decide +kernel
theorem dX1_worth_37 : decode cX1_worth 37 = .ok (.imul, 1) := by decide +kernel
theorem dX1_worth_38 : decode cX1_worth 38 = .ok (.iload 4, 2) := by decide +kernel
theorem dX1_worth_40 : decode cX1_worth 40 = .ok (.imul, 1) := by decide +kernel
theorem dX1_worth_41 : decode cX1_worth 41 = .ok (.iload 4, 2) := by decide +kernel
theorem dX1_worth_43 : decode cX1_worth 43 = .ok (.imul, 1) := by decide +kernel
theorem dX1_worth_44 : decode cX1_worth 44 = .ok (.aload_n 0, 1) := by decide +kernel
theorem dX1_worth_45 : decode cX1_worth 45 = .ok (.invokevirtual 79, 3) := by decide +kernel
theorem dX1_worth_48 : decode cX1_worth 48 = .ok (.iadd, 1) := by decide +kernel
theorem dX1_worth_49 : decode cX1_worth 49 = .ok (.iadd, 1) := by decide +kernel
theorem dX1_worth_50 : decode cX1_worth 50 = .ok (.istore_n 2, 1) := by decide +kernel
theorem dX1_worth_51 : decode cX1_worth 51 = .ok (.iinc 3 1, 3) := by decide +kernel
theorem dX1_worth_54 : decode cX1_worth 54 = .ok (.goto (-44), 3) := by decide +kernel
theorem dX1_worth_57 : decode cX1_worth 57 = .ok (.iload_n 2, 1) := by decide +kernel
theorem dX1_worth_58 : decode cX1_worth 58 = .ok (.ireturn, 1) := by decide +kernel
set_option maxRecDepth 20000 in
theorem ggX1_collectorTold_X1_th : GoodIn wsX1_collectorTold wsX1_th := goodIn_r _ [9, 10, 44, 45, 46, 47, 48, 49, 50, 51, 52] (by decide +kernel) (by decide +kernel)
set_option maxRecDepth 20000 in
theorem gX1_collectorTold_X1_th : GoodIn wsX1_collectorTold (wsV RX1 42 RX1 yX1_th wsX1_th) := goodIn_app (goodIn_of _ (by decide +kernel)) ggX1_collectorTold_X1_th
set_option maxRecDepth 20000 in
theorem ggX1_collectorTold_X1_isLent : GoodIn wsX1_collectorTold wsX1_isLent := goodIn_r _ [14, 5, 6, 7, 8, 9, 10, 44, 45, 46, 47, 48, 49, 50, 51, 52] (by decide +kernel) (by decide +kernel)
set_option maxRecDepth 20000 in
theorem gX1_collectorTold_X1_isLent : GoodIn wsX1_collectorTold (wsV RX1 83 RX1 yX1_isLent wsX1_isLent) := goodIn_app (goodIn_of _ (by decide +kernel)) ggX1_collectorTold_X1_isLent
set_option maxRecDepth 20000 in
theorem ggX1_collectorTold_X1_hallmarks : GoodIn wsX1_collectorTold wsX1_hallmarks := goodIn_r _ [18, 1, 5, 6, 7, 8, 9, 10, 19, 20, 21, 22, 23, 24, 25, 44, 45, 46, 47, 48, 49, 50, 51, 52] (by decide +kernel) (by decide +kernel)
set_option maxRecDepth 20000 in
theorem gX1_collectorTold_X1_hallmarks : GoodIn wsX1_collectorTold (wsV RX1 73 RX1 yX1_hallmarks wsX1_hallmarks) := goodIn_app (goodIn_of _ (by decide +kernel)) ggX1_collectorTold_X1_hallmarks
set_option maxRecDepth 20000 in
theorem ggX1_collectorTold_X1_worth : GoodIn wsX1_collectorTold wsX1_worth := goodIn_r _ [29, 30, 15, 16, 17, 8, 18, 1, 5, 6, 7, 9, 10, 19, 20, 21, 22, 23, 24, 25, 31, 32, 33, 34, 35, 36, 37, 38, 39, 40, 41, 42, 43, 44, 45, 46, 47, 48, 49, 50, 51, 52] (by decide +kernel) (by decide +kernel)
set_option maxRecDepth 20000 in
theorem gX1_collectorTold_X1_worth : GoodIn wsX1_collectorTold (wsV RX1 86 RX1 yX1_worth wsX1_worth) := goodIn_app (goodIn_of _ (by decide +kernel)) ggX1_collectorTold_X1_worth
set_option maxRecDepth 20000 in
theorem ggX1_collectorTold_X1_gather : GoodIn wsX1_collectorTold wsX1_gather := goodIn_r _ [34, 35, 1, 36, 37, 38, 39, 5, 6, 7, 8, 9, 10, 44, 45, 46, 47, 48, 49, 50, 51, 52] (by decide +kernel) (by decide +kernel)
set_option maxRecDepth 20000 in
theorem gX1_collectorTold_X1_gather : GoodIn wsX1_collectorTold (wsV RX1 76 RX1 yX1_gather wsX1_gather) := goodIn_app (goodIn_of _ (by decide +kernel)) ggX1_collectorTold_X1_gather
theorem dX1_collectorTold_0 : decode cX1_collectorTold 0 = .ok (.iconst 0, 1) := by decide +kernel
theorem dX1_collectorTold_1 : decode cX1_collectorTold 1 = .ok (.istore_n 3, 1) := by decide +kernel
theorem dX1_collectorTold_2 : decode cX1_collectorTold 2 = .ok (.iload_n 2, 1) := by decide +kernel
theorem dX1_collectorTold_3 : decode cX1_collectorTold 3 = .ok (.tableswitch 174 0 5 #[37, 37, 89, 95, 101, 139], 37) := by decide +kernel
theorem dX1_collectorTold_40 : decode cX1_collectorTold 40 = .ok (.iconst 0, 1) := by decide +kernel
theorem dX1_collectorTold_41 : decode cX1_collectorTold 41 = .ok (.istore 4, 2) := by decide +kernel
theorem dX1_collectorTold_43 : decode cX1_collectorTold 43 = .ok (.iload 4, 2) := by decide +kernel
theorem dX1_collectorTold_45 : decode cX1_collectorTold 45 = .ok (.aload_n 0, 1) := by decide +kernel
theorem dX1_collectorTold_46 : decode cX1_collectorTold 46 = .ok (.getfield 39, 3) := by decide +kernel
theorem dX1_collectorTold_49 : decode cX1_collectorTold 49 = .ok (.if_icmp .ge 41, 3) := by decide +kernel
theorem dX1_collectorTold_52 : decode cX1_collectorTold 52 = .ok (.iload_n 3, 1) := by decide +kernel
theorem dX1_collectorTold_53 : decode cX1_collectorTold 53 = .ok (.aload_n 0, 1) := by decide +kernel
theorem dX1_collectorTold_54 : decode cX1_collectorTold 54 = .ok (.iload 4, 2) := by decide +kernel
theorem dX1_collectorTold_56 : decode cX1_collectorTold 56 = .ok (.iconst 4, 1) := by decide +kernel
theorem dX1_collectorTold_57 : decode cX1_collectorTold 57 = .ok (.invokevirtual 42, 3) := by decide +kernel
theorem dX1_collectorTold_60 : decode cX1_collectorTold 60 = .ok (.iload_n 1, 1) := by decide +kernel
theorem dX1_collectorTold_61 : decode cX1_collectorTold 61 = .ok (.if_icmp .ne 20, 3) := by decide +kernel
theorem dX1_collectorTold_64 : decode cX1_collectorTold 64 = .ok (.iload_n 2, 1) := by decide +kernel
theorem dX1_collectorTold_65 : decode cX1_collectorTold 65 = .ok (.ifCond .eq 12, 3) := by decide +kernel
theorem dX1_collectorTold_68 : decode cX1_collectorTold 68 = .ok (.aload_n 0, 1) := by decide +kernel
theorem dX1_collectorTold_69 : decode cX1_collectorTold 69 = .ok (.iload 4, 2) := by decide +kernel
theorem dX1_collectorTold_71 : decode cX1_collectorTold 71 = .ok (.invokevirtual 83, 3) := by decide +kernel
theorem dX1_collectorTold_74 : decode cX1_collectorTold 74 = .ok (.ifCond .eq 7, 3) := by decide +kernel
theorem dX1_collectorTold_77 : decode cX1_collectorTold 77 = .ok (.iconst 1, 1) := by decide +kernel
theorem dX1_collectorTold_78 : decode cX1_collectorTold 78 = .ok (.goto 4, 3) := by decide +kernel
theorem dX1_collectorTold_81 : decode cX1_collectorTold 81 = .ok (.iconst 0, 1) := by decide +kernel
theorem dX1_collectorTold_82 : decode cX1_collectorTold 82 = .ok (.iadd, 1) := by decide +kernel
theorem dX1_collectorTold_83 : decode cX1_collectorTold 83 = .ok (.istore_n 3, 1) := by decide +kernel
theorem dX1_collectorTold_84 : decode cX1_collectorTold 84 = .ok (.iinc 4 1, 3) := by decide +kernel
theorem dX1_collectorTold_87 : decode cX1_collectorTold 87 = .ok (.goto (-44), 3) := by decide +kernel
theorem dX1_collectorTold_90 : decode cX1_collectorTold 90 = .ok (.iload_n 3, 1) := by decide +kernel
theorem dX1_collectorTold_91 : decode cX1_collectorTold 91 = .ok (.ireturn, 1) := by decide +kernel
theorem dX1_collectorTold_92 : decode cX1_collectorTold 92 = .ok (.aload_n 0, 1) := by decide +kernel
theorem dX1_collectorTold_93 : decode cX1_collectorTold 93 = .ok (.iload_n 1, 1) := by decide +kernel
theorem dX1_collectorTold_94 : decode cX1_collectorTold 94 = .ok (.invokevirtual 73, 3) := by decide +kernel
theorem dX1_collectorTold_97 : decode cX1_collectorTold 97 = .ok (.ireturn, 1) := by decide +kernel
theorem dX1_collectorTold_98 : decode cX1_collectorTold 98 = .ok (.aload_n 0, 1) := by decide +kernel
theorem dX1_collectorTold_99 : decode cX1_collectorTold 99 = .ok (.iload_n 1, 1) := by decide +kernel
theorem dX1_collectorTold_100 : decode cX1_collectorTold 100 = .ok (.invokevirtual 86, 3) := by decide +kernel
theorem dX1_collectorTold_103 : decode cX1_collectorTold 103 = .ok (.ireturn, 1) := by decide +kernel
theorem dX1_collectorTold_104 : decode cX1_collectorTold 104 = .ok (.iconst 0, 1) := by decide +kernel
theorem dX1_collectorTold_105 : decode cX1_collectorTold 105 = .ok (.istore 4, 2) := by decide +kernel
theorem dX1_collectorTold_107 : decode cX1_collectorTold 107 = .ok (.iload 4, 2) := by decide +kernel
theorem dX1_collectorTold_109 : decode cX1_collectorTold 109 = .ok (.bipush 8, 2) := by decide +kernel
theorem dX1_collectorTold_111 : decode cX1_collectorTold 111 = .ok (.if_icmp .ge 29, 3) := by decide +kernel
theorem dX1_collectorTold_114 : decode cX1_collectorTold 114 = .ok (.iload_n 3, 1) := by decide +kernel
theorem dX1_collectorTold_115 : decode cX1_collectorTold 115 = .ok (.aload_n 0, 1) := by decide +kernel
theorem dX1_collectorTold_116 : decode cX1_collectorTold 116 = .ok (.iload_n 1, 1) := by decide +kernel
theorem dX1_collectorTold_117 : decode cX1_collectorTold 117 = .ok (.iload 4, 2) := by decide +kernel
theorem dX1_collectorTold_119 : decode cX1_collectorTold 119 = .ok (.invokevirtual 76, 3) := by decide +kernel
theorem dX1_collectorTold_122 : decode cX1_collectorTold 122 = .ok (.bipush 6, 2) := by decide +kernel
theorem dX1_collectorTold_124 : decode cX1_collectorTold 124 = .ok (.if_icmp .ne 7, 3) := by decide +kernel
theorem dX1_collectorTold_127 : decode cX1_collectorTold 127 = .ok (.iconst 1, 1) := by decide +kernel
theorem dX1_collectorTold_128 : decode cX1_collectorTold 128 = .ok (.goto 4, 3) := by decide +kernel
theorem dX1_collectorTold_131 : decode cX1_collectorTold 131 = .ok (.iconst 0, 1) := by decide +kernel
theorem dX1_collectorTold_132 : decode cX1_collectorTold 132 = .ok (.iadd, 1) := by decide +kernel
theorem dX1_collectorTold_133 : decode cX1_collectorTold 133 = .ok (.istore_n 3, 1) := by decide +kernel
theorem dX1_collectorTold_134 : decode cX1_collectorTold 134 = .ok (.iinc 4 1, 3) := by decide +kernel
theorem dX1_collectorTold_137 : decode cX1_collectorTold 137 = .ok (.goto (-30), 3) := by decide +kernel
theorem dX1_collectorTold_140 : decode cX1_collectorTold 140 = .ok (.iload_n 3, 1) := by decide +kernel
theorem dX1_collectorTold_141 : decode cX1_collectorTold 141 = .ok (.ireturn, 1) := by decide +kernel
theorem dX1_collectorTold_142 : decode cX1_collectorTold 142 = .ok (.iconst 0, 1) := by decide +kernel
theorem dX1_collectorTold_143 : decode cX1_collectorTold 143 = .ok (.istore 4, 2) := by decide +kernel
theorem dX1_collectorTold_145 : decode cX1_collectorTold 145 = .ok (.iload 4, 2) := by decide +kernel
theorem dX1_collectorTold_147 : decode cX1_collectorTold 147 = .ok (.aload_n 0, 1) := by decide +kernel
theorem dX1_collectorTold_148 : decode cX1_collectorTold 148 = .ok (.getfield 32, 3) := by decide +kernel
theorem dX1_collectorTold_151 : decode cX1_collectorTold 151 = .ok (.if_icmp .ge 24, 3) := by decide +kernel
theorem dX1_collectorTold_154 : decode cX1_collectorTold 154 = .ok (.iload_n 3, 1) := by decide +kernel
theorem dX1_collectorTold_155 : decode cX1_collectorTold 155 = .ok (.aload_n 0, 1) := by decide +kernel
theorem dX1_collectorTold_156 : decode cX1_collectorTold 156 = .ok (.getfield 16, 3) := by decide +kernel
theorem dX1_collectorTold_159 : decode cX1_collectorTold 159 = .ok (.bipush 7, 2) := by decide +kernel
theorem dX1_collectorTold_161 : decode cX1_collectorTold 161 = .ok (.iload_n 1, 1) := by decide +kernel
theorem dX1_collectorTold_162 : decode cX1_collectorTold 162 = .ok (.imul, 1) := by decide +kernel
theorem dX1_collectorTold_163 : decode cX1_collectorTold 163 = .ok (.iload 4, 2) := by decide +kernel
theorem dX1_collectorTold_165 : decode cX1_collectorTold 165 = .ok (.iadd, 1) := by decide +kernel
theorem dX1_collectorTold_166 : decode cX1_collectorTold 166 = .ok (.iaload, 1) := by decide +kernel
theorem dX1_collectorTold_167 : decode cX1_collectorTold 167 = .ok (.iadd, 1) := by decide +kernel
theorem dX1_collectorTold_168 : decode cX1_collectorTold 168 = .ok (.istore_n 3, 1) := by decide +kernel
theorem dX1_collectorTold_169 : decode cX1_collectorTold 169 = .ok (.iinc 4 1, 3) := by decide +kernel
theorem dX1_collectorTold_172 : decode cX1_collectorTold 172 = .ok (.goto (-27), 3) := by decide +kernel
theorem dX1_collectorTold_175 : decode cX1_collectorTold 175 = .ok (.iload_n 3, 1) := by decide +kernel
theorem dX1_collectorTold_176 : decode cX1_collectorTold 176 = .ok (.ireturn, 1) := by decide +kernel
theorem dX1_collectorTold_177 : decode cX1_collectorTold 177 = .ok (.aload_n 0, 1) := by decide +kernel
theorem dX1_collectorTold_178 : decode cX1_collectorTold 178 = .ok (.getfield 19, 3) := by decide +kernel
theorem dX1_collectorTold_181 : decode cX1_collectorTold 181 = .ok (.iload_n 1, 1) := by decide +kernel
theorem dX1_collectorTold_182 : decode cX1_collectorTold 182 = .ok (.iaload, 1) := by decide +kernel
theorem dX1_collectorTold_183 : decode cX1_collectorTold 183 = .ok (.ireturn, 1) := by decide +kernel
set_option maxRecDepth 20000 in
theorem ggX1_collector_X1_isCollector : GoodIn wsX1_collector wsX1_isCollector := goodIn_r _ [6, 7, 8, 9, 5, 10, 60, 61, 62, 63, 64, 65, 66, 67, 68] (by decide +kernel) (by decide +kernel)
set_option maxRecDepth 20000 in
theorem gX1_collector_X1_isCollector : GoodIn wsX1_collector (wsV RX1 50 RX1 yX1_isCollector wsX1_isCollector) := goodIn_app (goodIn_of _ (by decide +kernel)) ggX1_collector_X1_isCollector
set_option maxRecDepth 20000 in
theorem ggX1_collector_X1_isIn : GoodIn wsX1_collector wsX1_isIn := goodIn_r _ [10] (by decide +kernel) (by decide +kernel)
set_option maxRecDepth 20000 in
theorem gX1_collector_X1_isIn : GoodIn wsX1_collector (va_wsS RX1 35 yX1_isIn wsX1_isIn) := goodIn_app (goodIn_of _ (by decide +kernel)) ggX1_collector_X1_isIn
set_option maxRecDepth 20000 in
theorem ggX1_collector_X1_collectorTold : GoodIn wsX1_collector wsX1_collectorTold := goodIn_r _ [14, 15, 7, 16, 17, 18, 19, 20, 5, 21, 22, 23, 24, 25, 26, 27, 28, 29, 30, 31, 32, 33, 34, 35, 36, 37, 38, 39, 40, 41, 42, 43, 44, 45, 46, 47, 48, 49, 50, 51, 52, 53, 54, 55, 60, 61, 62, 63, 64, 65, 66, 67, 68] (by decide +kernel) (by decide +kernel)
set_option maxRecDepth 20000 in
theorem gX1_collector_X1_collectorTold : GoodIn wsX1_collector (wsV RX1 89 RX1 yX1_collectorTold wsX1_collectorTold) := goodIn_app (goodIn_of _ (by decide +kernel)) ggX1_collector_X1_collectorTold
set_option maxRecDepth 20000 in
theorem ggX1_collector_X1_fail : GoodIn wsX1_collector wsX1_fail := goodIn_r _ [59, 1, 60, 61, 62, 63, 64, 65, 66, 67, 68] (by decide +kernel) (by decide +kernel)
set_option maxRecDepth 20000 in
theorem gX1_collector_X1_fail : GoodIn wsX1_collector (wsV RX1 46 RX1 yX1_fail wsX1_fail) := goodIn_app (goodIn_of _ (by decide +kernel)) ggX1_collector_X1_fail
theorem dX1_collector_0 : decode cX1_collector 0 = .ok (.aload_n 0, 1) := by decide +kernel
theorem dX1_collector_1 : decode cX1_collector 1 = .ok (.iconst 0, 1) := by decide +kernel
theorem dX1_collector_2 : decode cX1_collector 2 = .ok (.putfield 28, 3) := by decide +kernel
theorem dX1_collector_5 : decode cX1_collector 5 = .ok (.aload_n 0, 1) := by decide +kernel
theorem dX1_collector_6 : decode cX1_collector 6 = .ok (.iload_n 1, 1) := by decide +kernel
theorem dX1_collector_7 : decode cX1_collector 7 = .ok (.invokevirtual 50, 3) := by decide +kernel
theorem dX1_collector_10 : decode cX1_collector 10 = .ok (.ifCond .eq 22, 3) := by decide +kernel
theorem dX1_collector_13 : decode cX1_collector 13 = .ok (.iload_n 2, 1) := by decide +kernel
theorem dX1_collector_14 : decode cX1_collector 14 = .ok (.iconst 0, 1) := by decide +kernel
theorem dX1_collector_15 : decode cX1_collector 15 = .ok (.bipush 6, 2) := by decide +kernel
theorem dX1_collector_17 : decode cX1_collector 17 = .ok (.invokestatic 35, 3) := by decide +kernel
theorem dX1_collector_20 : decode cX1_collector 20 = .ok (.ifCond .eq 12, 3) := by decide +kernel
theorem dX1_collector_23 : decode cX1_collector 23 = .ok (.aload_n 0, 1) := by decide +kernel
theorem dX1_collector_24 : decode cX1_collector 24 = .ok (.iload_n 1, 1) := by decide +kernel
theorem dX1_collector_25 : decode cX1_collector 25 = .ok (.iload_n 2, 1) := by decide +kernel
theorem dX1_collector_26 : decode cX1_collector 26 = .ok (.invokevirtual 89, 3) := by decide +kernel
theorem dX1_collector_29 : decode cX1_collector 29 = .ok (.goto 8, 3) := by decide +kernel
theorem dX1_collector_32 : decode cX1_collector 32 = .ok (.aload_n 0, 1) := by decide +kernel
theorem dX1_collector_33 : decode cX1_collector 33 = .ok (.iconst 1, 1) := by decide +kernel
theorem dX1_collector_34 : decode cX1_collector 34 = .ok (.invokevirtual 46, 3) := by decide +kernel
theorem dX1_collector_37 : decode cX1_collector 37 = .ok (.ireturn, 1) := by decide +kernel
set_option maxRecDepth 20000 in
theorem ggX1_grudge_X1_isCollector : GoodIn wsX1_grudge wsX1_isCollector := goodIn_r _ [7, 8, 9, 10, 6, 11, 16, 17, 18, 19, 20, 21, 22, 23, 24] (by decide +kernel) (by decide +kernel)
set_option maxRecDepth 20000 in
theorem gX1_grudge_X1_isCollector : GoodIn wsX1_grudge (wsV RX1 50 RX1 yX1_isCollector wsX1_isCollector) := goodIn_app (goodIn_of _ (by decide +kernel)) ggX1_grudge_X1_isCollector
set_option maxRecDepth 20000 in
theorem ggX1_grudge_X1_fail : GoodIn wsX1_grudge wsX1_fail := goodIn_r _ [15, 1, 16, 17, 18, 19, 20, 21, 22, 23, 24] (by decide +kernel) (by decide +kernel)
set_option maxRecDepth 20000 in
theorem gX1_grudge_X1_fail : GoodIn wsX1_grudge (wsV RX1 46 RX1 yX1_fail wsX1_fail) := goodIn_app (goodIn_of _ (by decide +kernel)) ggX1_grudge_X1_fail
theorem dX1_grudge_0 : decode cX1_grudge 0 = .ok (.aload_n 0, 1) := by decide +kernel
theorem dX1_grudge_1 : decode cX1_grudge 1 = .ok (.iconst 0, 1) := by decide +kernel
theorem dX1_grudge_2 : decode cX1_grudge 2 = .ok (.putfield 28, 3) := by decide +kernel
theorem dX1_grudge_5 : decode cX1_grudge 5 = .ok (.aload_n 0, 1) := by decide +kernel
theorem dX1_grudge_6 : decode cX1_grudge 6 = .ok (.iload_n 1, 1) := by decide +kernel
theorem dX1_grudge_7 : decode cX1_grudge 7 = .ok (.invokevirtual 50, 3) := by decide +kernel
theorem dX1_grudge_10 : decode cX1_grudge 10 = .ok (.ifCond .eq 25, 3) := by decide +kernel
theorem dX1_grudge_13 : decode cX1_grudge 13 = .ok (.aload_n 0, 1) := by decide +kernel
theorem dX1_grudge_14 : decode cX1_grudge 14 = .ok (.iload_n 2, 1) := by decide +kernel
theorem dX1_grudge_15 : decode cX1_grudge 15 = .ok (.invokevirtual 50, 3) := by decide +kernel
theorem dX1_grudge_18 : decode cX1_grudge 18 = .ok (.ifCond .eq 17, 3) := by decide +kernel
theorem dX1_grudge_21 : decode cX1_grudge 21 = .ok (.aload_n 0, 1) := by decide +kernel
theorem dX1_grudge_22 : decode cX1_grudge 22 = .ok (.getfield 16, 3) := by decide +kernel
theorem dX1_grudge_25 : decode cX1_grudge 25 = .ok (.bipush 7, 2) := by decide +kernel
theorem dX1_grudge_27 : decode cX1_grudge 27 = .ok (.iload_n 1, 1) := by decide +kernel
theorem dX1_grudge_28 : decode cX1_grudge 28 = .ok (.imul, 1) := by decide +kernel
theorem dX1_grudge_29 : decode cX1_grudge 29 = .ok (.iload_n 2, 1) := by decide +kernel
theorem dX1_grudge_30 : decode cX1_grudge 30 = .ok (.iadd, 1) := by decide +kernel
theorem dX1_grudge_31 : decode cX1_grudge 31 = .ok (.iaload, 1) := by decide +kernel
theorem dX1_grudge_32 : decode cX1_grudge 32 = .ok (.goto 8, 3) := by decide +kernel
theorem dX1_grudge_35 : decode cX1_grudge 35 = .ok (.aload_n 0, 1) := by decide +kernel
theorem dX1_grudge_36 : decode cX1_grudge 36 = .ok (.iconst 1, 1) := by decide +kernel
theorem dX1_grudge_37 : decode cX1_grudge 37 = .ok (.invokevirtual 46, 3) := by decide +kernel
theorem dX1_grudge_40 : decode cX1_grudge 40 = .ok (.ireturn, 1) := by decide +kernel
set_option maxRecDepth 20000 in
theorem ggX1_thimble_X1_isThimble : GoodIn wsX1_thimble wsX1_isThimble := goodIn_r _ [6, 7, 8, 9, 5, 10, 20, 21, 22, 23, 24, 25, 26, 27, 28] (by decide +kernel) (by decide +kernel)
set_option maxRecDepth 20000 in
theorem gX1_thimble_X1_isThimble : GoodIn wsX1_thimble (wsV RX1 92 RX1 yX1_isThimble wsX1_isThimble) := goodIn_app (goodIn_of _ (by decide +kernel)) ggX1_thimble_X1_isThimble
set_option maxRecDepth 20000 in
theorem ggX1_thimble_X1_isIn : GoodIn wsX1_thimble wsX1_isIn := goodIn_r _ [10] (by decide +kernel) (by decide +kernel)
set_option maxRecDepth 20000 in
theorem gX1_thimble_X1_isIn : GoodIn wsX1_thimble (va_wsS RX1 35 yX1_isIn wsX1_isIn) := goodIn_app (goodIn_of _ (by decide +kernel)) ggX1_thimble_X1_isIn
set_option maxRecDepth 20000 in
theorem ggX1_thimble_X1_th : GoodIn wsX1_thimble wsX1_th := goodIn_r _ [14, 15, 20, 21, 22, 23, 24, 25, 26, 27, 28] (by decide +kernel) (by decide +kernel)
set_option maxRecDepth 20000 in
theorem gX1_thimble_X1_th : GoodIn wsX1_thimble (wsV RX1 42 RX1 yX1_th wsX1_th) := goodIn_app (goodIn_of _ (by decide +kernel)) ggX1_thimble_X1_th
set_option maxRecDepth 20000 in
theorem ggX1_thimble_X1_fail : GoodIn wsX1_thimble wsX1_fail := goodIn_r _ [19, 1, 20, 21, 22, 23, 24, 25, 26, 27, 28] (by decide +kernel) (by decide +kernel)
set_option maxRecDepth 20000 in
theorem gX1_thimble_X1_fail : GoodIn wsX1_thimble (wsV RX1 46 RX1 yX1_fail wsX1_fail) := goodIn_app (goodIn_of _ (by decide +kernel)) ggX1_thimble_X1_fail
theorem dX1_thimble_0 : decode cX1_thimble 0 = .ok (.aload_n 0, 1) := by decide +kernel
theorem dX1_thimble_1 : decode cX1_thimble 1 = .ok (.iconst 0, 1) := by decide +kernel
theorem dX1_thimble_2 : decode cX1_thimble 2 = .ok (.putfield 28, 3) := by decide +kernel
theorem dX1_thimble_5 : decode cX1_thimble 5 = .ok (.aload_n 0, 1) := by decide +kernel
theorem dX1_thimble_6 : decode cX1_thimble 6 = .ok (.iload_n 1, 1) := by decide +kernel
theorem dX1_thimble_7 : decode cX1_thimble 7 = .ok (.invokevirtual 92, 3) := by decide +kernel
theorem dX1_thimble_10 : decode cX1_thimble 10 = .ok (.ifCond .eq 21, 3) := by decide +kernel
theorem dX1_thimble_13 : decode cX1_thimble 13 = .ok (.iload_n 2, 1) := by decide +kernel
theorem dX1_thimble_14 : decode cX1_thimble 14 = .ok (.iconst 0, 1) := by decide +kernel
theorem dX1_thimble_15 : decode cX1_thimble 15 = .ok (.iconst 5, 1) := by decide +kernel
theorem dX1_thimble_16 : decode cX1_thimble 16 = .ok (.invokestatic 35, 3) := by decide +kernel
theorem dX1_thimble_19 : decode cX1_thimble 19 = .ok (.ifCond .eq 12, 3) := by decide +kernel
theorem dX1_thimble_22 : decode cX1_thimble 22 = .ok (.aload_n 0, 1) := by decide +kernel
theorem dX1_thimble_23 : decode cX1_thimble 23 = .ok (.iload_n 1, 1) := by decide +kernel
theorem dX1_thimble_24 : decode cX1_thimble 24 = .ok (.iload_n 2, 1) := by decide +kernel
theorem dX1_thimble_25 : decode cX1_thimble 25 = .ok (.invokevirtual 42, 3) := by decide +kernel
theorem dX1_thimble_28 : decode cX1_thimble 28 = .ok (.goto 8, 3) := by decide +kernel
theorem dX1_thimble_31 : decode cX1_thimble 31 = .ok (.aload_n 0, 1) := by decide +kernel
theorem dX1_thimble_32 : decode cX1_thimble 32 = .ok (.iconst 1, 1) := by decide +kernel
theorem dX1_thimble_33 : decode cX1_thimble 33 = .ok (.invokevirtual 46, 3) := by decide +kernel
theorem dX1_thimble_36 : decode cX1_thimble 36 = .ok (.ireturn, 1) := by decide +kernel
set_option maxRecDepth 20000 in
theorem ggX1_exchange_X1_th : GoodIn wsX1_exchange wsX1_th := goodIn_r _ [5, 6, 11, 12, 13, 14, 15, 16, 17, 18, 19] (by decide +kernel) (by decide +kernel)
set_option maxRecDepth 20000 in
theorem gX1_exchange_X1_th : GoodIn wsX1_exchange (wsV RX1 42 RX1 yX1_th wsX1_th) := goodIn_app (goodIn_of _ (by decide +kernel)) ggX1_exchange_X1_th
set_option maxRecDepth 20000 in
theorem ggX1_exchange_X1_set : GoodIn wsX1_exchange wsX1_set := goodIn_r _ [10, 6, 11, 12, 13, 14, 15, 16, 17, 18, 19] (by decide +kernel) (by decide +kernel)
set_option maxRecDepth 20000 in
theorem gX1_exchange_X1_set : GoodIn wsX1_exchange (wsV RX1 95 RX1 yX1_set wsX1_set) := goodIn_app (goodIn_of _ (by decide +kernel)) ggX1_exchange_X1_set
theorem dX1_exchange_0 : decode cX1_exchange 0 = .ok (.aload_n 0, 1) := by decide +kernel
theorem dX1_exchange_1 : decode cX1_exchange 1 = .ok (.iload_n 1, 1) := by decide +kernel
theorem dX1_exchange_2 : decode cX1_exchange 2 = .ok (.iconst 4, 1) := by decide +kernel
theorem dX1_exchange_3 : decode cX1_exchange 3 = .ok (.invokevirtual 42, 3) := by decide +kernel
theorem dX1_exchange_6 : decode cX1_exchange 6 = .ok (.istore_n 3, 1) := by decide +kernel
theorem dX1_exchange_7 : decode cX1_exchange 7 = .ok (.aload_n 0, 1) := by decide +kernel
theorem dX1_exchange_8 : decode cX1_exchange 8 = .ok (.iload_n 1, 1) := by decide +kernel
theorem dX1_exchange_9 : decode cX1_exchange 9 = .ok (.iconst 4, 1) := by decide +kernel
theorem dX1_exchange_10 : decode cX1_exchange 10 = .ok (.aload_n 0, 1) := by decide +kernel
theorem dX1_exchange_11 : decode cX1_exchange 11 = .ok (.iload_n 2, 1) := by decide +kernel
theorem dX1_exchange_12 : decode cX1_exchange 12 = .ok (.iconst 4, 1) := by decide +kernel
theorem dX1_exchange_13 : decode cX1_exchange 13 = .ok (.invokevirtual 42, 3) := by decide +kernel
theorem dX1_exchange_16 : decode cX1_exchange 16 = .ok (.invokevirtual 95, 3) := by decide +kernel
theorem dX1_exchange_19 : decode cX1_exchange 19 = .ok (.aload_n 0, 1) := by decide +kernel
theorem dX1_exchange_20 : decode cX1_exchange 20 = .ok (.iload_n 2, 1) := by decide +kernel
theorem dX1_exchange_21 : decode cX1_exchange 21 = .ok (.iconst 4, 1) := by decide +kernel
theorem dX1_exchange_22 : decode cX1_exchange 22 = .ok (.iload_n 3, 1) := by decide +kernel
theorem dX1_exchange_23 : decode cX1_exchange 23 = .ok (.invokevirtual 95, 3) := by decide +kernel
theorem dX1_exchange_26 : decode cX1_exchange 26 = .ok (.return_, 1) := by decide +kernel
set_option maxRecDepth 20000 in
theorem ggX1_gain_X1_th : GoodIn wsX1_gain wsX1_th := goodIn_r _ [5, 6, 45, 46, 47, 48, 49, 50, 51, 52, 53] (by decide +kernel) (by decide +kernel)
set_option maxRecDepth 20000 in
theorem gX1_gain_X1_th : GoodIn wsX1_gain (wsV RX1 42 RX1 yX1_th wsX1_th) := goodIn_app (goodIn_of _ (by decide +kernel)) ggX1_gain_X1_th
set_option maxRecDepth 20000 in
theorem ggX1_gain_X1_worth : GoodIn wsX1_gain wsX1_worth := goodIn_r _ [10, 11, 12, 13, 14, 4, 15, 16, 1, 2, 3, 5, 6, 17, 18, 19, 20, 21, 22, 23, 24, 25, 26, 27, 28, 29, 30, 31, 32, 33, 34, 35, 36, 45, 46, 47, 48, 49, 50, 51, 52, 53] (by decide +kernel) (by decide +kernel)
set_option maxRecDepth 20000 in
theorem gX1_gain_X1_worth : GoodIn wsX1_gain (wsV RX1 86 RX1 yX1_worth wsX1_worth) := goodIn_app (goodIn_of _ (by decide +kernel)) ggX1_gain_X1_worth
set_option maxRecDepth 20000 in
theorem ggX1_gain_X1_exchange : GoodIn wsX1_gain wsX1_exchange := goodIn_r _ [40, 1, 2, 3, 4, 5, 6, 41, 42, 43, 44, 45, 46, 47, 48, 49, 50, 51, 52, 53] (by decide +kernel) (by decide +kernel)
set_option maxRecDepth 20000 in
theorem gX1_gain_X1_exchange : GoodIn wsX1_gain (wsV RX1 99 RX1 yX1_exchange wsX1_exchange) := goodIn_app (goodIn_of _ (by decide +kernel)) ggX1_gain_X1_exchange
theorem dX1_gain_0 : decode cX1_gain 0 = .ok (.aload_n 0, 1) := by decide +kernel
theorem dX1_gain_1 : decode cX1_gain 1 = .ok (.iload_n 1, 1) := by decide +kernel
theorem dX1_gain_2 : decode cX1_gain 2 = .ok (.iconst 4, 1) := by decide +kernel
theorem dX1_gain_3 : decode cX1_gain 3 = .ok (.invokevirtual 42, 3) := by decide +kernel
theorem dX1_gain_6 : decode cX1_gain 6 = .ok (.istore_n 3, 1) := by decide +kernel
theorem dX1_gain_7 : decode cX1_gain 7 = .ok (.aload_n 0, 1) := by decide +kernel
theorem dX1_gain_8 : decode cX1_gain 8 = .ok (.iload_n 3, 1) := by decide +kernel
theorem dX1_gain_9 : decode cX1_gain 9 = .ok (.invokevirtual 86, 3) := by decide +kernel
theorem dX1_gain_12 : decode cX1_gain 12 = .ok (.istore 4, 2) := by decide +kernel
theorem dX1_gain_14 : decode cX1_gain 14 = .ok (.aload_n 0, 1) := by decide +kernel
theorem dX1_gain_15 : decode cX1_gain 15 = .ok (.iload_n 1, 1) := by decide +kernel
theorem dX1_gain_16 : decode cX1_gain 16 = .ok (.iload_n 2, 1) := by decide +kernel
theorem dX1_gain_17 : decode cX1_gain 17 = .ok (.invokevirtual 99, 3) := by decide +kernel
theorem dX1_gain_20 : decode cX1_gain 20 = .ok (.aload_n 0, 1) := by decide +kernel
theorem dX1_gain_21 : decode cX1_gain 21 = .ok (.iload_n 3, 1) := by decide +kernel
theorem dX1_gain_22 : decode cX1_gain 22 = .ok (.invokevirtual 86, 3) := by decide +kernel
theorem dX1_gain_25 : decode cX1_gain 25 = .ok (.iload 4, 2) := by decide +kernel
theorem dX1_gain_27 : decode cX1_gain 27 = .ok (.isub, 1) := by decide +kernel
theorem dX1_gain_28 : decode cX1_gain 28 = .ok (.istore 5, 2) := by decide +kernel
theorem dX1_gain_30 : decode cX1_gain 30 = .ok (.aload_n 0, 1) := by decide +kernel
theorem dX1_gain_31 : decode cX1_gain 31 = .ok (.iload_n 1, 1) := by decide +kernel
theorem dX1_gain_32 : decode cX1_gain 32 = .ok (.iload_n 2, 1) := by decide +kernel
theorem dX1_gain_33 : decode cX1_gain 33 = .ok (.invokevirtual 99, 3) := by decide +kernel
theorem dX1_gain_36 : decode cX1_gain 36 = .ok (.iload 5, 2) := by decide +kernel
theorem dX1_gain_38 : decode cX1_gain 38 = .ok (.ireturn, 1) := by decide +kernel
set_option maxRecDepth 20000 in
theorem ggX1_gains_X1_isThimble : GoodIn wsX1_gains wsX1_isThimble := goodIn_r _ [6, 7, 8, 9, 5, 10, 61, 62, 63, 64, 65, 66, 67, 68, 69] (by decide +kernel) (by decide +kernel)
set_option maxRecDepth 20000 in
theorem gX1_gains_X1_isThimble : GoodIn wsX1_gains (wsV RX1 92 RX1 yX1_isThimble wsX1_isThimble) := goodIn_app (goodIn_of _ (by decide +kernel)) ggX1_gains_X1_isThimble
set_option maxRecDepth 20000 in
theorem ggX1_gains_X1_fail : GoodIn wsX1_gains wsX1_fail := goodIn_r _ [14, 1, 61, 62, 63, 64, 65, 66, 67, 68, 69] (by decide +kernel) (by decide +kernel)
set_option maxRecDepth 20000 in
theorem gX1_gains_X1_fail : GoodIn wsX1_gains (wsV RX1 46 RX1 yX1_fail wsX1_fail) := goodIn_app (goodIn_of _ (by decide +kernel)) ggX1_gains_X1_fail
set_option maxRecDepth 20000 in
theorem ggX1_gains_X1_th : GoodIn wsX1_gains wsX1_th := goodIn_r _ [18, 19, 61, 62, 63, 64, 65, 66, 67, 68, 69] (by decide +kernel) (by decide +kernel)
set_option maxRecDepth 20000 in
theorem gX1_gains_X1_th : GoodIn wsX1_gains (wsV RX1 42 RX1 yX1_th wsX1_th) := goodIn_app (goodIn_of _ (by decide +kernel)) ggX1_gains_X1_th
set_option maxRecDepth 20000 in
theorem ggX1_gains_X1_gain : GoodIn wsX1_gains wsX1_gain := goodIn_r _ [23, 15, 16, 17, 5, 18, 19, 24, 25, 26, 27, 28, 29, 30, 31, 32, 7, 33, 34, 35, 36, 37, 38, 39, 40, 41, 42, 43, 44, 45, 46, 47, 48, 49, 50, 51, 52, 53, 54, 55, 56, 57, 58, 59, 60, 61, 62, 63, 64, 65, 66, 67, 68, 69] (by decide +kernel) (by decide +kernel)
set_option maxRecDepth 20000 in
theorem gX1_gains_X1_gain : GoodIn wsX1_gains (wsV RX1 103 RX1 yX1_gain wsX1_gain) := goodIn_app (goodIn_of _ (by decide +kernel)) ggX1_gains_X1_gain
theorem dX1_gains_0 : decode cX1_gains 0 = .ok (.aload_n 0, 1) := by decide +kernel
theorem dX1_gains_1 : decode cX1_gains 1 = .ok (.iconst 0, 1) := by decide +kernel
theorem dX1_gains_2 : decode cX1_gains 2 = .ok (.putfield 28, 3) := by decide +kernel
theorem dX1_gains_5 : decode cX1_gains 5 = .ok (.aload_n 0, 1) := by decide +kernel
theorem dX1_gains_6 : decode cX1_gains 6 = .ok (.iload_n 1, 1) := by decide +kernel
theorem dX1_gains_7 : decode cX1_gains 7 = .ok (.invokevirtual 92, 3) := by decide +kernel
theorem dX1_gains_10 : decode cX1_gains 10 = .ok (.ifCond .eq 11, 3) := by decide +kernel
theorem dX1_gains_13 : decode cX1_gains 13 = .ok (.aload_n 0, 1) := by decide +kernel
theorem dX1_gains_14 : decode cX1_gains 14 = .ok (.iload_n 2, 1) := by decide +kernel
theorem dX1_gains_15 : decode cX1_gains 15 = .ok (.invokevirtual 92, 3) := by decide +kernel
theorem dX1_gains_18 : decode cX1_gains 18 = .ok (.ifCond .ne 9, 3) := by decide +kernel
theorem dX1_gains_21 : decode cX1_gains 21 = .ok (.aload_n 0, 1) := by decide +kernel
theorem dX1_gains_22 : decode cX1_gains 22 = .ok (.iconst 1, 1) := by decide +kernel
theorem dX1_gains_23 : decode cX1_gains 23 = .ok (.invokevirtual 46, 3) := by decide +kernel
theorem dX1_gains_26 : decode cX1_gains 26 = .ok (.ireturn, 1) := by decide +kernel
theorem dX1_gains_27 : decode cX1_gains 27 = .ok (.aload_n 0, 1) := by decide +kernel
theorem dX1_gains_28 : decode cX1_gains 28 = .ok (.iload_n 1, 1) := by decide +kernel
theorem dX1_gains_29 : decode cX1_gains 29 = .ok (.iconst 4, 1) := by decide +kernel
theorem dX1_gains_30 : decode cX1_gains 30 = .ok (.invokevirtual 42, 3) := by decide +kernel
theorem dX1_gains_33 : decode cX1_gains 33 = .ok (.aload_n 0, 1) := by decide +kernel
theorem dX1_gains_34 : decode cX1_gains 34 = .ok (.iload_n 2, 1) := by decide +kernel
theorem dX1_gains_35 : decode cX1_gains 35 = .ok (.iconst 4, 1) := by decide +kernel
theorem dX1_gains_36 : decode cX1_gains 36 = .ok (.invokevirtual 42, 3) := by decide +kernel
theorem dX1_gains_39 : decode cX1_gains 39 = .ok (.if_icmp .ne 11, 3) := by decide +kernel
theorem dX1_gains_42 : decode cX1_gains 42 = .ok (.aload_n 0, 1) := by decide +kernel
theorem dX1_gains_43 : decode cX1_gains 43 = .ok (.iconst 2, 1) := by decide +kernel
theorem dX1_gains_44 : decode cX1_gains 44 = .ok (.invokevirtual 46, 3) := by decide +kernel
theorem dX1_gains_47 : decode cX1_gains 47 = .ok (.goto 9, 3) := by decide +kernel
theorem dX1_gains_50 : decode cX1_gains 50 = .ok (.aload_n 0, 1) := by decide +kernel
theorem dX1_gains_51 : decode cX1_gains 51 = .ok (.iload_n 1, 1) := by decide +kernel
theorem dX1_gains_52 : decode cX1_gains 52 = .ok (.iload_n 2, 1) := by decide +kernel
theorem dX1_gains_53 : decode cX1_gains 53 = .ok (.invokevirtual 103, 3) := by decide +kernel
theorem dX1_gains_56 : decode cX1_gains 56 = .ok (.ireturn, 1) := by decide +kernel
set_option maxRecDepth 20000 in
theorem ggX1_isEnough_X1_gain : GoodIn wsX1_isEnough wsX1_gain := goodIn_r _ [6, 7, 8, 9, 5, 10, 11, 12, 13, 14, 15, 16, 17, 18, 19, 20, 21, 22, 23, 24, 25, 26, 27, 28, 29, 30, 31, 32, 33, 34, 35, 36, 37, 38, 39, 40, 41, 42, 43, 44, 45, 46, 47, 48, 49, 50, 51, 52, 53, 54, 55, 56, 57, 58] (by decide +kernel) (by decide +kernel)
set_option maxRecDepth 20000 in
theorem gX1_isEnough_X1_gain : GoodIn wsX1_isEnough (wsV RX1 103 RX1 yX1_gain wsX1_gain) := goodIn_app (goodIn_of _ (by decide +kernel)) ggX1_isEnough_X1_gain
set_option maxRecDepth 20000 in
theorem ggX1_isEnough_X1_th : GoodIn wsX1_isEnough wsX1_th := goodIn_r _ [10, 11, 50, 51, 52, 53, 54, 55, 56, 57, 58] (by decide +kernel) (by decide +kernel)
set_option maxRecDepth 20000 in
theorem gX1_isEnough_X1_th : GoodIn wsX1_isEnough (wsV RX1 42 RX1 yX1_th wsX1_th) := goodIn_app (goodIn_of _ (by decide +kernel)) ggX1_isEnough_X1_th
theorem dX1_isEnough_0 : decode cX1_isEnough 0 = .ok (.aload_n 0, 1) := by decide +kernel
theorem dX1_isEnough_1 : decode cX1_isEnough 1 = .ok (.iload_n 1, 1) := by decide +kernel
theorem dX1_isEnough_2 : decode cX1_isEnough 2 = .ok (.iload_n 2, 1) := by decide +kernel
theorem dX1_isEnough_3 : decode cX1_isEnough 3 = .ok (.invokevirtual 103, 3) := by decide +kernel
theorem dX1_isEnough_6 : decode cX1_isEnough 6 = .ok (.iconst 2, 1) := by decide +kernel
theorem dX1_isEnough_7 : decode cX1_isEnough 7 = .ok (.aload_n 0, 1) := by decide +kernel
theorem dX1_isEnough_8 : decode cX1_isEnough 8 = .ok (.getfield 16, 3) := by decide +kernel
theorem dX1_isEnough_11 : decode cX1_isEnough 11 = .ok (.bipush 7, 2) := by decide +kernel
theorem dX1_isEnough_13 : decode cX1_isEnough 13 = .ok (.aload_n 0, 1) := by decide +kernel
theorem dX1_isEnough_14 : decode cX1_isEnough 14 = .ok (.iload_n 1, 1) := by decide +kernel
theorem dX1_isEnough_15 : decode cX1_isEnough 15 = .ok (.iconst 4, 1) := by decide +kernel
theorem dX1_isEnough_16 : decode cX1_isEnough 16 = .ok (.invokevirtual 42, 3) := by decide +kernel
theorem dX1_isEnough_19 : decode cX1_isEnough 19 = .ok (.imul, 1) := by decide +kernel
theorem dX1_isEnough_20 : decode cX1_isEnough 20 = .ok (.aload_n 0, 1) := by decide +kernel
theorem dX1_isEnough_21 : decode cX1_isEnough 21 = .ok (.iload_n 2, 1) := by decide +kernel
theorem dX1_isEnough_22 : decode cX1_isEnough 22 = .ok (.iconst 4, 1) := by decide +kernel
theorem dX1_isEnough_23 : decode cX1_isEnough 23 = .ok (.invokevirtual 42, 3) := by decide +kernel
theorem dX1_isEnough_26 : decode cX1_isEnough 26 = .ok (.iadd, 1) := by decide +kernel
theorem dX1_isEnough_27 : decode cX1_isEnough 27 = .ok (.iaload, 1) := by decide +kernel
theorem dX1_isEnough_28 : decode cX1_isEnough 28 = .ok (.imul, 1) := by decide +kernel
theorem dX1_isEnough_29 : decode cX1_isEnough 29 = .ok (.if_icmp .le 7, 3) := by decide +kernel
theorem dX1_isEnough_32 : decode cX1_isEnough 32 = .ok (.iconst 1, 1) := by decide +kernel
theorem dX1_isEnough_33 : decode cX1_isEnough 33 = .ok (.goto 4, 3) := by decide +kernel
theorem dX1_isEnough_36 : decode cX1_isEnough 36 = .ok (.iconst 0, 1) := by decide +kernel
theorem dX1_isEnough_37 : decode cX1_isEnough 37 = .ok (.ireturn, 1) := by decide +kernel
theorem dX1_weigh_0 : decode cX1_weigh 0 = .ok (.aload_n 0, 1) := by decide +kernel
theorem dX1_weigh_1 : decode cX1_weigh 1 = .ok (.getfield 16, 3) := by decide +kernel
theorem dX1_weigh_4 : decode cX1_weigh 4 = .ok (.bipush 7, 2) := by decide +kernel
theorem dX1_weigh_6 : decode cX1_weigh 6 = .ok (.iload_n 1, 1) := by decide +kernel
theorem dX1_weigh_7 : decode cX1_weigh 7 = .ok (.imul, 1) := by decide +kernel
theorem dX1_weigh_8 : decode cX1_weigh 8 = .ok (.iload_n 2, 1) := by decide +kernel
theorem dX1_weigh_9 : decode cX1_weigh 9 = .ok (.iadd, 1) := by decide +kernel
theorem dX1_weigh_10 : decode cX1_weigh 10 = .ok (.iconst 0, 1) := by decide +kernel
theorem dX1_weigh_11 : decode cX1_weigh 11 = .ok (.bipush 9, 2) := by decide +kernel
theorem dX1_weigh_13 : decode cX1_weigh 13 = .ok (.aload_n 0, 1) := by decide +kernel
theorem dX1_weigh_14 : decode cX1_weigh 14 = .ok (.getfield 16, 3) := by decide +kernel
theorem dX1_weigh_17 : decode cX1_weigh 17 = .ok (.bipush 7, 2) := by decide +kernel
theorem dX1_weigh_19 : decode cX1_weigh 19 = .ok (.iload_n 1, 1) := by decide +kernel
theorem dX1_weigh_20 : decode cX1_weigh 20 = .ok (.imul, 1) := by decide +kernel
theorem dX1_weigh_21 : decode cX1_weigh 21 = .ok (.iload_n 2, 1) := by decide +kernel
theorem dX1_weigh_22 : decode cX1_weigh 22 = .ok (.iadd, 1) := by decide +kernel
theorem dX1_weigh_23 : decode cX1_weigh 23 = .ok (.iaload, 1) := by decide +kernel
theorem dX1_weigh_24 : decode cX1_weigh 24 = .ok (.iload_n 3, 1) := by decide +kernel
theorem dX1_weigh_25 : decode cX1_weigh 25 = .ok (.iadd, 1) := by decide +kernel
theorem dX1_weigh_26 : decode cX1_weigh 26 = .ok (.invokestatic 106, 3) := by decide +kernel
theorem dX1_weigh_29 : decode cX1_weigh 29 = .ok (.invokestatic 63, 3) := by decide +kernel
theorem dX1_weigh_32 : decode cX1_weigh 32 = .ok (.iastore, 1) := by decide +kernel
theorem dX1_weigh_33 : decode cX1_weigh 33 = .ok (.return_, 1) := by decide +kernel
set_option maxRecDepth 20000 in
theorem ggX1_swapped_X1_th : GoodIn wsX1_swapped wsX1_th := goodIn_r _ [7, 8, 63, 64, 65, 66, 67, 68, 69, 70, 71] (by decide +kernel) (by decide +kernel)
set_option maxRecDepth 20000 in
theorem gX1_swapped_X1_th : GoodIn wsX1_swapped (wsV RX1 42 RX1 yX1_th wsX1_th) := goodIn_app (goodIn_of _ (by decide +kernel)) ggX1_swapped_X1_th
set_option maxRecDepth 20000 in
theorem ggX1_swapped_X1_isEnough : GoodIn wsX1_swapped wsX1_isEnough := goodIn_r _ [12, 13, 14, 15, 16, 6, 17, 3, 4, 5, 7, 8, 18, 19, 20, 21, 22, 23, 24, 25, 26, 27, 28, 29, 30, 31, 32, 33, 34, 35, 36, 37, 38, 39, 40, 41, 42, 43, 44, 45, 46, 47, 48, 49, 50, 51, 52, 53, 54, 55, 63, 64, 65, 66, 67, 68, 69, 70, 71] (by decide +kernel) (by decide +kernel)
set_option maxRecDepth 20000 in
theorem gX1_swapped_X1_isEnough : GoodIn wsX1_swapped (wsV RX1 109 RX1 yX1_isEnough wsX1_isEnough) := goodIn_app (goodIn_of _ (by decide +kernel)) ggX1_swapped_X1_isEnough
set_option maxRecDepth 20000 in
theorem ggX1_swapped_X1_exchange : GoodIn wsX1_swapped wsX1_exchange := goodIn_r _ [51, 3, 4, 5, 6, 7, 8, 52, 53, 54, 55, 63, 64, 65, 66, 67, 68, 69, 70, 71] (by decide +kernel) (by decide +kernel)
set_option maxRecDepth 20000 in
theorem gX1_swapped_X1_exchange : GoodIn wsX1_swapped (wsV RX1 99 RX1 yX1_exchange wsX1_exchange) := goodIn_app (goodIn_of _ (by decide +kernel)) ggX1_swapped_X1_exchange
set_option maxRecDepth 20000 in
theorem ggX1_swapped_X1_weigh : GoodIn wsX1_swapped wsX1_weigh := goodIn_r _ [59, 13, 60, 61, 42, 62, 40, 41, 43, 63, 64, 65, 66, 67, 68, 69, 70, 71] (by decide +kernel) (by decide +kernel)
set_option maxRecDepth 20000 in
theorem gX1_swapped_X1_weigh : GoodIn wsX1_swapped (wsV RX1 113 RX1 yX1_weigh wsX1_weigh) := goodIn_app (goodIn_of _ (by decide +kernel)) ggX1_swapped_X1_weigh
theorem dX1_swapped_0 : decode cX1_swapped 0 = .ok (.aload_n 0, 1) := by decide +kernel
theorem dX1_swapped_1 : decode cX1_swapped 1 = .ok (.iload_n 1, 1) := by decide +kernel
theorem dX1_swapped_2 : decode cX1_swapped 2 = .ok (.iconst 4, 1) := by decide +kernel
theorem dX1_swapped_3 : decode cX1_swapped 3 = .ok (.invokevirtual 42, 3) := by decide +kernel
theorem dX1_swapped_6 : decode cX1_swapped 6 = .ok (.istore_n 3, 1) := by decide +kernel
theorem dX1_swapped_7 : decode cX1_swapped 7 = .ok (.aload_n 0, 1) := by decide +kernel
theorem dX1_swapped_8 : decode cX1_swapped 8 = .ok (.iload_n 2, 1) := by decide +kernel
theorem dX1_swapped_9 : decode cX1_swapped 9 = .ok (.iconst 4, 1) := by decide +kernel
theorem dX1_swapped_10 : decode cX1_swapped 10 = .ok (.invokevirtual 42, 3) := by decide +kernel
theorem dX1_swapped_13 : decode cX1_swapped 13 = .ok (.istore 4, 2) := by decide +kernel
theorem dX1_swapped_15 : decode cX1_swapped 15 = .ok (.aload_n 0, 1) := by decide +kernel
theorem dX1_swapped_16 : decode cX1_swapped 16 = .ok (.iload_n 1, 1) := by decide +kernel
theorem dX1_swapped_17 : decode cX1_swapped 17 = .ok (.iload_n 2, 1) := by decide +kernel
theorem dX1_swapped_18 : decode cX1_swapped 18 = .ok (.invokevirtual 109, 3) := by decide +kernel
theorem dX1_swapped_21 : decode cX1_swapped 21 = .ok (.istore 5, 2) := by decide +kernel
theorem dX1_swapped_23 : decode cX1_swapped 23 = .ok (.aload_n 0, 1) := by decide +kernel
theorem dX1_swapped_24 : decode cX1_swapped 24 = .ok (.iload_n 2, 1) := by decide +kernel
theorem dX1_swapped_25 : decode cX1_swapped 25 = .ok (.iload_n 1, 1) := by decide +kernel
theorem dX1_swapped_26 : decode cX1_swapped 26 = .ok (.invokevirtual 109, 3) := by decide +kernel
theorem dX1_swapped_29 : decode cX1_swapped 29 = .ok (.istore 6, 2) := by decide +kernel
theorem dX1_swapped_31 : decode cX1_swapped 31 = .ok (.iload 5, 2) := by decide +kernel
theorem dX1_swapped_33 : decode cX1_swapped 33 = .ok (.ifCond .eq 63, 3) := by decide +kernel
theorem dX1_swapped_36 : decode cX1_swapped 36 = .ok (.iload 6, 2) := by decide +kernel
theorem dX1_swapped_38 : decode cX1_swapped 38 = .ok (.ifCond .eq 58, 3) := by decide +kernel
theorem dX1_swapped_41 : decode cX1_swapped 41 = .ok (.aload_n 0, 1) := by decide +kernel
theorem dX1_swapped_42 : decode cX1_swapped 42 = .ok (.iload_n 1, 1) := by decide +kernel
theorem dX1_swapped_43 : decode cX1_swapped 43 = .ok (.iload_n 2, 1) := by decide +kernel
theorem dX1_swapped_44 : decode cX1_swapped 44 = .ok (.invokevirtual 99, 3) := by decide +kernel
theorem dX1_swapped_47 : decode cX1_swapped 47 = .ok (.aload_n 0, 1) := by decide +kernel
theorem dX1_swapped_48 : decode cX1_swapped 48 = .ok (.iload_n 3, 1) := by decide +kernel
theorem dX1_swapped_49 : decode cX1_swapped 49 = .ok (.iload 4, 2) := by decide +kernel
theorem dX1_swapped_51 : decode cX1_swapped 51 = .ok (.iconst (-1), 1) := by decide +kernel
theorem dX1_swapped_52 : decode cX1_swapped 52 = .ok (.invokevirtual 113, 3) := by decide +kernel
theorem dX1_swapped_55 : decode cX1_swapped 55 = .ok (.aload_n 0, 1) := by decide +kernel
theorem dX1_swapped_56 : decode cX1_swapped 56 = .ok (.iload 4, 2) := by decide +kernel
theorem dX1_swapped_58 : decode cX1_swapped 58 = .ok (.iload_n 3, 1) := by decide +kernel
theorem dX1_swapped_59 : decode cX1_swapped 59 = .ok (.iconst (-1), 1) := by decide +kernel
theorem dX1_swapped_60 : decode cX1_swapped 60 = .ok (.invokevirtual 113, 3) := by decide +kernel
theorem dX1_swapped_63 : decode cX1_swapped 63 = .ok (.aload_n 0, 1) := by decide +kernel
theorem dX1_swapped_64 : decode cX1_swapped 64 = .ok (.getfield 19, 3) := by decide +kernel
theorem dX1_swapped_67 : decode cX1_swapped 67 = .ok (.iload_n 3, 1) := by decide +kernel
theorem dX1_swapped_68 : decode cX1_swapped 68 = .ok (.dup2, 1) := by decide +kernel
theorem dX1_swapped_69 : decode cX1_swapped 69 = .ok (.iaload, 1) := by decide +kernel
theorem dX1_swapped_70 : decode cX1_swapped 70 = .ok (.iconst 1, 1) := by decide +kernel
theorem dX1_swapped_71 : decode cX1_swapped 71 = .ok (.iadd, 1) := by decide +kernel
theorem dX1_swapped_72 : decode cX1_swapped 72 = .ok (.iastore, 1) := by decide +kernel
theorem dX1_swapped_73 : decode cX1_swapped 73 = .ok (.aload_n 0, 1) := by decide +kernel
theorem dX1_swapped_74 : decode cX1_swapped 74 = .ok (.getfield 19, 3) := by decide +kernel
theorem dX1_swapped_77 : decode cX1_swapped 77 = .ok (.iload 4, 2) := by decide +kernel
theorem dX1_swapped_79 : decode cX1_swapped 79 = .ok (.dup2, 1) := by decide +kernel
theorem dX1_swapped_80 : decode cX1_swapped 80 = .ok (.iaload, 1) := by decide +kernel
theorem dX1_swapped_81 : decode cX1_swapped 81 = .ok (.iconst 1, 1) := by decide +kernel
theorem dX1_swapped_82 : decode cX1_swapped 82 = .ok (.iadd, 1) := by decide +kernel
theorem dX1_swapped_83 : decode cX1_swapped 83 = .ok (.iastore, 1) := by decide +kernel
theorem dX1_swapped_84 : decode cX1_swapped 84 = .ok (.aload_n 0, 1) := by decide +kernel
theorem dX1_swapped_85 : decode cX1_swapped 85 = .ok (.getfield 22, 3) := by decide +kernel
theorem dX1_swapped_88 : decode cX1_swapped 88 = .ok (.iconst 1, 1) := by decide +kernel
theorem dX1_swapped_89 : decode cX1_swapped 89 = .ok (.dup2, 1) := by decide +kernel
theorem dX1_swapped_90 : decode cX1_swapped 90 = .ok (.iaload, 1) := by decide +kernel
theorem dX1_swapped_91 : decode cX1_swapped 91 = .ok (.iconst 1, 1) := by decide +kernel
theorem dX1_swapped_92 : decode cX1_swapped 92 = .ok (.iadd, 1) := by decide +kernel
theorem dX1_swapped_93 : decode cX1_swapped 93 = .ok (.iastore, 1) := by decide +kernel
theorem dX1_swapped_94 : decode cX1_swapped 94 = .ok (.iconst 0, 1) := by decide +kernel
theorem dX1_swapped_95 : decode cX1_swapped 95 = .ok (.ireturn, 1) := by decide +kernel
theorem dX1_swapped_96 : decode cX1_swapped 96 = .ok (.iload 5, 2) := by decide +kernel
theorem dX1_swapped_98 : decode cX1_swapped 98 = .ok (.ifCond .eq 11, 3) := by decide +kernel
theorem dX1_swapped_101 : decode cX1_swapped 101 = .ok (.aload_n 0, 1) := by decide +kernel
theorem dX1_swapped_102 : decode cX1_swapped 102 = .ok (.iload_n 3, 1) := by decide +kernel
theorem dX1_swapped_103 : decode cX1_swapped 103 = .ok (.iload 4, 2) := by decide +kernel
theorem dX1_swapped_105 : decode cX1_swapped 105 = .ok (.iconst 1, 1) := by decide +kernel
theorem dX1_swapped_106 : decode cX1_swapped 106 = .ok (.invokevirtual 113, 3) := by decide +kernel
theorem dX1_swapped_109 : decode cX1_swapped 109 = .ok (.iload 6, 2) := by decide +kernel
theorem dX1_swapped_111 : decode cX1_swapped 111 = .ok (.ifCond .eq 11, 3) := by decide +kernel
theorem dX1_swapped_114 : decode cX1_swapped 114 = .ok (.aload_n 0, 1) := by decide +kernel
theorem dX1_swapped_115 : decode cX1_swapped 115 = .ok (.iload 4, 2) := by decide +kernel
theorem dX1_swapped_117 : decode cX1_swapped 117 = .ok (.iload_n 3, 1) := by decide +kernel
theorem dX1_swapped_118 : decode cX1_swapped 118 = .ok (.iconst 1, 1) := by decide +kernel
theorem dX1_swapped_119 : decode cX1_swapped 119 = .ok (.invokevirtual 113, 3) := by decide +kernel
theorem dX1_swapped_122 : decode cX1_swapped 122 = .ok (.aload_n 0, 1) := by decide +kernel
theorem dX1_swapped_123 : decode cX1_swapped 123 = .ok (.getfield 22, 3) := by decide +kernel
theorem dX1_swapped_126 : decode cX1_swapped 126 = .ok (.iconst 2, 1) := by decide +kernel
theorem dX1_swapped_127 : decode cX1_swapped 127 = .ok (.dup2, 1) := by decide +kernel
theorem dX1_swapped_128 : decode cX1_swapped 128 = .ok (.iaload, 1) := by decide +kernel
theorem dX1_swapped_129 : decode cX1_swapped 129 = .ok (.iconst 1, 1) := by decide +kernel
theorem dX1_swapped_130 : decode cX1_swapped 130 = .ok (.iadd, 1) := by decide +kernel
theorem dX1_swapped_131 : decode cX1_swapped 131 = .ok (.iastore, 1) := by decide +kernel
theorem dX1_swapped_132 : decode cX1_swapped 132 = .ok (.iload 5, 2) := by decide +kernel
theorem dX1_swapped_134 : decode cX1_swapped 134 = .ok (.ifCond .eq 7, 3) := by decide +kernel
theorem dX1_swapped_137 : decode cX1_swapped 137 = .ok (.iconst 0, 1) := by decide +kernel
theorem dX1_swapped_138 : decode cX1_swapped 138 = .ok (.goto 4, 3) := by decide +kernel
theorem dX1_swapped_141 : decode cX1_swapped 141 = .ok (.iconst 1, 1) := by decide +kernel
theorem dX1_swapped_142 : decode cX1_swapped 142 = .ok (.iload 6, 2) := by decide +kernel
theorem dX1_swapped_144 : decode cX1_swapped 144 = .ok (.ifCond .eq 7, 3) := by decide +kernel
theorem dX1_swapped_147 : decode cX1_swapped 147 = .ok (.iconst 0, 1) := by decide +kernel
theorem dX1_swapped_148 : decode cX1_swapped 148 = .ok (.goto 4, 3) := by decide +kernel
theorem dX1_swapped_151 : decode cX1_swapped 151 = .ok (.iconst 2, 1) := by decide +kernel
theorem dX1_swapped_152 : decode cX1_swapped 152 = .ok (.iadd, 1) := by decide +kernel
theorem dX1_swapped_153 : decode cX1_swapped 153 = .ok (.ireturn, 1) := by decide +kernel
set_option maxRecDepth 20000 in
theorem ggX1_swap_X1_isThimble : GoodIn wsX1_swap wsX1_isThimble := goodIn_r _ [6, 7, 8, 9, 5, 10, 83, 84, 85, 86, 87, 88, 89, 90, 91] (by decide +kernel) (by decide +kernel)
set_option maxRecDepth 20000 in
theorem gX1_swap_X1_isThimble : GoodIn wsX1_swap (wsV RX1 92 RX1 yX1_isThimble wsX1_isThimble) := goodIn_app (goodIn_of _ (by decide +kernel)) ggX1_swap_X1_isThimble
set_option maxRecDepth 20000 in
theorem ggX1_swap_X1_fail : GoodIn wsX1_swap wsX1_fail := goodIn_r _ [14, 1, 83, 84, 85, 86, 87, 88, 89, 90, 91] (by decide +kernel) (by decide +kernel)
set_option maxRecDepth 20000 in
theorem gX1_swap_X1_fail : GoodIn wsX1_swap (wsV RX1 46 RX1 yX1_fail wsX1_fail) := goodIn_app (goodIn_of _ (by decide +kernel)) ggX1_swap_X1_fail
set_option maxRecDepth 20000 in
theorem ggX1_swap_X1_th : GoodIn wsX1_swap wsX1_th := goodIn_r _ [18, 19, 83, 84, 85, 86, 87, 88, 89, 90, 91] (by decide +kernel) (by decide +kernel)
set_option maxRecDepth 20000 in
theorem gX1_swap_X1_th : GoodIn wsX1_swap (wsV RX1 42 RX1 yX1_th wsX1_th) := goodIn_app (goodIn_of _ (by decide +kernel)) ggX1_swap_X1_th
set_option maxRecDepth 20000 in
theorem ggX1_swap_X1_isLent : GoodIn wsX1_swap wsX1_isLent := goodIn_r _ [23, 15, 16, 17, 5, 18, 19, 83, 84, 85, 86, 87, 88, 89, 90, 91] (by decide +kernel) (by decide +kernel)
set_option maxRecDepth 20000 in
theorem gX1_swap_X1_isLent : GoodIn wsX1_swap (wsV RX1 83 RX1 yX1_isLent wsX1_isLent) := goodIn_app (goodIn_of _ (by decide +kernel)) ggX1_swap_X1_isLent
set_option maxRecDepth 20000 in
theorem ggX1_swap_X1_swapped : GoodIn wsX1_swap wsX1_swapped := goodIn_r _ [27, 28, 29, 15, 16, 17, 5, 18, 19, 30, 31, 32, 33, 34, 35, 36, 37, 38, 39, 40, 41, 42, 43, 44, 45, 46, 47, 7, 48, 49, 50, 51, 52, 53, 54, 55, 56, 57, 58, 59, 60, 61, 62, 63, 64, 65, 66, 67, 68, 69, 70, 71, 72, 73, 74, 75, 76, 77, 78, 79, 80, 81, 82, 83, 84, 85, 86, 87, 88, 89, 90, 91] (by decide +kernel) (by decide +kernel)
set_option maxRecDepth 20000 in
theorem gX1_swap_X1_swapped : GoodIn wsX1_swap (wsV RX1 116 RX1 yX1_swapped wsX1_swapped) := goodIn_app (goodIn_of _ (by decide +kernel)) ggX1_swap_X1_swapped
theorem dX1_swap_0 : decode cX1_swap 0 = .ok (.aload_n 0, 1) := by decide +kernel
theorem dX1_swap_1 : decode cX1_swap 1 = .ok (.iconst 0, 1) := by decide +kernel
theorem dX1_swap_2 : decode cX1_swap 2 = .ok (.putfield 28, 3) := by decide +kernel
theorem dX1_swap_5 : decode cX1_swap 5 = .ok (.aload_n 0, 1) := by decide +kernel
theorem dX1_swap_6 : decode cX1_swap 6 = .ok (.iload_n 1, 1) := by decide +kernel
theorem dX1_swap_7 : decode cX1_swap 7 = .ok (.invokevirtual 92, 3) := by decide +kernel
theorem dX1_swap_10 : decode cX1_swap 10 = .ok (.ifCond .eq 11, 3) := by decide +kernel
theorem dX1_swap_13 : decode cX1_swap 13 = .ok (.aload_n 0, 1) := by decide +kernel
theorem dX1_swap_14 : decode cX1_swap 14 = .ok (.iload_n 2, 1) := by decide +kernel
theorem dX1_swap_15 : decode cX1_swap 15 = .ok (.invokevirtual 92, 3) := by decide +kernel
theorem dX1_swap_18 : decode cX1_swap 18 = .ok (.ifCond .ne 9, 3) := by decide +kernel
theorem dX1_swap_21 : decode cX1_swap 21 = .ok (.aload_n 0, 1) := by decide +kernel
theorem dX1_swap_22 : decode cX1_swap 22 = .ok (.iconst 1, 1) := by decide +kernel
theorem dX1_swap_23 : decode cX1_swap 23 = .ok (.invokevirtual 46, 3) := by decide +kernel
theorem dX1_swap_26 : decode cX1_swap 26 = .ok (.ireturn, 1) := by decide +kernel
theorem dX1_swap_27 : decode cX1_swap 27 = .ok (.aload_n 0, 1) := by decide +kernel
theorem dX1_swap_28 : decode cX1_swap 28 = .ok (.iload_n 1, 1) := by decide +kernel
theorem dX1_swap_29 : decode cX1_swap 29 = .ok (.iconst 4, 1) := by decide +kernel
theorem dX1_swap_30 : decode cX1_swap 30 = .ok (.invokevirtual 42, 3) := by decide +kernel
theorem dX1_swap_33 : decode cX1_swap 33 = .ok (.aload_n 0, 1) := by decide +kernel
theorem dX1_swap_34 : decode cX1_swap 34 = .ok (.iload_n 2, 1) := by decide +kernel
theorem dX1_swap_35 : decode cX1_swap 35 = .ok (.iconst 4, 1) := by decide +kernel
theorem dX1_swap_36 : decode cX1_swap 36 = .ok (.invokevirtual 42, 3) := by decide +kernel
theorem dX1_swap_39 : decode cX1_swap 39 = .ok (.if_icmp .ne 9, 3) := by decide +kernel
theorem dX1_swap_42 : decode cX1_swap 42 = .ok (.aload_n 0, 1) := by decide +kernel
theorem dX1_swap_43 : decode cX1_swap 43 = .ok (.iconst 2, 1) := by decide +kernel
theorem dX1_swap_44 : decode cX1_swap 44 = .ok (.invokevirtual 46, 3) := by decide +kernel
theorem dX1_swap_47 : decode cX1_swap 47 = .ok (.ireturn, 1) := by decide +kernel
theorem dX1_swap_48 : decode cX1_swap 48 = .ok (.aload_n 0, 1) := by decide +kernel
theorem dX1_swap_49 : decode cX1_swap 49 = .ok (.iload_n 1, 1) := by decide +kernel
theorem dX1_swap_50 : decode cX1_swap 50 = .ok (.invokevirtual 83, 3) := by decide +kernel
theorem dX1_swap_53 : decode cX1_swap 53 = .ok (.ifCond .ne 11, 3) := by decide +kernel
theorem dX1_swap_56 : decode cX1_swap 56 = .ok (.aload_n 0, 1) := by decide +kernel
theorem dX1_swap_57 : decode cX1_swap 57 = .ok (.iload_n 2, 1) := by decide +kernel
theorem dX1_swap_58 : decode cX1_swap 58 = .ok (.invokevirtual 83, 3) := by decide +kernel
theorem dX1_swap_61 : decode cX1_swap 61 = .ok (.ifCond .eq 11, 3) := by decide +kernel
theorem dX1_swap_64 : decode cX1_swap 64 = .ok (.aload_n 0, 1) := by decide +kernel
theorem dX1_swap_65 : decode cX1_swap 65 = .ok (.iconst 3, 1) := by decide +kernel
theorem dX1_swap_66 : decode cX1_swap 66 = .ok (.invokevirtual 46, 3) := by decide +kernel
theorem dX1_swap_69 : decode cX1_swap 69 = .ok (.goto 9, 3) := by decide +kernel
theorem dX1_swap_72 : decode cX1_swap 72 = .ok (.aload_n 0, 1) := by decide +kernel
theorem dX1_swap_73 : decode cX1_swap 73 = .ok (.iload_n 1, 1) := by decide +kernel
theorem dX1_swap_74 : decode cX1_swap 74 = .ok (.iload_n 2, 1) := by decide +kernel
theorem dX1_swap_75 : decode cX1_swap 75 = .ok (.invokevirtual 116, 3) := by decide +kernel
theorem dX1_swap_78 : decode cX1_swap 78 = .ok (.ireturn, 1) := by decide +kernel
set_option maxRecDepth 20000 in
theorem ggX1_bestOf_X1_th : GoodIn wsX1_bestOf wsX1_th := goodIn_r _ [6, 7, 58, 59, 60, 61, 62, 63, 64, 65, 66] (by decide +kernel) (by decide +kernel)
set_option maxRecDepth 20000 in
theorem gX1_bestOf_X1_th : GoodIn wsX1_bestOf (wsV RX1 42 RX1 yX1_th wsX1_th) := goodIn_app (goodIn_of _ (by decide +kernel)) ggX1_bestOf_X1_th
set_option maxRecDepth 20000 in
theorem ggX1_bestOf_X1_isLent : GoodIn wsX1_bestOf wsX1_isLent := goodIn_r _ [11, 2, 3, 4, 5, 6, 7, 58, 59, 60, 61, 62, 63, 64, 65, 66] (by decide +kernel) (by decide +kernel)
set_option maxRecDepth 20000 in
theorem gX1_bestOf_X1_isLent : GoodIn wsX1_bestOf (wsV RX1 83 RX1 yX1_isLent wsX1_isLent) := goodIn_app (goodIn_of _ (by decide +kernel)) ggX1_bestOf_X1_isLent
set_option maxRecDepth 20000 in
theorem ggX1_bestOf_X1_isEnough : GoodIn wsX1_bestOf wsX1_isEnough := goodIn_r _ [15, 16, 17, 18, 19, 5, 20, 2, 3, 4, 6, 7, 21, 22, 23, 24, 25, 26, 27, 28, 29, 1, 30, 31, 32, 33, 34, 35, 36, 37, 38, 39, 40, 41, 42, 43, 44, 45, 46, 47, 48, 49, 50, 51, 52, 53, 54, 55, 56, 57, 58, 59, 60, 61, 62, 63, 64, 65, 66] (by decide +kernel) (by decide +kernel)
set_option maxRecDepth 20000 in
theorem gX1_bestOf_X1_isEnough : GoodIn wsX1_bestOf (wsV RX1 109 RX1 yX1_isEnough wsX1_isEnough) := goodIn_app (goodIn_of _ (by decide +kernel)) ggX1_bestOf_X1_isEnough
set_option maxRecDepth 20000 in
theorem ggX1_bestOf_X1_gain : GoodIn wsX1_bestOf wsX1_gain := goodIn_r _ [20, 2, 3, 4, 5, 6, 7, 21, 22, 23, 24, 25, 26, 27, 28, 29, 1, 30, 31, 32, 33, 34, 35, 36, 37, 38, 39, 40, 41, 42, 43, 44, 45, 46, 47, 48, 49, 50, 51, 52, 53, 54, 55, 56, 57, 58, 59, 60, 61, 62, 63, 64, 65, 66] (by decide +kernel) (by decide +kernel)
set_option maxRecDepth 20000 in
theorem gX1_bestOf_X1_gain : GoodIn wsX1_bestOf (wsV RX1 103 RX1 yX1_gain wsX1_gain) := goodIn_app (goodIn_of _ (by decide +kernel)) ggX1_bestOf_X1_gain
theorem dX1_bestOf_0 : decode cX1_bestOf 0 = .ok (.iconst (-1), 1) := by decide +kernel
theorem dX1_bestOf_1 : decode cX1_bestOf 1 = .ok (.istore_n 3, 1) := by decide +kernel
theorem dX1_bestOf_2 : decode cX1_bestOf 2 = .ok (.iconst 0, 1) := by decide +kernel
theorem dX1_bestOf_3 : decode cX1_bestOf 3 = .ok (.istore 4, 2) := by decide +kernel
theorem dX1_bestOf_5 : decode cX1_bestOf 5 = .ok (.iconst 0, 1) := by decide +kernel
theorem dX1_bestOf_6 : decode cX1_bestOf 6 = .ok (.istore 5, 2) := by decide +kernel
theorem dX1_bestOf_8 : decode cX1_bestOf 8 = .ok (.iload 5, 2) := by decide +kernel
theorem dX1_bestOf_10 : decode cX1_bestOf 10 = .ok (.aload_n 0, 1) := by decide +kernel
theorem dX1_bestOf_11 : decode cX1_bestOf 11 = .ok (.getfield 39, 3) := by decide +kernel
theorem dX1_bestOf_14 : decode cX1_bestOf 14 = .ok (.if_icmp .ge 142, 3) := by decide +kernel
theorem dX1_bestOf_17 : decode cX1_bestOf 17 = .ok (.aload_n 0, 1) := by decide +kernel
theorem dX1_bestOf_18 : decode cX1_bestOf 18 = .ok (.iload 5, 2) := by decide +kernel
theorem dX1_bestOf_20 : decode cX1_bestOf 20 = .ok (.iconst 4, 1) := by decide +kernel
theorem dX1_bestOf_21 : decode cX1_bestOf 21 = .ok (.invokevirtual 42, 3) := by decide +kernel
theorem dX1_bestOf_24 : decode cX1_bestOf 24 = .ok (.iload_n 1, 1) := by decide +kernel
theorem dX1_bestOf_25 : decode cX1_bestOf 25 = .ok (.if_icmp .ne 125, 3) := by decide +kernel
theorem dX1_bestOf_28 : decode cX1_bestOf 28 = .ok (.aload_n 0, 1) := by decide +kernel
theorem dX1_bestOf_29 : decode cX1_bestOf 29 = .ok (.iload 5, 2) := by decide +kernel
theorem dX1_bestOf_31 : decode cX1_bestOf 31 = .ok (.invokevirtual 83, 3) := by decide +kernel
theorem dX1_bestOf_34 : decode cX1_bestOf 34 = .ok (.ifCond .eq 6, 3) := by decide +kernel
theorem dX1_bestOf_37 : decode cX1_bestOf 37 = .ok (.goto 113, 3) := by decide +kernel
theorem dX1_bestOf_40 : decode cX1_bestOf 40 = .ok (.iconst 0, 1) := by decide +kernel
theorem dX1_bestOf_41 : decode cX1_bestOf 41 = .ok (.istore 6, 2) := by decide +kernel
theorem dX1_bestOf_43 : decode cX1_bestOf 43 = .ok (.iload 6, 2) := by decide +kernel
theorem dX1_bestOf_45 : decode cX1_bestOf 45 = .ok (.aload_n 0, 1) := by decide +kernel
theorem dX1_bestOf_46 : decode cX1_bestOf 46 = .ok (.getfield 39, 3) := by decide +kernel
theorem dX1_bestOf_49 : decode cX1_bestOf 49 = .ok (.if_icmp .ge 101, 3) := by decide +kernel
theorem dX1_bestOf_52 : decode cX1_bestOf 52 = .ok (.aload_n 0, 1) := by decide +kernel
theorem dX1_bestOf_53 : decode cX1_bestOf 53 = .ok (.iload 6, 2) := by decide +kernel
theorem dX1_bestOf_55 : decode cX1_bestOf 55 = .ok (.iconst 4, 1) := by decide +kernel
theorem dX1_bestOf_56 : decode cX1_bestOf 56 = .ok (.invokevirtual 42, 3) := by decide +kernel
theorem dX1_bestOf_59 : decode cX1_bestOf 59 = .ok (.iload_n 2, 1) := by decide +kernel
theorem dX1_bestOf_60 : decode cX1_bestOf 60 = .ok (.if_icmp .ne 84, 3) := by decide +kernel
theorem dX1_bestOf_63 : decode cX1_bestOf 63 = .ok (.aload_n 0, 1) := by decide +kernel
theorem dX1_bestOf_64 : decode cX1_bestOf 64 = .ok (.iload 6, 2) := by decide +kernel
theorem dX1_bestOf_66 : decode cX1_bestOf 66 = .ok (.invokevirtual 83, 3) := by decide +kernel
theorem dX1_bestOf_69 : decode cX1_bestOf 69 = .ok (.ifCond .ne 75, 3) := by decide +kernel
theorem dX1_bestOf_72 : decode cX1_bestOf 72 = .ok (.aload_n 0, 1) := by decide +kernel
theorem dX1_bestOf_73 : decode cX1_bestOf 73 = .ok (.iload 5, 2) := by decide +kernel
theorem dX1_bestOf_75 : decode cX1_bestOf 75 = .ok (.iload 6, 2) := by decide +kernel
theorem dX1_bestOf_77 : decode cX1_bestOf 77 = .ok (.invokevirtual 109, 3) := by decide +kernel
theorem dX1_bestOf_80 : decode cX1_bestOf 80 = .ok (.ifCond .eq 64, 3) := by decide +kernel
theorem dX1_bestOf_83 : decode cX1_bestOf 83 = .ok (.aload_n 0, 1) := by decide +kernel
theorem dX1_bestOf_84 : decode cX1_bestOf 84 = .ok (.iload 6, 2) := by decide +kernel
theorem dX1_bestOf_86 : decode cX1_bestOf 86 = .ok (.iload 5, 2) := by decide +kernel
theorem dX1_bestOf_88 : decode cX1_bestOf 88 = .ok (.invokevirtual 109, 3) := by decide +kernel
theorem dX1_bestOf_91 : decode cX1_bestOf 91 = .ok (.ifCond .ne 6, 3) := by decide +kernel
theorem dX1_bestOf_94 : decode cX1_bestOf 94 = .ok (.goto 50, 3) := by decide +kernel
theorem dX1_bestOf_97 : decode cX1_bestOf 97 = .ok (.aload_n 0, 1) := by decide +kernel
theorem dX1_bestOf_98 : decode cX1_bestOf 98 = .ok (.iload 5, 2) := by decide +kernel
theorem dX1_bestOf_100 : decode cX1_bestOf 100 = .ok (.iload 6, 2) := by decide +kernel
theorem dX1_bestOf_102 : decode cX1_bestOf 102 = .ok (.invokevirtual 103, 3) := by decide +kernel
theorem dX1_bestOf_105 : decode cX1_bestOf 105 = .ok (.aload_n 0, 1) := by decide +kernel
theorem dX1_bestOf_106 : decode cX1_bestOf 106 = .ok (.iload 6, 2) := by decide +kernel
theorem dX1_bestOf_108 : decode cX1_bestOf 108 = .ok (.iload 5, 2) := by decide +kernel
theorem dX1_bestOf_110 : decode cX1_bestOf 110 = .ok (.invokevirtual 103, 3) := by decide +kernel
theorem dX1_bestOf_113 : decode cX1_bestOf 113 = .ok (.iadd, 1) := by decide +kernel
theorem dX1_bestOf_114 : decode cX1_bestOf 114 = .ok (.istore 7, 2) := by decide +kernel
theorem dX1_bestOf_116 : decode cX1_bestOf 116 = .ok (.iload_n 3, 1) := by decide +kernel
theorem dX1_bestOf_117 : decode cX1_bestOf 117 = .ok (.iconst (-1), 1) := by decide +kernel
theorem dX1_bestOf_118 : decode cX1_bestOf 118 = .ok (.if_icmp .eq 13, 3) := by decide +kernel
theorem dX1_bestOf_121 : decode cX1_bestOf 121 = .ok (.iload 7, 2) := by decide +kernel
theorem dX1_bestOf_123 : decode cX1_bestOf 123 = .ok (.iload 4, 2) := by decide +kernel
theorem dX1_bestOf_125 : decode cX1_bestOf 125 = .ok (.if_icmp .gt 6, 3) := by decide +kernel
theorem dX1_bestOf_128 : decode cX1_bestOf 128 = .ok (.goto 16, 3) := by decide +kernel
theorem dX1_bestOf_131 : decode cX1_bestOf 131 = .ok (.bipush 36, 2) := by decide +kernel
theorem dX1_bestOf_133 : decode cX1_bestOf 133 = .ok (.iload 5, 2) := by decide +kernel
theorem dX1_bestOf_135 : decode cX1_bestOf 135 = .ok (.imul, 1) := by decide +kernel
theorem dX1_bestOf_136 : decode cX1_bestOf 136 = .ok (.iload 6, 2) := by decide +kernel
theorem dX1_bestOf_138 : decode cX1_bestOf 138 = .ok (.iadd, 1) := by decide +kernel
theorem dX1_bestOf_139 : decode cX1_bestOf 139 = .ok (.istore_n 3, 1) := by decide +kernel
theorem dX1_bestOf_140 : decode cX1_bestOf 140 = .ok (.iload 7, 2) := by decide +kernel
theorem dX1_bestOf_142 : decode cX1_bestOf 142 = .ok (.istore 4, 2) := by decide +kernel
theorem dX1_bestOf_144 : decode cX1_bestOf 144 = .ok (.iinc 6 1, 3) := by decide +kernel
theorem dX1_bestOf_147 : decode cX1_bestOf 147 = .ok (.goto (-104), 3) := by decide +kernel
theorem dX1_bestOf_150 : decode cX1_bestOf 150 = .ok (.iinc 5 1, 3) := by decide +kernel
theorem dX1_bestOf_153 : decode cX1_bestOf 153 = .ok (.goto (-145), 3) := by decide +kernel
theorem dX1_bestOf_156 : decode cX1_bestOf 156 = .ok (.iload_n 3, 1) := by decide +kernel
theorem dX1_bestOf_157 : decode cX1_bestOf 157 = .ok (.ireturn, 1) := by decide +kernel
set_option maxRecDepth 20000 in
theorem ggX1_best_X1_isCollector : GoodIn wsX1_best wsX1_isCollector := goodIn_r _ [6, 7, 8, 9, 5, 10, 75, 76, 77, 78, 79, 80, 81, 82, 83] (by decide +kernel) (by decide +kernel)
set_option maxRecDepth 20000 in
theorem gX1_best_X1_isCollector : GoodIn wsX1_best (wsV RX1 50 RX1 yX1_isCollector wsX1_isCollector) := goodIn_app (goodIn_of _ (by decide +kernel)) ggX1_best_X1_isCollector
set_option maxRecDepth 20000 in
theorem ggX1_best_X1_fail : GoodIn wsX1_best wsX1_fail := goodIn_r _ [14, 1, 75, 76, 77, 78, 79, 80, 81, 82, 83] (by decide +kernel) (by decide +kernel)
set_option maxRecDepth 20000 in
theorem gX1_best_X1_fail : GoodIn wsX1_best (wsV RX1 46 RX1 yX1_fail wsX1_fail) := goodIn_app (goodIn_of _ (by decide +kernel)) ggX1_best_X1_fail
set_option maxRecDepth 20000 in
theorem ggX1_best_X1_bestOf : GoodIn wsX1_best wsX1_bestOf := goodIn_r _ [18, 19, 20, 21, 22, 5, 23, 24, 25, 26, 27, 28, 29, 30, 31, 32, 33, 34, 35, 36, 37, 38, 39, 40, 41, 42, 43, 44, 45, 46, 47, 48, 49, 50, 51, 52, 53, 54, 55, 56, 57, 58, 59, 60, 61, 62, 63, 64, 65, 66, 67, 68, 69, 70, 71, 72, 73, 74, 75, 76, 77, 78, 79, 80, 81, 82, 83] (by decide +kernel) (by decide +kernel)
set_option maxRecDepth 20000 in
theorem gX1_best_X1_bestOf : GoodIn wsX1_best (wsV RX1 119 RX1 yX1_bestOf wsX1_bestOf) := goodIn_app (goodIn_of _ (by decide +kernel)) ggX1_best_X1_bestOf
theorem dX1_best_0 : decode cX1_best 0 = .ok (.aload_n 0, 1) := by decide +kernel
theorem dX1_best_1 : decode cX1_best 1 = .ok (.iconst 0, 1) := by decide +kernel
theorem dX1_best_2 : decode cX1_best 2 = .ok (.putfield 28, 3) := by decide +kernel
theorem dX1_best_5 : decode cX1_best 5 = .ok (.aload_n 0, 1) := by decide +kernel
theorem dX1_best_6 : decode cX1_best 6 = .ok (.iload_n 1, 1) := by decide +kernel
theorem dX1_best_7 : decode cX1_best 7 = .ok (.invokevirtual 50, 3) := by decide +kernel
theorem dX1_best_10 : decode cX1_best 10 = .ok (.ifCond .eq 11, 3) := by decide +kernel
theorem dX1_best_13 : decode cX1_best 13 = .ok (.aload_n 0, 1) := by decide +kernel
theorem dX1_best_14 : decode cX1_best 14 = .ok (.iload_n 2, 1) := by decide +kernel
theorem dX1_best_15 : decode cX1_best 15 = .ok (.invokevirtual 50, 3) := by decide +kernel
theorem dX1_best_18 : decode cX1_best 18 = .ok (.ifCond .ne 9, 3) := by decide +kernel
theorem dX1_best_21 : decode cX1_best 21 = .ok (.aload_n 0, 1) := by decide +kernel
theorem dX1_best_22 : decode cX1_best 22 = .ok (.iconst 1, 1) := by decide +kernel
theorem dX1_best_23 : decode cX1_best 23 = .ok (.invokevirtual 46, 3) := by decide +kernel
theorem dX1_best_26 : decode cX1_best 26 = .ok (.ireturn, 1) := by decide +kernel
theorem dX1_best_27 : decode cX1_best 27 = .ok (.iload_n 1, 1) := by decide +kernel
theorem dX1_best_28 : decode cX1_best 28 = .ok (.iload_n 2, 1) := by decide +kernel
theorem dX1_best_29 : decode cX1_best 29 = .ok (.if_icmp .ne 11, 3) := by decide +kernel
theorem dX1_best_32 : decode cX1_best 32 = .ok (.aload_n 0, 1) := by decide +kernel
theorem dX1_best_33 : decode cX1_best 33 = .ok (.iconst 2, 1) := by decide +kernel
theorem dX1_best_34 : decode cX1_best 34 = .ok (.invokevirtual 46, 3) := by decide +kernel
theorem dX1_best_37 : decode cX1_best 37 = .ok (.goto 9, 3) := by decide +kernel
theorem dX1_best_40 : decode cX1_best 40 = .ok (.aload_n 0, 1) := by decide +kernel
theorem dX1_best_41 : decode cX1_best 41 = .ok (.iload_n 1, 1) := by decide +kernel
theorem dX1_best_42 : decode cX1_best 42 = .ok (.iload_n 2, 1) := by decide +kernel
theorem dX1_best_43 : decode cX1_best 43 = .ok (.invokevirtual 119, 3) := by decide +kernel
theorem dX1_best_46 : decode cX1_best 46 = .ok (.ireturn, 1) := by decide +kernel
set_option maxRecDepth 20000 in
theorem ggX1_ring_X1_isThimble : GoodIn wsX1_ring wsX1_isThimble := goodIn_r _ [7, 8, 9, 10, 6, 11, 62, 63, 64, 65, 66, 67, 68, 69, 70] (by decide +kernel) (by decide +kernel)
set_option maxRecDepth 20000 in
theorem gX1_ring_X1_isThimble : GoodIn wsX1_ring (wsV RX1 92 RX1 yX1_isThimble wsX1_isThimble) := goodIn_app (goodIn_of _ (by decide +kernel)) ggX1_ring_X1_isThimble
set_option maxRecDepth 20000 in
theorem ggX1_ring_X1_fail : GoodIn wsX1_ring wsX1_fail := goodIn_r _ [15, 1, 62, 63, 64, 65, 66, 67, 68, 69, 70] (by decide +kernel) (by decide +kernel)
set_option maxRecDepth 20000 in
theorem gX1_ring_X1_fail : GoodIn wsX1_ring (wsV RX1 46 RX1 yX1_fail wsX1_fail) := goodIn_app (goodIn_of _ (by decide +kernel)) ggX1_ring_X1_fail
set_option maxRecDepth 20000 in
theorem ggX1_ring_X1_th : GoodIn wsX1_ring wsX1_th := goodIn_r _ [19, 20, 62, 63, 64, 65, 66, 67, 68, 69, 70] (by decide +kernel) (by decide +kernel)
set_option maxRecDepth 20000 in
theorem gX1_ring_X1_th : GoodIn wsX1_ring (wsV RX1 42 RX1 yX1_th wsX1_th) := goodIn_app (goodIn_of _ (by decide +kernel)) ggX1_ring_X1_th
set_option maxRecDepth 20000 in
theorem ggX1_ring_X1_gain : GoodIn wsX1_ring wsX1_gain := goodIn_r _ [24, 16, 17, 18, 6, 19, 20, 25, 26, 27, 28, 29, 30, 31, 32, 33, 8, 34, 35, 36, 37, 38, 39, 40, 41, 42, 43, 44, 45, 46, 47, 48, 49, 50, 51, 52, 53, 54, 55, 56, 57, 58, 59, 60, 61, 62, 63, 64, 65, 66, 67, 68, 69, 70] (by decide +kernel) (by decide +kernel)
set_option maxRecDepth 20000 in
theorem gX1_ring_X1_gain : GoodIn wsX1_ring (wsV RX1 103 RX1 yX1_gain wsX1_gain) := goodIn_app (goodIn_of _ (by decide +kernel)) ggX1_ring_X1_gain
theorem dX1_ring_0 : decode cX1_ring 0 = .ok (.aload_n 0, 1) := by decide +kernel
theorem dX1_ring_1 : decode cX1_ring 1 = .ok (.iconst 0, 1) := by decide +kernel
theorem dX1_ring_2 : decode cX1_ring 2 = .ok (.putfield 28, 3) := by decide +kernel
theorem dX1_ring_5 : decode cX1_ring 5 = .ok (.aload_n 0, 1) := by decide +kernel
theorem dX1_ring_6 : decode cX1_ring 6 = .ok (.iload_n 1, 1) := by decide +kernel
theorem dX1_ring_7 : decode cX1_ring 7 = .ok (.invokevirtual 92, 3) := by decide +kernel
theorem dX1_ring_10 : decode cX1_ring 10 = .ok (.ifCond .eq 19, 3) := by decide +kernel
theorem dX1_ring_13 : decode cX1_ring 13 = .ok (.aload_n 0, 1) := by decide +kernel
theorem dX1_ring_14 : decode cX1_ring 14 = .ok (.iload_n 2, 1) := by decide +kernel
theorem dX1_ring_15 : decode cX1_ring 15 = .ok (.invokevirtual 92, 3) := by decide +kernel
theorem dX1_ring_18 : decode cX1_ring 18 = .ok (.ifCond .eq 11, 3) := by decide +kernel
theorem dX1_ring_21 : decode cX1_ring 21 = .ok (.aload_n 0, 1) := by decide +kernel
theorem dX1_ring_22 : decode cX1_ring 22 = .ok (.iload_n 3, 1) := by decide +kernel
theorem dX1_ring_23 : decode cX1_ring 23 = .ok (.invokevirtual 92, 3) := by decide +kernel
theorem dX1_ring_26 : decode cX1_ring 26 = .ok (.ifCond .ne 9, 3) := by decide +kernel
theorem dX1_ring_29 : decode cX1_ring 29 = .ok (.aload_n 0, 1) := by decide +kernel
theorem dX1_ring_30 : decode cX1_ring 30 = .ok (.iconst 1, 1) := by decide +kernel
theorem dX1_ring_31 : decode cX1_ring 31 = .ok (.invokevirtual 46, 3) := by decide +kernel
theorem dX1_ring_34 : decode cX1_ring 34 = .ok (.ireturn, 1) := by decide +kernel
theorem dX1_ring_35 : decode cX1_ring 35 = .ok (.aload_n 0, 1) := by decide +kernel
theorem dX1_ring_36 : decode cX1_ring 36 = .ok (.iload_n 1, 1) := by decide +kernel
theorem dX1_ring_37 : decode cX1_ring 37 = .ok (.iconst 4, 1) := by decide +kernel
theorem dX1_ring_38 : decode cX1_ring 38 = .ok (.invokevirtual 42, 3) := by decide +kernel
theorem dX1_ring_41 : decode cX1_ring 41 = .ok (.aload_n 0, 1) := by decide +kernel
theorem dX1_ring_42 : decode cX1_ring 42 = .ok (.iload_n 2, 1) := by decide +kernel
theorem dX1_ring_43 : decode cX1_ring 43 = .ok (.iconst 4, 1) := by decide +kernel
theorem dX1_ring_44 : decode cX1_ring 44 = .ok (.invokevirtual 42, 3) := by decide +kernel
theorem dX1_ring_47 : decode cX1_ring 47 = .ok (.if_icmp .eq 33, 3) := by decide +kernel
theorem dX1_ring_50 : decode cX1_ring 50 = .ok (.aload_n 0, 1) := by decide +kernel
theorem dX1_ring_51 : decode cX1_ring 51 = .ok (.iload_n 1, 1) := by decide +kernel
theorem dX1_ring_52 : decode cX1_ring 52 = .ok (.iconst 4, 1) := by decide +kernel
theorem dX1_ring_53 : decode cX1_ring 53 = .ok (.invokevirtual 42, 3) := by decide +kernel
theorem dX1_ring_56 : decode cX1_ring 56 = .ok (.aload_n 0, 1) := by decide +kernel
theorem dX1_ring_57 : decode cX1_ring 57 = .ok (.iload_n 3, 1) := by decide +kernel
theorem dX1_ring_58 : decode cX1_ring 58 = .ok (.iconst 4, 1) := by decide +kernel
theorem dX1_ring_59 : decode cX1_ring 59 = .ok (.invokevirtual 42, 3) := by decide +kernel
theorem dX1_ring_62 : decode cX1_ring 62 = .ok (.if_icmp .eq 18, 3) := by decide +kernel
theorem dX1_ring_65 : decode cX1_ring 65 = .ok (.aload_n 0, 1) := by decide +kernel
theorem dX1_ring_66 : decode cX1_ring 66 = .ok (.iload_n 2, 1) := by decide +kernel
theorem dX1_ring_67 : decode cX1_ring 67 = .ok (.iconst 4, 1) := by decide +kernel
theorem dX1_ring_68 : decode cX1_ring 68 = .ok (.invokevirtual 42, 3) := by decide +kernel
theorem dX1_ring_71 : decode cX1_ring 71 = .ok (.aload_n 0, 1) := by decide +kernel
theorem dX1_ring_72 : decode cX1_ring 72 = .ok (.iload_n 3, 1) := by decide +kernel
theorem dX1_ring_73 : decode cX1_ring 73 = .ok (.iconst 4, 1) := by decide +kernel
theorem dX1_ring_74 : decode cX1_ring 74 = .ok (.invokevirtual 42, 3) := by decide +kernel
theorem dX1_ring_77 : decode cX1_ring 77 = .ok (.if_icmp .ne 9, 3) := by decide +kernel
theorem dX1_ring_80 : decode cX1_ring 80 = .ok (.aload_n 0, 1) := by decide +kernel
theorem dX1_ring_81 : decode cX1_ring 81 = .ok (.iconst 2, 1) := by decide +kernel
theorem dX1_ring_82 : decode cX1_ring 82 = .ok (.invokevirtual 46, 3) := by decide +kernel
theorem dX1_ring_85 : decode cX1_ring 85 = .ok (.ireturn, 1) := by decide +kernel
theorem dX1_ring_86 : decode cX1_ring 86 = .ok (.iconst 3, 1) := by decide +kernel
theorem dX1_ring_87 : decode cX1_ring 87 = .ok (.newarray .int, 2) := by decide +kernel
theorem dX1_ring_89 : decode cX1_ring 89 = .ok (.dup, 1) := by decide +kernel
theorem dX1_ring_90 : decode cX1_ring 90 = .ok (.iconst 0, 1) := by decide +kernel
theorem dX1_ring_91 : decode cX1_ring 91 = .ok (.iload_n 1, 1) := by decide +kernel
theorem dX1_ring_92 : decode cX1_ring 92 = .ok (.iastore, 1) := by decide +kernel
theorem dX1_ring_93 : decode cX1_ring 93 = .ok (.dup, 1) := by decide +kernel
theorem dX1_ring_94 : decode cX1_ring 94 = .ok (.iconst 1, 1) := by decide +kernel
theorem dX1_ring_95 : decode cX1_ring 95 = .ok (.iload_n 2, 1) := by decide +kernel
theorem dX1_ring_96 : decode cX1_ring 96 = .ok (.iastore, 1) := by decide +kernel
theorem dX1_ring_97 : decode cX1_ring 97 = .ok (.dup, 1) := by decide +kernel
theorem dX1_ring_98 : decode cX1_ring 98 = .ok (.iconst 2, 1) := by decide +kernel
theorem dX1_ring_99 : decode cX1_ring 99 = .ok (.iload_n 3, 1) := by decide +kernel
theorem dX1_ring_100 : decode cX1_ring 100 = .ok (.iastore, 1) := by decide +kernel
theorem dX1_ring_101 : decode cX1_ring 101 = .ok (.astore 4, 2) := by decide +kernel
theorem dX1_ring_103 : decode cX1_ring 103 = .ok (.iconst 0, 1) := by decide +kernel
theorem dX1_ring_104 : decode cX1_ring 104 = .ok (.istore 5, 2) := by decide +kernel
theorem dX1_ring_106 : decode cX1_ring 106 = .ok (.iconst 0, 1) := by decide +kernel
theorem dX1_ring_107 : decode cX1_ring 107 = .ok (.istore 6, 2) := by decide +kernel
theorem dX1_ring_109 : decode cX1_ring 109 = .ok (.iload 6, 2) := by decide +kernel
theorem dX1_ring_111 : decode cX1_ring 111 = .ok (.iconst 3, 1) := by decide +kernel
theorem dX1_ring_112 : decode cX1_ring 112 = .ok (.if_icmp .ge 40, 3) := by decide +kernel
theorem dX1_ring_115 : decode cX1_ring 115 = .ok (.iload 5, 2) := by decide +kernel
theorem dX1_ring_117 : decode cX1_ring 117 = .ok (.aload_n 0, 1) := by decide +kernel
theorem dX1_ring_118 : decode cX1_ring 118 = .ok (.aload 4, 2) := by decide +kernel
theorem dX1_ring_120 : decode cX1_ring 120 = .ok (.iload 6, 2) := by decide +kernel
theorem dX1_ring_122 : decode cX1_ring 122 = .ok (.iaload, 1) := by decide +kernel
theorem dX1_ring_123 : decode cX1_ring 123 = .ok (.aload 4, 2) := by decide +kernel
theorem dX1_ring_125 : decode cX1_ring 125 = .ok (.iload 6, 2) := by decide +kernel
theorem dX1_ring_127 : decode cX1_ring 127 = .ok (.iconst 1, 1) := by decide +kernel
theorem dX1_ring_128 : decode cX1_ring 128 = .ok (.iadd, 1) := by decide +kernel
theorem dX1_ring_129 : decode cX1_ring 129 = .ok (.iconst 3, 1) := by decide +kernel
theorem dX1_ring_130 : decode cX1_ring 130 = .ok (.irem, 1) := by decide +kernel
theorem dX1_ring_131 : decode cX1_ring 131 = .ok (.iaload, 1) := by decide +kernel
theorem dX1_ring_132 : decode cX1_ring 132 = .ok (.invokevirtual 103, 3) := by decide +kernel
theorem dX1_ring_135 : decode cX1_ring 135 = .ok (.ifCond .le 7, 3) := by decide +kernel
theorem dX1_ring_138 : decode cX1_ring 138 = .ok (.iconst 1, 1) := by decide +kernel
theorem dX1_ring_139 : decode cX1_ring 139 = .ok (.goto 4, 3) := by decide +kernel
theorem dX1_ring_142 : decode cX1_ring 142 = .ok (.iconst 0, 1) := by decide +kernel
theorem dX1_ring_143 : decode cX1_ring 143 = .ok (.iadd, 1) := by decide +kernel
theorem dX1_ring_144 : decode cX1_ring 144 = .ok (.istore 5, 2) := by decide +kernel
theorem dX1_ring_146 : decode cX1_ring 146 = .ok (.iinc 6 1, 3) := by decide +kernel
theorem dX1_ring_149 : decode cX1_ring 149 = .ok (.goto (-40), 3) := by decide +kernel
theorem dX1_ring_152 : decode cX1_ring 152 = .ok (.iload 5, 2) := by decide +kernel
theorem dX1_ring_154 : decode cX1_ring 154 = .ok (.ireturn, 1) := by decide +kernel
set_option maxRecDepth 20000 in
theorem ggX1_swapsOnce_X1_bestOf : GoodIn wsX1_swapsOnce wsX1_bestOf := goodIn_r _ [6, 7, 8, 9, 10, 5, 11, 12, 13, 14, 15, 16, 17, 18, 19, 20, 21, 22, 23, 24, 25, 26, 27, 28, 29, 30, 31, 32, 33, 34, 35, 36, 37, 38, 39, 40, 41, 42, 43, 44, 45, 46, 47, 48, 49, 50, 51, 52, 53, 54, 55, 56, 57, 58, 59, 60, 61, 62, 76, 77, 78, 79, 80, 81, 82, 83, 84] (by decide +kernel) (by decide +kernel)
set_option maxRecDepth 20000 in
theorem gX1_swapsOnce_X1_bestOf : GoodIn wsX1_swapsOnce (wsV RX1 119 RX1 yX1_bestOf wsX1_bestOf) := goodIn_app (goodIn_of _ (by decide +kernel)) ggX1_swapsOnce_X1_bestOf
set_option maxRecDepth 20000 in
theorem ggX1_swapsOnce_X1_swapped : GoodIn wsX1_swapsOnce wsX1_swapped := goodIn_r _ [66, 67, 68, 8, 9, 10, 5, 11, 12, 17, 18, 19, 20, 21, 22, 23, 24, 25, 26, 27, 28, 29, 30, 31, 32, 33, 34, 7, 35, 36, 37, 38, 39, 40, 41, 42, 43, 44, 45, 46, 47, 48, 49, 50, 51, 52, 53, 54, 55, 56, 57, 58, 59, 60, 61, 62, 69, 70, 71, 72, 73, 74, 75, 76, 77, 78, 79, 80, 81, 82, 83, 84] (by decide +kernel) (by decide +kernel)
set_option maxRecDepth 20000 in
theorem gX1_swapsOnce_X1_swapped : GoodIn wsX1_swapsOnce (wsV RX1 116 RX1 yX1_swapped wsX1_swapped) := goodIn_app (goodIn_of _ (by decide +kernel)) ggX1_swapsOnce_X1_swapped
theorem dX1_swapsOnce_0 : decode cX1_swapsOnce 0 = .ok (.iconst 0, 1) := by decide +kernel
theorem dX1_swapsOnce_1 : decode cX1_swapsOnce 1 = .ok (.istore_n 1, 1) := by decide +kernel
theorem dX1_swapsOnce_2 : decode cX1_swapsOnce 2 = .ok (.iload_n 1, 1) := by decide +kernel
theorem dX1_swapsOnce_3 : decode cX1_swapsOnce 3 = .ok (.aload_n 0, 1) := by decide +kernel
theorem dX1_swapsOnce_4 : decode cX1_swapsOnce 4 = .ok (.getfield 32, 3) := by decide +kernel
theorem dX1_swapsOnce_7 : decode cX1_swapsOnce 7 = .ok (.if_icmp .ge 57, 3) := by decide +kernel
theorem dX1_swapsOnce_10 : decode cX1_swapsOnce 10 = .ok (.iload_n 1, 1) := by decide +kernel
theorem dX1_swapsOnce_11 : decode cX1_swapsOnce 11 = .ok (.iconst 1, 1) := by decide +kernel
theorem dX1_swapsOnce_12 : decode cX1_swapsOnce 12 = .ok (.iadd, 1) := by decide +kernel
theorem dX1_swapsOnce_13 : decode cX1_swapsOnce 13 = .ok (.istore_n 2, 1) := by decide +kernel
theorem dX1_swapsOnce_14 : decode cX1_swapsOnce 14 = .ok (.iload_n 2, 1) := by decide +kernel
theorem dX1_swapsOnce_15 : decode cX1_swapsOnce 15 = .ok (.aload_n 0, 1) := by decide +kernel
theorem dX1_swapsOnce_16 : decode cX1_swapsOnce 16 = .ok (.getfield 32, 3) := by decide +kernel
theorem dX1_swapsOnce_19 : decode cX1_swapsOnce 19 = .ok (.if_icmp .ge 39, 3) := by decide +kernel
theorem dX1_swapsOnce_22 : decode cX1_swapsOnce 22 = .ok (.aload_n 0, 1) := by decide +kernel
theorem dX1_swapsOnce_23 : decode cX1_swapsOnce 23 = .ok (.iload_n 1, 1) := by decide +kernel
theorem dX1_swapsOnce_24 : decode cX1_swapsOnce 24 = .ok (.iload_n 2, 1) := by decide +kernel
theorem dX1_swapsOnce_25 : decode cX1_swapsOnce 25 = .ok (.invokevirtual 119, 3) := by decide +kernel
theorem dX1_swapsOnce_28 : decode cX1_swapsOnce 28 = .ok (.istore_n 3, 1) := by decide +kernel
theorem dX1_swapsOnce_29 : decode cX1_swapsOnce 29 = .ok (.iload_n 3, 1) := by decide +kernel
theorem dX1_swapsOnce_30 : decode cX1_swapsOnce 30 = .ok (.iconst (-1), 1) := by decide +kernel
theorem dX1_swapsOnce_31 : decode cX1_swapsOnce 31 = .ok (.if_icmp .ne 6, 3) := by decide +kernel
theorem dX1_swapsOnce_34 : decode cX1_swapsOnce 34 = .ok (.goto 18, 3) := by decide +kernel
theorem dX1_swapsOnce_37 : decode cX1_swapsOnce 37 = .ok (.aload_n 0, 1) := by decide +kernel
theorem dX1_swapsOnce_38 : decode cX1_swapsOnce 38 = .ok (.iload_n 3, 1) := by decide +kernel
theorem dX1_swapsOnce_39 : decode cX1_swapsOnce 39 = .ok (.bipush 36, 2) := by decide +kernel
theorem dX1_swapsOnce_41 : decode cX1_swapsOnce 41 = .ok (.idiv, 1) := by decide +kernel
theorem dX1_swapsOnce_42 : decode cX1_swapsOnce 42 = .ok (.iload_n 3, 1) := by decide +kernel
theorem dX1_swapsOnce_43 : decode cX1_swapsOnce 43 = .ok (.bipush 36, 2) := by decide +kernel
theorem dX1_swapsOnce_45 : decode cX1_swapsOnce 45 = .ok (.irem, 1) := by decide +kernel
theorem dX1_swapsOnce_46 : decode cX1_swapsOnce 46 = .ok (.invokevirtual 116, 3) := by decide +kernel
theorem dX1_swapsOnce_49 : decode cX1_swapsOnce 49 = .ok (.pop, 1) := by decide +kernel
theorem dX1_swapsOnce_50 : decode cX1_swapsOnce 50 = .ok (.iconst 1, 1) := by decide +kernel
theorem dX1_swapsOnce_51 : decode cX1_swapsOnce 51 = .ok (.ireturn, 1) := by decide +kernel
theorem dX1_swapsOnce_52 : decode cX1_swapsOnce 52 = .ok (.iinc 2 1, 3) := by decide +kernel
theorem dX1_swapsOnce_55 : decode cX1_swapsOnce 55 = .ok (.goto (-41), 3) := by decide +kernel
theorem dX1_swapsOnce_58 : decode cX1_swapsOnce 58 = .ok (.iinc 1 1, 3) := by decide +kernel
theorem dX1_swapsOnce_61 : decode cX1_swapsOnce 61 = .ok (.goto (-59), 3) := by decide +kernel
theorem dX1_swapsOnce_64 : decode cX1_swapsOnce 64 = .ok (.iconst 0, 1) := by decide +kernel
theorem dX1_swapsOnce_65 : decode cX1_swapsOnce 65 = .ok (.ireturn, 1) := by decide +kernel
set_option maxRecDepth 20000 in
theorem ggX1_fair_X1_isIn : GoodIn wsX1_fair wsX1_isIn := goodIn_r _ [5] (by decide +kernel) (by decide +kernel)
set_option maxRecDepth 20000 in
theorem gX1_fair_X1_isIn : GoodIn wsX1_fair (va_wsS RX1 35 yX1_isIn wsX1_isIn) := goodIn_app (goodIn_of _ (by decide +kernel)) ggX1_fair_X1_isIn
set_option maxRecDepth 20000 in
theorem ggX1_fair_X1_fail : GoodIn wsX1_fair wsX1_fail := goodIn_r _ [9, 1, 88, 89, 90, 91, 92, 93, 94, 95, 96] (by decide +kernel) (by decide +kernel)
set_option maxRecDepth 20000 in
theorem gX1_fair_X1_fail : GoodIn wsX1_fair (wsV RX1 46 RX1 yX1_fail wsX1_fail) := goodIn_app (goodIn_of _ (by decide +kernel)) ggX1_fair_X1_fail
set_option maxRecDepth 20000 in
theorem ggX1_fair_X1_swapsOnce : GoodIn wsX1_fair wsX1_swapsOnce := goodIn_r _ [13, 14, 15, 16, 17, 4, 18, 19, 20, 21, 22, 23, 24, 25, 26, 27, 28, 29, 30, 31, 32, 33, 34, 35, 36, 37, 38, 39, 40, 41, 42, 43, 44, 45, 46, 47, 48, 49, 50, 51, 52, 53, 54, 55, 56, 57, 58, 59, 60, 61, 62, 63, 64, 65, 66, 67, 68, 69, 70, 71, 72, 73, 74, 75, 76, 77, 78, 79, 80, 81, 82, 83, 84, 85, 86, 87, 88, 89, 90, 91, 92, 93, 94, 95, 96] (by decide +kernel) (by decide +kernel)
set_option maxRecDepth 20000 in
theorem gX1_fair_X1_swapsOnce : GoodIn wsX1_fair (wsV RX1 122 RX1 yX1_swapsOnce wsX1_swapsOnce) := goodIn_app (goodIn_of _ (by decide +kernel)) ggX1_fair_X1_swapsOnce
theorem dX1_fair_0 : decode cX1_fair 0 = .ok (.aload_n 0, 1) := by decide +kernel
theorem dX1_fair_1 : decode cX1_fair 1 = .ok (.iconst 0, 1) := by decide +kernel
theorem dX1_fair_2 : decode cX1_fair 2 = .ok (.putfield 28, 3) := by decide +kernel
theorem dX1_fair_5 : decode cX1_fair 5 = .ok (.iload_n 1, 1) := by decide +kernel
theorem dX1_fair_6 : decode cX1_fair 6 = .ok (.iconst 1, 1) := by decide +kernel
theorem dX1_fair_7 : decode cX1_fair 7 = .ok (.bipush 10, 2) := by decide +kernel
theorem dX1_fair_9 : decode cX1_fair 9 = .ok (.invokestatic 35, 3) := by decide +kernel
theorem dX1_fair_12 : decode cX1_fair 12 = .ok (.ifCond .ne 9, 3) := by decide +kernel
theorem dX1_fair_15 : decode cX1_fair 15 = .ok (.aload_n 0, 1) := by decide +kernel
theorem dX1_fair_16 : decode cX1_fair 16 = .ok (.iconst 1, 1) := by decide +kernel
theorem dX1_fair_17 : decode cX1_fair 17 = .ok (.invokevirtual 46, 3) := by decide +kernel
theorem dX1_fair_20 : decode cX1_fair 20 = .ok (.ireturn, 1) := by decide +kernel
theorem dX1_fair_21 : decode cX1_fair 21 = .ok (.iconst 0, 1) := by decide +kernel
theorem dX1_fair_22 : decode cX1_fair 22 = .ok (.istore_n 2, 1) := by decide +kernel
theorem dX1_fair_23 : decode cX1_fair 23 = .ok (.iload_n 2, 1) := by decide +kernel
theorem dX1_fair_24 : decode cX1_fair 24 = .ok (.iload_n 1, 1) := by decide +kernel
theorem dX1_fair_25 : decode cX1_fair 25 = .ok (.if_icmp .ge 16, 3) := by decide +kernel
theorem dX1_fair_28 : decode cX1_fair 28 = .ok (.aload_n 0, 1) := by decide +kernel
theorem dX1_fair_29 : decode cX1_fair 29 = .ok (.invokevirtual 122, 3) := by decide +kernel
theorem dX1_fair_32 : decode cX1_fair 32 = .ok (.ifCond .eq 9, 3) := by decide +kernel
theorem dX1_fair_35 : decode cX1_fair 35 = .ok (.iinc 2 1, 3) := by decide +kernel
theorem dX1_fair_38 : decode cX1_fair 38 = .ok (.goto (-15), 3) := by decide +kernel
theorem dX1_fair_41 : decode cX1_fair 41 = .ok (.iload_n 2, 1) := by decide +kernel
theorem dX1_fair_42 : decode cX1_fair 42 = .ok (.ireturn, 1) := by decide +kernel
set_option maxRecDepth 20000 in
theorem ggX1_lend_X1_isThimble : GoodIn wsX1_lend wsX1_isThimble := goodIn_r _ [7, 8, 9, 10, 6, 11, 29, 30, 31, 32, 33, 34, 35, 36, 37] (by decide +kernel) (by decide +kernel)
set_option maxRecDepth 20000 in
theorem gX1_lend_X1_isThimble : GoodIn wsX1_lend (wsV RX1 92 RX1 yX1_isThimble wsX1_isThimble) := goodIn_app (goodIn_of _ (by decide +kernel)) ggX1_lend_X1_isThimble
set_option maxRecDepth 20000 in
theorem ggX1_lend_X1_fail : GoodIn wsX1_lend wsX1_fail := goodIn_r _ [15, 1, 29, 30, 31, 32, 33, 34, 35, 36, 37] (by decide +kernel) (by decide +kernel)
set_option maxRecDepth 20000 in
theorem gX1_lend_X1_fail : GoodIn wsX1_lend (wsV RX1 46 RX1 yX1_fail wsX1_fail) := goodIn_app (goodIn_of _ (by decide +kernel)) ggX1_lend_X1_fail
set_option maxRecDepth 20000 in
theorem ggX1_lend_X1_isIn : GoodIn wsX1_lend wsX1_isIn := goodIn_r _ [11] (by decide +kernel) (by decide +kernel)
set_option maxRecDepth 20000 in
theorem gX1_lend_X1_isIn : GoodIn wsX1_lend (va_wsS RX1 35 yX1_isIn wsX1_isIn) := goodIn_app (goodIn_of _ (by decide +kernel)) ggX1_lend_X1_isIn
set_option maxRecDepth 20000 in
theorem ggX1_lend_X1_isLent : GoodIn wsX1_lend wsX1_isLent := goodIn_r _ [19, 20, 21, 22, 6, 23, 24, 29, 30, 31, 32, 33, 34, 35, 36, 37] (by decide +kernel) (by decide +kernel)
set_option maxRecDepth 20000 in
theorem gX1_lend_X1_isLent : GoodIn wsX1_lend (wsV RX1 83 RX1 yX1_isLent wsX1_isLent) := goodIn_app (goodIn_of _ (by decide +kernel)) ggX1_lend_X1_isLent
set_option maxRecDepth 20000 in
theorem ggX1_lend_X1_set : GoodIn wsX1_lend wsX1_set := goodIn_r _ [28, 24, 29, 30, 31, 32, 33, 34, 35, 36, 37] (by decide +kernel) (by decide +kernel)
set_option maxRecDepth 20000 in
theorem gX1_lend_X1_set : GoodIn wsX1_lend (wsV RX1 95 RX1 yX1_set wsX1_set) := goodIn_app (goodIn_of _ (by decide +kernel)) ggX1_lend_X1_set
set_option maxRecDepth 20000 in
theorem ggX1_lend_X1_th : GoodIn wsX1_lend wsX1_th := goodIn_r _ [23, 24, 29, 30, 31, 32, 33, 34, 35, 36, 37] (by decide +kernel) (by decide +kernel)
set_option maxRecDepth 20000 in
theorem gX1_lend_X1_th : GoodIn wsX1_lend (wsV RX1 42 RX1 yX1_th wsX1_th) := goodIn_app (goodIn_of _ (by decide +kernel)) ggX1_lend_X1_th
theorem dX1_lend_0 : decode cX1_lend 0 = .ok (.aload_n 0, 1) := by decide +kernel
theorem dX1_lend_1 : decode cX1_lend 1 = .ok (.iconst 0, 1) := by decide +kernel
theorem dX1_lend_2 : decode cX1_lend 2 = .ok (.putfield 28, 3) := by decide +kernel
theorem dX1_lend_5 : decode cX1_lend 5 = .ok (.aload_n 0, 1) := by decide +kernel
theorem dX1_lend_6 : decode cX1_lend 6 = .ok (.iload_n 1, 1) := by decide +kernel
theorem dX1_lend_7 : decode cX1_lend 7 = .ok (.invokevirtual 92, 3) := by decide +kernel
theorem dX1_lend_10 : decode cX1_lend 10 = .ok (.ifCond .ne 9, 3) := by decide +kernel
theorem dX1_lend_13 : decode cX1_lend 13 = .ok (.aload_n 0, 1) := by decide +kernel
theorem dX1_lend_14 : decode cX1_lend 14 = .ok (.iconst 1, 1) := by decide +kernel
theorem dX1_lend_15 : decode cX1_lend 15 = .ok (.invokevirtual 46, 3) := by decide +kernel
theorem dX1_lend_18 : decode cX1_lend 18 = .ok (.ireturn, 1) := by decide +kernel
theorem dX1_lend_19 : decode cX1_lend 19 = .ok (.iload_n 2, 1) := by decide +kernel
theorem dX1_lend_20 : decode cX1_lend 20 = .ok (.iconst 1, 1) := by decide +kernel
theorem dX1_lend_21 : decode cX1_lend 21 = .ok (.bipush 30, 2) := by decide +kernel
theorem dX1_lend_23 : decode cX1_lend 23 = .ok (.invokestatic 35, 3) := by decide +kernel
theorem dX1_lend_26 : decode cX1_lend 26 = .ok (.ifCond .ne 9, 3) := by decide +kernel
theorem dX1_lend_29 : decode cX1_lend 29 = .ok (.aload_n 0, 1) := by decide +kernel
theorem dX1_lend_30 : decode cX1_lend 30 = .ok (.iconst 2, 1) := by decide +kernel
theorem dX1_lend_31 : decode cX1_lend 31 = .ok (.invokevirtual 46, 3) := by decide +kernel
theorem dX1_lend_34 : decode cX1_lend 34 = .ok (.ireturn, 1) := by decide +kernel
theorem dX1_lend_35 : decode cX1_lend 35 = .ok (.aload_n 0, 1) := by decide +kernel
theorem dX1_lend_36 : decode cX1_lend 36 = .ok (.iload_n 1, 1) := by decide +kernel
theorem dX1_lend_37 : decode cX1_lend 37 = .ok (.invokevirtual 83, 3) := by decide +kernel
theorem dX1_lend_40 : decode cX1_lend 40 = .ok (.ifCond .eq 9, 3) := by decide +kernel
theorem dX1_lend_43 : decode cX1_lend 43 = .ok (.aload_n 0, 1) := by decide +kernel
theorem dX1_lend_44 : decode cX1_lend 44 = .ok (.iconst 3, 1) := by decide +kernel
theorem dX1_lend_45 : decode cX1_lend 45 = .ok (.invokevirtual 46, 3) := by decide +kernel
theorem dX1_lend_48 : decode cX1_lend 48 = .ok (.ireturn, 1) := by decide +kernel
theorem dX1_lend_49 : decode cX1_lend 49 = .ok (.aload_n 0, 1) := by decide +kernel
theorem dX1_lend_50 : decode cX1_lend 50 = .ok (.iload_n 1, 1) := by decide +kernel
theorem dX1_lend_51 : decode cX1_lend 51 = .ok (.iconst 5, 1) := by decide +kernel
theorem dX1_lend_52 : decode cX1_lend 52 = .ok (.aload_n 0, 1) := by decide +kernel
theorem dX1_lend_53 : decode cX1_lend 53 = .ok (.getfield 22, 3) := by decide +kernel
theorem dX1_lend_56 : decode cX1_lend 56 = .ok (.iconst 0, 1) := by decide +kernel
theorem dX1_lend_57 : decode cX1_lend 57 = .ok (.iaload, 1) := by decide +kernel
theorem dX1_lend_58 : decode cX1_lend 58 = .ok (.iload_n 2, 1) := by decide +kernel
theorem dX1_lend_59 : decode cX1_lend 59 = .ok (.iadd, 1) := by decide +kernel
theorem dX1_lend_60 : decode cX1_lend 60 = .ok (.invokevirtual 95, 3) := by decide +kernel
theorem dX1_lend_63 : decode cX1_lend 63 = .ok (.aload_n 0, 1) := by decide +kernel
theorem dX1_lend_64 : decode cX1_lend 64 = .ok (.iload_n 1, 1) := by decide +kernel
theorem dX1_lend_65 : decode cX1_lend 65 = .ok (.bipush 6, 2) := by decide +kernel
theorem dX1_lend_67 : decode cX1_lend 67 = .ok (.iload_n 2, 1) := by decide +kernel
theorem dX1_lend_68 : decode cX1_lend 68 = .ok (.invokevirtual 95, 3) := by decide +kernel
theorem dX1_lend_71 : decode cX1_lend 71 = .ok (.aload_n 0, 1) := by decide +kernel
theorem dX1_lend_72 : decode cX1_lend 72 = .ok (.iload_n 1, 1) := by decide +kernel
theorem dX1_lend_73 : decode cX1_lend 73 = .ok (.iconst 5, 1) := by decide +kernel
theorem dX1_lend_74 : decode cX1_lend 74 = .ok (.invokevirtual 42, 3) := by decide +kernel
theorem dX1_lend_77 : decode cX1_lend 77 = .ok (.ireturn, 1) := by decide +kernel
set_option maxRecDepth 20000 in
theorem ggX1_bits_X1_th : GoodIn wsX1_bits wsX1_th := goodIn_r _ [6, 7, 12, 13, 14, 15, 16, 17, 18, 19, 20] (by decide +kernel) (by decide +kernel)
set_option maxRecDepth 20000 in
theorem gX1_bits_X1_th : GoodIn wsX1_bits (wsV RX1 42 RX1 yX1_th wsX1_th) := goodIn_app (goodIn_of _ (by decide +kernel)) ggX1_bits_X1_th
set_option maxRecDepth 20000 in
theorem ggX1_bits_X1_isLent : GoodIn wsX1_bits wsX1_isLent := goodIn_r _ [11, 2, 3, 4, 5, 6, 7, 12, 13, 14, 15, 16, 17, 18, 19, 20] (by decide +kernel) (by decide +kernel)
set_option maxRecDepth 20000 in
theorem gX1_bits_X1_isLent : GoodIn wsX1_bits (wsV RX1 83 RX1 yX1_isLent wsX1_isLent) := goodIn_app (goodIn_of _ (by decide +kernel)) ggX1_bits_X1_isLent
theorem dX1_bits_0 : decode cX1_bits 0 = .ok (.iconst 0, 1) := by decide +kernel
theorem dX1_bits_1 : decode cX1_bits 1 = .ok (.istore_n 3, 1) := by decide +kernel
theorem dX1_bits_2 : decode cX1_bits 2 = .ok (.iconst 0, 1) := by decide +kernel
theorem dX1_bits_3 : decode cX1_bits 3 = .ok (.istore 4, 2) := by decide +kernel
theorem dX1_bits_5 : decode cX1_bits 5 = .ok (.iload 4, 2) := by decide +kernel
theorem dX1_bits_7 : decode cX1_bits 7 = .ok (.aload_n 0, 1) := by decide +kernel
theorem dX1_bits_8 : decode cX1_bits 8 = .ok (.getfield 39, 3) := by decide +kernel
theorem dX1_bits_11 : decode cX1_bits 11 = .ok (.if_icmp .ge 45, 3) := by decide +kernel
theorem dX1_bits_14 : decode cX1_bits 14 = .ok (.aload_n 0, 1) := by decide +kernel
theorem dX1_bits_15 : decode cX1_bits 15 = .ok (.iload 4, 2) := by decide +kernel
theorem dX1_bits_17 : decode cX1_bits 17 = .ok (.iconst 0, 1) := by decide +kernel
theorem dX1_bits_18 : decode cX1_bits 18 = .ok (.invokevirtual 42, 3) := by decide +kernel
theorem dX1_bits_21 : decode cX1_bits 21 = .ok (.iload_n 1, 1) := by decide +kernel
theorem dX1_bits_22 : decode cX1_bits 22 = .ok (.if_icmp .ne 28, 3) := by decide +kernel
theorem dX1_bits_25 : decode cX1_bits 25 = .ok (.iload_n 2, 1) := by decide +kernel
theorem dX1_bits_26 : decode cX1_bits 26 = .ok (.ifCond .eq 12, 3) := by decide +kernel
theorem dX1_bits_29 : decode cX1_bits 29 = .ok (.aload_n 0, 1) := by decide +kernel
theorem dX1_bits_30 : decode cX1_bits 30 = .ok (.iload 4, 2) := by decide +kernel
theorem dX1_bits_32 : decode cX1_bits 32 = .ok (.invokevirtual 83, 3) := by decide +kernel
theorem dX1_bits_35 : decode cX1_bits 35 = .ok (.ifCond .eq 15, 3) := by decide +kernel
theorem dX1_bits_38 : decode cX1_bits 38 = .ok (.iload_n 3, 1) := by decide +kernel
theorem dX1_bits_39 : decode cX1_bits 39 = .ok (.iconst 1, 1) := by decide +kernel
theorem dX1_bits_40 : decode cX1_bits 40 = .ok (.aload_n 0, 1) := by decide +kernel
theorem dX1_bits_41 : decode cX1_bits 41 = .ok (.iload 4, 2) := by decide +kernel
theorem dX1_bits_43 : decode cX1_bits 43 = .ok (.iconst 1, 1) := by decide +kernel
theorem dX1_bits_44 : decode cX1_bits 44 = .ok (.invokevirtual 42, 3) := by decide +kernel
theorem dX1_bits_47 : decode cX1_bits 47 = .ok (.ishl, 1) := by decide +kernel
theorem dX1_bits_48 : decode cX1_bits 48 = .ok (.ior, 1) := by decide +kernel
theorem dX1_bits_49 : decode cX1_bits 49 = .ok (.istore_n 3, 1) := by decide +kernel
theorem dX1_bits_50 : decode cX1_bits 50 = .ok (.iinc 4 1, 3) := by decide +kernel
theorem dX1_bits_53 : decode cX1_bits 53 = .ok (.goto (-48), 3) := by decide +kernel
theorem dX1_bits_56 : decode cX1_bits 56 = .ok (.iload_n 3, 1) := by decide +kernel
theorem dX1_bits_57 : decode cX1_bits 57 = .ok (.ireturn, 1) := by decide +kernel
set_option maxRecDepth 20000 in
theorem ggX1_shows_X1_isSet : GoodIn wsX1_shows wsX1_isSet := goodIn_r _ [5, 6, 7, 4, 8] (by decide +kernel) (by decide +kernel)
set_option maxRecDepth 20000 in
theorem gX1_shows_X1_isSet : GoodIn wsX1_shows (va_wsS RX1 54 yX1_isSet wsX1_isSet) := goodIn_app (goodIn_of _ (by decide +kernel)) ggX1_shows_X1_isSet
set_option maxRecDepth 20000 in
theorem ggX1_shows_X1_bits : GoodIn wsX1_shows wsX1_bits := goodIn_r _ [12, 13, 14, 15, 16, 4, 17, 18, 19, 20, 21, 22, 34, 35, 36, 37, 38, 39, 40, 41, 42] (by decide +kernel) (by decide +kernel)
set_option maxRecDepth 20000 in
theorem gX1_shows_X1_bits : GoodIn wsX1_shows (wsV RX1 126 RX1 yX1_bits wsX1_bits) := goodIn_app (goodIn_of _ (by decide +kernel)) ggX1_shows_X1_bits
set_option maxRecDepth 20000 in
theorem ggX1_shows_J6_bitCount_0f7a4 : GoodIn wsX1_shows wsJ6_bitCount_0f7a4 := goodIn_r _ [26, 27, 28, 29] (by decide +kernel) (by decide +kernel)
set_option maxRecDepth 20000 in
theorem gX1_shows_J6_bitCount_0f7a4 : GoodIn wsX1_shows (va_wsS RX1 68 yJ6_bitCount_0f7a4 wsJ6_bitCount_0f7a4) := goodIn_app (goodIn_of _ (by decide +kernel)) ggX1_shows_J6_bitCount_0f7a4
set_option maxRecDepth 20000 in
theorem ggX1_shows_X1_fail : GoodIn wsX1_shows wsX1_fail := goodIn_r _ [33, 1, 34, 35, 36, 37, 38, 39, 40, 41, 42] (by decide +kernel) (by decide +kernel)
set_option maxRecDepth 20000 in
theorem gX1_shows_X1_fail : GoodIn wsX1_shows (wsV RX1 46 RX1 yX1_fail wsX1_fail) := goodIn_app (goodIn_of _ (by decide +kernel)) ggX1_shows_X1_fail
theorem dX1_shows_0 : decode cX1_shows 0 = .ok (.aload_n 0, 1) := by decide +kernel
theorem dX1_shows_1 : decode cX1_shows 1 = .ok (.iconst 0, 1) := by decide +kernel
theorem dX1_shows_2 : decode cX1_shows 2 = .ok (.putfield 28, 3) := by decide +kernel
theorem dX1_shows_5 : decode cX1_shows 5 = .ok (.iload_n 1, 1) := by decide +kernel
theorem dX1_shows_6 : decode cX1_shows 6 = .ok (.invokestatic 54, 3) := by decide +kernel
theorem dX1_shows_9 : decode cX1_shows 9 = .ok (.ifCond .eq 15, 3) := by decide +kernel
theorem dX1_shows_12 : decode cX1_shows 12 = .ok (.aload_n 0, 1) := by decide +kernel
theorem dX1_shows_13 : decode cX1_shows 13 = .ok (.iload_n 1, 1) := by decide +kernel
theorem dX1_shows_14 : decode cX1_shows 14 = .ok (.iconst 1, 1) := by decide +kernel
theorem dX1_shows_15 : decode cX1_shows 15 = .ok (.invokevirtual 126, 3) := by decide +kernel
theorem dX1_shows_18 : decode cX1_shows 18 = .ok (.invokestatic 68, 3) := by decide +kernel
theorem dX1_shows_21 : decode cX1_shows 21 = .ok (.goto 8, 3) := by decide +kernel
theorem dX1_shows_24 : decode cX1_shows 24 = .ok (.aload_n 0, 1) := by decide +kernel
theorem dX1_shows_25 : decode cX1_shows 25 = .ok (.iconst 1, 1) := by decide +kernel
theorem dX1_shows_26 : decode cX1_shows 26 = .ok (.invokevirtual 46, 3) := by decide +kernel
theorem dX1_shows_29 : decode cX1_shows 29 = .ok (.ireturn, 1) := by decide +kernel
set_option maxRecDepth 20000 in
theorem ggX1_lacks_X1_isSet : GoodIn wsX1_lacks wsX1_isSet := goodIn_r _ [5, 6, 7, 4, 8] (by decide +kernel) (by decide +kernel)
set_option maxRecDepth 20000 in
theorem gX1_lacks_X1_isSet : GoodIn wsX1_lacks (va_wsS RX1 54 yX1_isSet wsX1_isSet) := goodIn_app (goodIn_of _ (by decide +kernel)) ggX1_lacks_X1_isSet
set_option maxRecDepth 20000 in
theorem ggX1_lacks_X1_fail : GoodIn wsX1_lacks wsX1_fail := goodIn_r _ [12, 1, 34, 35, 36, 37, 38, 39, 40, 41, 42] (by decide +kernel) (by decide +kernel)
set_option maxRecDepth 20000 in
theorem gX1_lacks_X1_fail : GoodIn wsX1_lacks (wsV RX1 46 RX1 yX1_fail wsX1_fail) := goodIn_app (goodIn_of _ (by decide +kernel)) ggX1_lacks_X1_fail
set_option maxRecDepth 20000 in
theorem ggX1_lacks_X1_bits : GoodIn wsX1_lacks wsX1_bits := goodIn_r _ [16, 17, 18, 19, 20, 4, 21, 22, 23, 24, 25, 26, 34, 35, 36, 37, 38, 39, 40, 41, 42] (by decide +kernel) (by decide +kernel)
set_option maxRecDepth 20000 in
theorem gX1_lacks_X1_bits : GoodIn wsX1_lacks (wsV RX1 126 RX1 yX1_bits wsX1_bits) := goodIn_app (goodIn_of _ (by decide +kernel)) ggX1_lacks_X1_bits
set_option maxRecDepth 20000 in
theorem ggX1_lacks_J6_bitCount_0f7a4 : GoodIn wsX1_lacks wsJ6_bitCount_0f7a4 := goodIn_r _ [30, 31, 32, 33] (by decide +kernel) (by decide +kernel)
set_option maxRecDepth 20000 in
theorem gX1_lacks_J6_bitCount_0f7a4 : GoodIn wsX1_lacks (va_wsS RX1 68 yJ6_bitCount_0f7a4 wsJ6_bitCount_0f7a4) := goodIn_app (goodIn_of _ (by decide +kernel)) ggX1_lacks_J6_bitCount_0f7a4
theorem dX1_lacks_0 : decode cX1_lacks 0 = .ok (.aload_n 0, 1) := by decide +kernel
theorem dX1_lacks_1 : decode cX1_lacks 1 = .ok (.iconst 0, 1) := by decide +kernel
theorem dX1_lacks_2 : decode cX1_lacks 2 = .ok (.putfield 28, 3) := by decide +kernel
theorem dX1_lacks_5 : decode cX1_lacks 5 = .ok (.iload_n 1, 1) := by decide +kernel
theorem dX1_lacks_6 : decode cX1_lacks 6 = .ok (.invokestatic 54, 3) := by decide +kernel
theorem dX1_lacks_9 : decode cX1_lacks 9 = .ok (.ifCond .ne 9, 3) := by decide +kernel
theorem dX1_lacks_12 : decode cX1_lacks 12 = .ok (.aload_n 0, 1) := by decide +kernel
theorem dX1_lacks_13 : decode cX1_lacks 13 = .ok (.iconst 1, 1) := by decide +kernel
theorem dX1_lacks_14 : decode cX1_lacks 14 = .ok (.invokevirtual 46, 3) := by decide +kernel
theorem dX1_lacks_17 : decode cX1_lacks 17 = .ok (.ireturn, 1) := by decide +kernel
theorem dX1_lacks_18 : decode cX1_lacks 18 = .ok (.aload_n 0, 1) := by decide +kernel
theorem dX1_lacks_19 : decode cX1_lacks 19 = .ok (.iload_n 1, 1) := by decide +kernel
theorem dX1_lacks_20 : decode cX1_lacks 20 = .ok (.iconst 0, 1) := by decide +kernel
theorem dX1_lacks_21 : decode cX1_lacks 21 = .ok (.invokevirtual 126, 3) := by decide +kernel
theorem dX1_lacks_24 : decode cX1_lacks 24 = .ok (.bipush 63, 2) := by decide +kernel
theorem dX1_lacks_26 : decode cX1_lacks 26 = .ok (.if_icmp .ne 18, 3) := by decide +kernel
theorem dX1_lacks_29 : decode cX1_lacks 29 = .ok (.bipush 6, 2) := by decide +kernel
theorem dX1_lacks_31 : decode cX1_lacks 31 = .ok (.aload_n 0, 1) := by decide +kernel
theorem dX1_lacks_32 : decode cX1_lacks 32 = .ok (.iload_n 1, 1) := by decide +kernel
theorem dX1_lacks_33 : decode cX1_lacks 33 = .ok (.iconst 1, 1) := by decide +kernel
theorem dX1_lacks_34 : decode cX1_lacks 34 = .ok (.invokevirtual 126, 3) := by decide +kernel
theorem dX1_lacks_37 : decode cX1_lacks 37 = .ok (.invokestatic 68, 3) := by decide +kernel
theorem dX1_lacks_40 : decode cX1_lacks 40 = .ok (.isub, 1) := by decide +kernel
theorem dX1_lacks_41 : decode cX1_lacks 41 = .ok (.goto 4, 3) := by decide +kernel
theorem dX1_lacks_44 : decode cX1_lacks 44 = .ok (.iconst (-1), 1) := by decide +kernel
theorem dX1_lacks_45 : decode cX1_lacks 45 = .ok (.ireturn, 1) := by decide +kernel
set_option maxRecDepth 20000 in
theorem ggX1_finest_X1_isSet : GoodIn wsX1_finest wsX1_isSet := goodIn_r _ [6, 7, 8, 5, 9] (by decide +kernel) (by decide +kernel)
set_option maxRecDepth 20000 in
theorem gX1_finest_X1_isSet : GoodIn wsX1_finest (va_wsS RX1 54 yX1_isSet wsX1_isSet) := goodIn_app (goodIn_of _ (by decide +kernel)) ggX1_finest_X1_isSet
set_option maxRecDepth 20000 in
theorem ggX1_finest_X1_fail : GoodIn wsX1_finest wsX1_fail := goodIn_r _ [13, 1, 33, 34, 35, 36, 37, 38, 39, 40, 41] (by decide +kernel) (by decide +kernel)
set_option maxRecDepth 20000 in
theorem gX1_finest_X1_fail : GoodIn wsX1_finest (wsV RX1 46 RX1 yX1_fail wsX1_fail) := goodIn_app (goodIn_of _ (by decide +kernel)) ggX1_finest_X1_fail
set_option maxRecDepth 20000 in
theorem ggX1_finest_X1_gather : GoodIn wsX1_finest wsX1_gather := goodIn_r _ [17, 18, 19, 20, 21, 22, 23, 24, 25, 26, 5, 27, 28, 33, 34, 35, 36, 37, 38, 39, 40, 41] (by decide +kernel) (by decide +kernel)
set_option maxRecDepth 20000 in
theorem gX1_finest_X1_gather : GoodIn wsX1_finest (wsV RX1 76 RX1 yX1_gather wsX1_gather) := goodIn_app (goodIn_of _ (by decide +kernel)) ggX1_finest_X1_gather
set_option maxRecDepth 20000 in
theorem ggX1_finest_X1_states : GoodIn wsX1_finest wsX1_states := goodIn_r _ [32, 18, 20, 21, 22, 23, 33, 34, 35, 36, 37, 38, 39, 40, 41] (by decide +kernel) (by decide +kernel)
set_option maxRecDepth 20000 in
theorem gX1_finest_X1_states : GoodIn wsX1_finest (wsV RX1 79 RX1 yX1_states wsX1_states) := goodIn_app (goodIn_of _ (by decide +kernel)) ggX1_finest_X1_states
theorem dX1_finest_0 : decode cX1_finest 0 = .ok (.aload_n 0, 1) := by decide +kernel
theorem dX1_finest_1 : decode cX1_finest 1 = .ok (.iconst 0, 1) := by decide +kernel
theorem dX1_finest_2 : decode cX1_finest 2 = .ok (.putfield 28, 3) := by decide +kernel
theorem dX1_finest_5 : decode cX1_finest 5 = .ok (.iload_n 1, 1) := by decide +kernel
theorem dX1_finest_6 : decode cX1_finest 6 = .ok (.invokestatic 54, 3) := by decide +kernel
theorem dX1_finest_9 : decode cX1_finest 9 = .ok (.ifCond .ne 9, 3) := by decide +kernel
theorem dX1_finest_12 : decode cX1_finest 12 = .ok (.aload_n 0, 1) := by decide +kernel
theorem dX1_finest_13 : decode cX1_finest 13 = .ok (.iconst 1, 1) := by decide +kernel
theorem dX1_finest_14 : decode cX1_finest 14 = .ok (.invokevirtual 46, 3) := by decide +kernel
theorem dX1_finest_17 : decode cX1_finest 17 = .ok (.ireturn, 1) := by decide +kernel
theorem dX1_finest_18 : decode cX1_finest 18 = .ok (.iconst (-1), 1) := by decide +kernel
theorem dX1_finest_19 : decode cX1_finest 19 = .ok (.istore_n 2, 1) := by decide +kernel
theorem dX1_finest_20 : decode cX1_finest 20 = .ok (.iconst 0, 1) := by decide +kernel
theorem dX1_finest_21 : decode cX1_finest 21 = .ok (.istore_n 3, 1) := by decide +kernel
theorem dX1_finest_22 : decode cX1_finest 22 = .ok (.iconst 0, 1) := by decide +kernel
theorem dX1_finest_23 : decode cX1_finest 23 = .ok (.istore 4, 2) := by decide +kernel
theorem dX1_finest_25 : decode cX1_finest 25 = .ok (.iload 4, 2) := by decide +kernel
theorem dX1_finest_27 : decode cX1_finest 27 = .ok (.aload_n 0, 1) := by decide +kernel
theorem dX1_finest_28 : decode cX1_finest 28 = .ok (.getfield 32, 3) := by decide +kernel
theorem dX1_finest_31 : decode cX1_finest 31 = .ok (.if_icmp .ge 55, 3) := by decide +kernel
theorem dX1_finest_34 : decode cX1_finest 34 = .ok (.aload_n 0, 1) := by decide +kernel
theorem dX1_finest_35 : decode cX1_finest 35 = .ok (.iload 4, 2) := by decide +kernel
theorem dX1_finest_37 : decode cX1_finest 37 = .ok (.iload_n 1, 1) := by decide +kernel
theorem dX1_finest_38 : decode cX1_finest 38 = .ok (.invokevirtual 76, 3) := by decide +kernel
theorem dX1_finest_41 : decode cX1_finest 41 = .ok (.istore 5, 2) := by decide +kernel
theorem dX1_finest_43 : decode cX1_finest 43 = .ok (.bipush 100, 2) := by decide +kernel
theorem dX1_finest_45 : decode cX1_finest 45 = .ok (.iload 5, 2) := by decide +kernel
theorem dX1_finest_47 : decode cX1_finest 47 = .ok (.imul, 1) := by decide +kernel
theorem dX1_finest_48 : decode cX1_finest 48 = .ok (.aload_n 0, 1) := by decide +kernel
theorem dX1_finest_49 : decode cX1_finest 49 = .ok (.invokevirtual 79, 3) := by decide +kernel
theorem dX1_finest_52 : decode cX1_finest 52 = .ok (.iadd, 1) := by decide +kernel
theorem dX1_finest_53 : decode cX1_finest 53 = .ok (.istore 6, 2) := by decide +kernel
theorem dX1_finest_55 : decode cX1_finest 55 = .ok (.iload 5, 2) := by decide +kernel
theorem dX1_finest_57 : decode cX1_finest 57 = .ok (.ifCond .eq 23, 3) := by decide +kernel
theorem dX1_finest_60 : decode cX1_finest 60 = .ok (.iload_n 2, 1) := by decide +kernel
theorem dX1_finest_61 : decode cX1_finest 61 = .ok (.iconst (-1), 1) := by decide +kernel
theorem dX1_finest_62 : decode cX1_finest 62 = .ok (.if_icmp .eq 12, 3) := by decide +kernel
theorem dX1_finest_65 : decode cX1_finest 65 = .ok (.iload 6, 2) := by decide +kernel
theorem dX1_finest_67 : decode cX1_finest 67 = .ok (.iload_n 3, 1) := by decide +kernel
theorem dX1_finest_68 : decode cX1_finest 68 = .ok (.if_icmp .gt 6, 3) := by decide +kernel
theorem dX1_finest_71 : decode cX1_finest 71 = .ok (.goto 9, 3) := by decide +kernel
theorem dX1_finest_74 : decode cX1_finest 74 = .ok (.iload 4, 2) := by decide +kernel
theorem dX1_finest_76 : decode cX1_finest 76 = .ok (.istore_n 2, 1) := by decide +kernel
theorem dX1_finest_77 : decode cX1_finest 77 = .ok (.iload 6, 2) := by decide +kernel
theorem dX1_finest_79 : decode cX1_finest 79 = .ok (.istore_n 3, 1) := by decide +kernel
theorem dX1_finest_80 : decode cX1_finest 80 = .ok (.iinc 4 1, 3) := by decide +kernel
theorem dX1_finest_83 : decode cX1_finest 83 = .ok (.goto (-58), 3) := by decide +kernel
theorem dX1_finest_86 : decode cX1_finest 86 = .ok (.iload_n 2, 1) := by decide +kernel
theorem dX1_finest_87 : decode cX1_finest 87 = .ok (.ireturn, 1) := by decide +kernel
set_option maxRecDepth 20000 in
theorem ggX1_weekOn_X1_isLent : GoodIn wsX1_weekOn wsX1_isLent := goodIn_r _ [12, 13, 14, 15, 11, 16, 17, 22, 23, 24, 25, 26, 27, 28, 29, 30] (by decide +kernel) (by decide +kernel)
set_option maxRecDepth 20000 in
theorem gX1_weekOn_X1_isLent : GoodIn wsX1_weekOn (wsV RX1 83 RX1 yX1_isLent wsX1_isLent) := goodIn_app (goodIn_of _ (by decide +kernel)) ggX1_weekOn_X1_isLent
set_option maxRecDepth 20000 in
theorem ggX1_weekOn_X1_th : GoodIn wsX1_weekOn wsX1_th := goodIn_r _ [16, 17, 22, 23, 24, 25, 26, 27, 28, 29, 30] (by decide +kernel) (by decide +kernel)
set_option maxRecDepth 20000 in
theorem gX1_weekOn_X1_th : GoodIn wsX1_weekOn (wsV RX1 42 RX1 yX1_th wsX1_th) := goodIn_app (goodIn_of _ (by decide +kernel)) ggX1_weekOn_X1_th
set_option maxRecDepth 20000 in
theorem ggX1_weekOn_X1_set : GoodIn wsX1_weekOn wsX1_set := goodIn_r _ [21, 17, 22, 23, 24, 25, 26, 27, 28, 29, 30] (by decide +kernel) (by decide +kernel)
set_option maxRecDepth 20000 in
theorem gX1_weekOn_X1_set : GoodIn wsX1_weekOn (wsV RX1 95 RX1 yX1_set wsX1_set) := goodIn_app (goodIn_of _ (by decide +kernel)) ggX1_weekOn_X1_set
theorem dX1_weekOn_0 : decode cX1_weekOn 0 = .ok (.iconst 0, 1) := by decide +kernel
theorem dX1_weekOn_1 : decode cX1_weekOn 1 = .ok (.istore_n 1, 1) := by decide +kernel
theorem dX1_weekOn_2 : decode cX1_weekOn 2 = .ok (.iconst 0, 1) := by decide +kernel
theorem dX1_weekOn_3 : decode cX1_weekOn 3 = .ok (.istore_n 2, 1) := by decide +kernel
theorem dX1_weekOn_4 : decode cX1_weekOn 4 = .ok (.iload_n 2, 1) := by decide +kernel
theorem dX1_weekOn_5 : decode cX1_weekOn 5 = .ok (.aload_n 0, 1) := by decide +kernel
theorem dX1_weekOn_6 : decode cX1_weekOn 6 = .ok (.getfield 39, 3) := by decide +kernel
theorem dX1_weekOn_9 : decode cX1_weekOn 9 = .ok (.if_icmp .ge 74, 3) := by decide +kernel
theorem dX1_weekOn_12 : decode cX1_weekOn 12 = .ok (.aload_n 0, 1) := by decide +kernel
theorem dX1_weekOn_13 : decode cX1_weekOn 13 = .ok (.iload_n 2, 1) := by decide +kernel
theorem dX1_weekOn_14 : decode cX1_weekOn 14 = .ok (.invokevirtual 83, 3) := by decide +kernel
theorem dX1_weekOn_17 : decode cX1_weekOn 17 = .ok (.ifCond .eq 60, 3) := by decide +kernel
theorem dX1_weekOn_20 : decode cX1_weekOn 20 = .ok (.aload_n 0, 1) := by decide +kernel
theorem dX1_weekOn_21 : decode cX1_weekOn 21 = .ok (.iload_n 2, 1) := by decide +kernel
theorem dX1_weekOn_22 : decode cX1_weekOn 22 = .ok (.iconst 5, 1) := by decide +kernel
theorem dX1_weekOn_23 : decode cX1_weekOn 23 = .ok (.invokevirtual 42, 3) := by decide +kernel
theorem dX1_weekOn_26 : decode cX1_weekOn 26 = .ok (.aload_n 0, 1) := by decide +kernel
theorem dX1_weekOn_27 : decode cX1_weekOn 27 = .ok (.getfield 22, 3) := by decide +kernel
theorem dX1_weekOn_30 : decode cX1_weekOn 30 = .ok (.iconst 0, 1) := by decide +kernel
theorem dX1_weekOn_31 : decode cX1_weekOn 31 = .ok (.iaload, 1) := by decide +kernel
theorem dX1_weekOn_32 : decode cX1_weekOn 32 = .ok (.if_icmp .le 6, 3) := by decide +kernel
theorem dX1_weekOn_35 : decode cX1_weekOn 35 = .ok (.goto 42, 3) := by decide +kernel
theorem dX1_weekOn_38 : decode cX1_weekOn 38 = .ok (.aload_n 0, 1) := by decide +kernel
theorem dX1_weekOn_39 : decode cX1_weekOn 39 = .ok (.iload_n 2, 1) := by decide +kernel
theorem dX1_weekOn_40 : decode cX1_weekOn 40 = .ok (.iconst 5, 1) := by decide +kernel
theorem dX1_weekOn_41 : decode cX1_weekOn 41 = .ok (.iconst (-1), 1) := by decide +kernel
theorem dX1_weekOn_42 : decode cX1_weekOn 42 = .ok (.invokevirtual 95, 3) := by decide +kernel
theorem dX1_weekOn_45 : decode cX1_weekOn 45 = .ok (.aload_n 0, 1) := by decide +kernel
theorem dX1_weekOn_46 : decode cX1_weekOn 46 = .ok (.iload_n 2, 1) := by decide +kernel
theorem dX1_weekOn_47 : decode cX1_weekOn 47 = .ok (.bipush 6, 2) := by decide +kernel
theorem dX1_weekOn_49 : decode cX1_weekOn 49 = .ok (.invokevirtual 42, 3) := by decide +kernel
theorem dX1_weekOn_52 : decode cX1_weekOn 52 = .ok (.iconst 4, 1) := by decide +kernel
theorem dX1_weekOn_53 : decode cX1_weekOn 53 = .ok (.if_icmp .lt 21, 3) := by decide +kernel
theorem dX1_weekOn_56 : decode cX1_weekOn 56 = .ok (.aload_n 0, 1) := by decide +kernel
theorem dX1_weekOn_57 : decode cX1_weekOn 57 = .ok (.iload_n 2, 1) := by decide +kernel
theorem dX1_weekOn_58 : decode cX1_weekOn 58 = .ok (.iconst 3, 1) := by decide +kernel
theorem dX1_weekOn_59 : decode cX1_weekOn 59 = .ok (.iconst 0, 1) := by decide +kernel
theorem dX1_weekOn_60 : decode cX1_weekOn 60 = .ok (.aload_n 0, 1) := by decide +kernel
theorem dX1_weekOn_61 : decode cX1_weekOn 61 = .ok (.iload_n 2, 1) := by decide +kernel
theorem dX1_weekOn_62 : decode cX1_weekOn 62 = .ok (.iconst 3, 1) := by decide +kernel
theorem dX1_weekOn_63 : decode cX1_weekOn 63 = .ok (.invokevirtual 42, 3) := by decide +kernel
theorem dX1_weekOn_66 : decode cX1_weekOn 66 = .ok (.iconst 1, 1) := by decide +kernel
theorem dX1_weekOn_67 : decode cX1_weekOn 67 = .ok (.isub, 1) := by decide +kernel
theorem dX1_weekOn_68 : decode cX1_weekOn 68 = .ok (.invokestatic 63, 3) := by decide +kernel
theorem dX1_weekOn_71 : decode cX1_weekOn 71 = .ok (.invokevirtual 95, 3) := by decide +kernel
theorem dX1_weekOn_74 : decode cX1_weekOn 74 = .ok (.iinc 1 1, 3) := by decide +kernel
theorem dX1_weekOn_77 : decode cX1_weekOn 77 = .ok (.iinc 2 1, 3) := by decide +kernel
theorem dX1_weekOn_80 : decode cX1_weekOn 80 = .ok (.goto (-76), 3) := by decide +kernel
theorem dX1_weekOn_83 : decode cX1_weekOn 83 = .ok (.iconst 0, 1) := by decide +kernel
theorem dX1_weekOn_84 : decode cX1_weekOn 84 = .ok (.istore_n 2, 1) := by decide +kernel
theorem dX1_weekOn_85 : decode cX1_weekOn 85 = .ok (.iload_n 2, 1) := by decide +kernel
theorem dX1_weekOn_86 : decode cX1_weekOn 86 = .ok (.aload_n 0, 1) := by decide +kernel
theorem dX1_weekOn_87 : decode cX1_weekOn 87 = .ok (.getfield 16, 3) := by decide +kernel
theorem dX1_weekOn_90 : decode cX1_weekOn 90 = .ok (.arraylength, 1) := by decide +kernel
theorem dX1_weekOn_91 : decode cX1_weekOn 91 = .ok (.if_icmp .ge 38, 3) := by decide +kernel
theorem dX1_weekOn_94 : decode cX1_weekOn 94 = .ok (.aload_n 0, 1) := by decide +kernel
theorem dX1_weekOn_95 : decode cX1_weekOn 95 = .ok (.getfield 22, 3) := by decide +kernel
theorem dX1_weekOn_98 : decode cX1_weekOn 98 = .ok (.iconst 0, 1) := by decide +kernel
theorem dX1_weekOn_99 : decode cX1_weekOn 99 = .ok (.iaload, 1) := by decide +kernel
theorem dX1_weekOn_100 : decode cX1_weekOn 100 = .ok (.iconst 5, 1) := by decide +kernel
theorem dX1_weekOn_101 : decode cX1_weekOn 101 = .ok (.irem, 1) := by decide +kernel
theorem dX1_weekOn_102 : decode cX1_weekOn 102 = .ok (.ifCond .ne 27, 3) := by decide +kernel
theorem dX1_weekOn_105 : decode cX1_weekOn 105 = .ok (.aload_n 0, 1) := by decide +kernel
theorem dX1_weekOn_106 : decode cX1_weekOn 106 = .ok (.getfield 16, 3) := by decide +kernel
theorem dX1_weekOn_109 : decode cX1_weekOn 109 = .ok (.iload_n 2, 1) := by decide +kernel
theorem dX1_weekOn_110 : decode cX1_weekOn 110 = .ok (.iconst 0, 1) := by decide +kernel
theorem dX1_weekOn_111 : decode cX1_weekOn 111 = .ok (.aload_n 0, 1) := by decide +kernel
theorem dX1_weekOn_112 : decode cX1_weekOn 112 = .ok (.getfield 16, 3) := by decide +kernel
theorem dX1_weekOn_115 : decode cX1_weekOn 115 = .ok (.iload_n 2, 1) := by decide +kernel
theorem dX1_weekOn_116 : decode cX1_weekOn 116 = .ok (.iaload, 1) := by decide +kernel
theorem dX1_weekOn_117 : decode cX1_weekOn 117 = .ok (.iconst 1, 1) := by decide +kernel
theorem dX1_weekOn_118 : decode cX1_weekOn 118 = .ok (.isub, 1) := by decide +kernel
theorem dX1_weekOn_119 : decode cX1_weekOn 119 = .ok (.invokestatic 63, 3) := by decide +kernel
theorem dX1_weekOn_122 : decode cX1_weekOn 122 = .ok (.iastore, 1) := by decide +kernel
theorem dX1_weekOn_123 : decode cX1_weekOn 123 = .ok (.iinc 2 1, 3) := by decide +kernel
theorem dX1_weekOn_126 : decode cX1_weekOn 126 = .ok (.goto (-41), 3) := by decide +kernel
theorem dX1_weekOn_129 : decode cX1_weekOn 129 = .ok (.aload_n 0, 1) := by decide +kernel
theorem dX1_weekOn_130 : decode cX1_weekOn 130 = .ok (.getfield 22, 3) := by decide +kernel
theorem dX1_weekOn_133 : decode cX1_weekOn 133 = .ok (.iconst 0, 1) := by decide +kernel
theorem dX1_weekOn_134 : decode cX1_weekOn 134 = .ok (.dup2, 1) := by decide +kernel
theorem dX1_weekOn_135 : decode cX1_weekOn 135 = .ok (.iaload, 1) := by decide +kernel
theorem dX1_weekOn_136 : decode cX1_weekOn 136 = .ok (.iconst 1, 1) := by decide +kernel
theorem dX1_weekOn_137 : decode cX1_weekOn 137 = .ok (.iadd, 1) := by decide +kernel
theorem dX1_weekOn_138 : decode cX1_weekOn 138 = .ok (.iastore, 1) := by decide +kernel
theorem dX1_weekOn_139 : decode cX1_weekOn 139 = .ok (.iload_n 1, 1) := by decide +kernel
theorem dX1_weekOn_140 : decode cX1_weekOn 140 = .ok (.ireturn, 1) := by decide +kernel
set_option maxRecDepth 20000 in
theorem ggX1_pass_X1_isIn : GoodIn wsX1_pass wsX1_isIn := goodIn_r _ [5] (by decide +kernel) (by decide +kernel)
set_option maxRecDepth 20000 in
theorem gX1_pass_X1_isIn : GoodIn wsX1_pass (va_wsS RX1 35 yX1_isIn wsX1_isIn) := goodIn_app (goodIn_of _ (by decide +kernel)) ggX1_pass_X1_isIn
set_option maxRecDepth 20000 in
theorem ggX1_pass_X1_fail : GoodIn wsX1_pass wsX1_fail := goodIn_r _ [9, 1, 34, 35, 36, 37, 38, 39, 40, 41, 42] (by decide +kernel) (by decide +kernel)
set_option maxRecDepth 20000 in
theorem gX1_pass_X1_fail : GoodIn wsX1_pass (wsV RX1 46 RX1 yX1_fail wsX1_fail) := goodIn_app (goodIn_of _ (by decide +kernel)) ggX1_pass_X1_fail
set_option maxRecDepth 20000 in
theorem ggX1_pass_X1_weekOn : GoodIn wsX1_pass wsX1_weekOn := goodIn_r _ [13, 14, 15, 16, 17, 18, 19, 20, 21, 22, 23, 4, 24, 25, 26, 27, 28, 29, 30, 31, 32, 33, 34, 35, 36, 37, 38, 39, 40, 41, 42] (by decide +kernel) (by decide +kernel)
set_option maxRecDepth 20000 in
theorem gX1_pass_X1_weekOn : GoodIn wsX1_pass (wsV RX1 130 RX1 yX1_weekOn wsX1_weekOn) := goodIn_app (goodIn_of _ (by decide +kernel)) ggX1_pass_X1_weekOn
theorem dX1_pass_0 : decode cX1_pass 0 = .ok (.aload_n 0, 1) := by decide +kernel
theorem dX1_pass_1 : decode cX1_pass 1 = .ok (.iconst 0, 1) := by decide +kernel
theorem dX1_pass_2 : decode cX1_pass 2 = .ok (.putfield 28, 3) := by decide +kernel
theorem dX1_pass_5 : decode cX1_pass 5 = .ok (.iload_n 1, 1) := by decide +kernel
theorem dX1_pass_6 : decode cX1_pass 6 = .ok (.iconst 1, 1) := by decide +kernel
theorem dX1_pass_7 : decode cX1_pass 7 = .ok (.bipush 60, 2) := by decide +kernel
theorem dX1_pass_9 : decode cX1_pass 9 = .ok (.invokestatic 35, 3) := by decide +kernel
theorem dX1_pass_12 : decode cX1_pass 12 = .ok (.ifCond .ne 9, 3) := by decide +kernel
theorem dX1_pass_15 : decode cX1_pass 15 = .ok (.aload_n 0, 1) := by decide +kernel
theorem dX1_pass_16 : decode cX1_pass 16 = .ok (.iconst 1, 1) := by decide +kernel
theorem dX1_pass_17 : decode cX1_pass 17 = .ok (.invokevirtual 46, 3) := by decide +kernel
theorem dX1_pass_20 : decode cX1_pass 20 = .ok (.ireturn, 1) := by decide +kernel
theorem dX1_pass_21 : decode cX1_pass 21 = .ok (.iconst 0, 1) := by decide +kernel
theorem dX1_pass_22 : decode cX1_pass 22 = .ok (.istore_n 2, 1) := by decide +kernel
theorem dX1_pass_23 : decode cX1_pass 23 = .ok (.iconst 0, 1) := by decide +kernel
theorem dX1_pass_24 : decode cX1_pass 24 = .ok (.istore_n 3, 1) := by decide +kernel
theorem dX1_pass_25 : decode cX1_pass 25 = .ok (.iload_n 3, 1) := by decide +kernel
theorem dX1_pass_26 : decode cX1_pass 26 = .ok (.iload_n 1, 1) := by decide +kernel
theorem dX1_pass_27 : decode cX1_pass 27 = .ok (.if_icmp .ge 16, 3) := by decide +kernel
theorem dX1_pass_30 : decode cX1_pass 30 = .ok (.iload_n 2, 1) := by decide +kernel
theorem dX1_pass_31 : decode cX1_pass 31 = .ok (.aload_n 0, 1) := by decide +kernel
theorem dX1_pass_32 : decode cX1_pass 32 = .ok (.invokevirtual 130, 3) := by decide +kernel
theorem dX1_pass_35 : decode cX1_pass 35 = .ok (.iadd, 1) := by decide +kernel
theorem dX1_pass_36 : decode cX1_pass 36 = .ok (.istore_n 2, 1) := by decide +kernel
theorem dX1_pass_37 : decode cX1_pass 37 = .ok (.iinc 3 1, 3) := by decide +kernel
theorem dX1_pass_40 : decode cX1_pass 40 = .ok (.goto (-15), 3) := by decide +kernel
theorem dX1_pass_43 : decode cX1_pass 43 = .ok (.iload_n 2, 1) := by decide +kernel
theorem dX1_pass_44 : decode cX1_pass 44 = .ok (.ireturn, 1) := by decide +kernel
set_option maxRecDepth 20000 in
theorem ggX1_allWorth_X1_worth : GoodIn wsX1_allWorth wsX1_worth := goodIn_r _ [6, 7, 8, 9, 10, 5, 11, 12, 13, 14, 15, 16, 17, 18, 19, 20, 21, 22, 23, 24, 25, 26, 27, 28, 29, 30, 31, 32, 33, 34, 35, 36, 37, 38, 39, 40, 41, 42, 43, 44, 45, 46] (by decide +kernel) (by decide +kernel)
set_option maxRecDepth 20000 in
theorem gX1_allWorth_X1_worth : GoodIn wsX1_allWorth (wsV RX1 86 RX1 yX1_worth wsX1_worth) := goodIn_app (goodIn_of _ (by decide +kernel)) ggX1_allWorth_X1_worth
theorem dX1_allWorth_0 : decode cX1_allWorth 0 = .ok (.iconst 0, 1) := by decide +kernel
theorem dX1_allWorth_1 : decode cX1_allWorth 1 = .ok (.istore_n 1, 1) := by decide +kernel
theorem dX1_allWorth_2 : decode cX1_allWorth 2 = .ok (.iconst 0, 1) := by decide +kernel
theorem dX1_allWorth_3 : decode cX1_allWorth 3 = .ok (.istore_n 2, 1) := by decide +kernel
theorem dX1_allWorth_4 : decode cX1_allWorth 4 = .ok (.iload_n 2, 1) := by decide +kernel
theorem dX1_allWorth_5 : decode cX1_allWorth 5 = .ok (.aload_n 0, 1) := by decide +kernel
theorem dX1_allWorth_6 : decode cX1_allWorth 6 = .ok (.getfield 32, 3) := by decide +kernel
theorem dX1_allWorth_9 : decode cX1_allWorth 9 = .ok (.if_icmp .ge 17, 3) := by decide +kernel
theorem dX1_allWorth_12 : decode cX1_allWorth 12 = .ok (.iload_n 1, 1) := by decide +kernel
theorem dX1_allWorth_13 : decode cX1_allWorth 13 = .ok (.aload_n 0, 1) := by decide +kernel
theorem dX1_allWorth_14 : decode cX1_allWorth 14 = .ok (.iload_n 2, 1) := by decide +kernel
theorem dX1_allWorth_15 : decode cX1_allWorth 15 = .ok (.invokevirtual 86, 3) := by decide +kernel
theorem dX1_allWorth_18 : decode cX1_allWorth 18 = .ok (.iadd, 1) := by decide +kernel
theorem dX1_allWorth_19 : decode cX1_allWorth 19 = .ok (.istore_n 1, 1) := by decide +kernel
theorem dX1_allWorth_20 : decode cX1_allWorth 20 = .ok (.iinc 2 1, 3) := by decide +kernel
theorem dX1_allWorth_23 : decode cX1_allWorth 23 = .ok (.goto (-19), 3) := by decide +kernel
theorem dX1_allWorth_26 : decode cX1_allWorth 26 = .ok (.iload_n 1, 1) := by decide +kernel
theorem dX1_allWorth_27 : decode cX1_allWorth 27 = .ok (.ireturn, 1) := by decide +kernel
set_option maxRecDepth 20000 in
theorem ggX1_counted_X1_isLent : GoodIn wsX1_counted wsX1_isLent := goodIn_r _ [8, 9, 10, 11, 7, 12, 13, 47, 48, 49, 50, 51, 52, 53, 54, 55] (by decide +kernel) (by decide +kernel)
set_option maxRecDepth 20000 in
theorem gX1_counted_X1_isLent : GoodIn wsX1_counted (wsV RX1 83 RX1 yX1_isLent wsX1_isLent) := goodIn_app (goodIn_of _ (by decide +kernel)) ggX1_counted_X1_isLent
set_option maxRecDepth 20000 in
theorem ggX1_counted_X1_allWorth : GoodIn wsX1_counted wsX1_allWorth := goodIn_r _ [17, 2, 18, 19, 20, 7, 21, 22, 23, 24, 25, 26, 3, 9, 10, 11, 12, 13, 27, 28, 29, 30, 31, 32, 33, 34, 35, 36, 37, 38, 39, 40, 41, 42, 43, 44, 45, 46, 47, 48, 49, 50, 51, 52, 53, 54, 55] (by decide +kernel) (by decide +kernel)
set_option maxRecDepth 20000 in
theorem gX1_counted_X1_allWorth : GoodIn wsX1_counted (wsV RX1 133 RX1 yX1_allWorth wsX1_allWorth) := goodIn_app (goodIn_of _ (by decide +kernel)) ggX1_counted_X1_allWorth
theorem dX1_counted_0 : decode cX1_counted 0 = .ok (.iconst 0, 1) := by decide +kernel
theorem dX1_counted_1 : decode cX1_counted 1 = .ok (.istore_n 2, 1) := by decide +kernel
theorem dX1_counted_2 : decode cX1_counted 2 = .ok (.iload_n 1, 1) := by decide +kernel
theorem dX1_counted_3 : decode cX1_counted 3 = .ok (.tableswitch 102 0 5 #[37, 44, 49, 54, 88, 95], 37) := by decide +kernel
theorem dX1_counted_40 : decode cX1_counted 40 = .ok (.aload_n 0, 1) := by decide +kernel
theorem dX1_counted_41 : decode cX1_counted 41 = .ok (.getfield 22, 3) := by decide +kernel
theorem dX1_counted_44 : decode cX1_counted 44 = .ok (.iconst 0, 1) := by decide +kernel
theorem dX1_counted_45 : decode cX1_counted 45 = .ok (.iaload, 1) := by decide +kernel
theorem dX1_counted_46 : decode cX1_counted 46 = .ok (.ireturn, 1) := by decide +kernel
theorem dX1_counted_47 : decode cX1_counted 47 = .ok (.aload_n 0, 1) := by decide +kernel
theorem dX1_counted_48 : decode cX1_counted 48 = .ok (.getfield 32, 3) := by decide +kernel
theorem dX1_counted_51 : decode cX1_counted 51 = .ok (.ireturn, 1) := by decide +kernel
theorem dX1_counted_52 : decode cX1_counted 52 = .ok (.aload_n 0, 1) := by decide +kernel
theorem dX1_counted_53 : decode cX1_counted 53 = .ok (.getfield 39, 3) := by decide +kernel
theorem dX1_counted_56 : decode cX1_counted 56 = .ok (.ireturn, 1) := by decide +kernel
theorem dX1_counted_57 : decode cX1_counted 57 = .ok (.iconst 0, 1) := by decide +kernel
theorem dX1_counted_58 : decode cX1_counted 58 = .ok (.istore_n 3, 1) := by decide +kernel
theorem dX1_counted_59 : decode cX1_counted 59 = .ok (.iload_n 3, 1) := by decide +kernel
theorem dX1_counted_60 : decode cX1_counted 60 = .ok (.aload_n 0, 1) := by decide +kernel
theorem dX1_counted_61 : decode cX1_counted 61 = .ok (.getfield 39, 3) := by decide +kernel
theorem dX1_counted_64 : decode cX1_counted 64 = .ok (.if_icmp .ge 25, 3) := by decide +kernel
theorem dX1_counted_67 : decode cX1_counted 67 = .ok (.iload_n 2, 1) := by decide +kernel
theorem dX1_counted_68 : decode cX1_counted 68 = .ok (.aload_n 0, 1) := by decide +kernel
theorem dX1_counted_69 : decode cX1_counted 69 = .ok (.iload_n 3, 1) := by decide +kernel
theorem dX1_counted_70 : decode cX1_counted 70 = .ok (.invokevirtual 83, 3) := by decide +kernel
theorem dX1_counted_73 : decode cX1_counted 73 = .ok (.ifCond .eq 7, 3) := by decide +kernel
theorem dX1_counted_76 : decode cX1_counted 76 = .ok (.iconst 1, 1) := by decide +kernel
theorem dX1_counted_77 : decode cX1_counted 77 = .ok (.goto 4, 3) := by decide +kernel
theorem dX1_counted_80 : decode cX1_counted 80 = .ok (.iconst 0, 1) := by decide +kernel
theorem dX1_counted_81 : decode cX1_counted 81 = .ok (.iadd, 1) := by decide +kernel
theorem dX1_counted_82 : decode cX1_counted 82 = .ok (.istore_n 2, 1) := by decide +kernel
theorem dX1_counted_83 : decode cX1_counted 83 = .ok (.iinc 3 1, 3) := by decide +kernel
theorem dX1_counted_86 : decode cX1_counted 86 = .ok (.goto (-27), 3) := by decide +kernel
theorem dX1_counted_89 : decode cX1_counted 89 = .ok (.iload_n 2, 1) := by decide +kernel
theorem dX1_counted_90 : decode cX1_counted 90 = .ok (.ireturn, 1) := by decide +kernel
theorem dX1_counted_91 : decode cX1_counted 91 = .ok (.aload_n 0, 1) := by decide +kernel
theorem dX1_counted_92 : decode cX1_counted 92 = .ok (.getfield 22, 3) := by decide +kernel
theorem dX1_counted_95 : decode cX1_counted 95 = .ok (.iconst 1, 1) := by decide +kernel
theorem dX1_counted_96 : decode cX1_counted 96 = .ok (.iaload, 1) := by decide +kernel
theorem dX1_counted_97 : decode cX1_counted 97 = .ok (.ireturn, 1) := by decide +kernel
theorem dX1_counted_98 : decode cX1_counted 98 = .ok (.aload_n 0, 1) := by decide +kernel
theorem dX1_counted_99 : decode cX1_counted 99 = .ok (.getfield 22, 3) := by decide +kernel
theorem dX1_counted_102 : decode cX1_counted 102 = .ok (.iconst 2, 1) := by decide +kernel
theorem dX1_counted_103 : decode cX1_counted 103 = .ok (.iaload, 1) := by decide +kernel
theorem dX1_counted_104 : decode cX1_counted 104 = .ok (.ireturn, 1) := by decide +kernel
theorem dX1_counted_105 : decode cX1_counted 105 = .ok (.aload_n 0, 1) := by decide +kernel
theorem dX1_counted_106 : decode cX1_counted 106 = .ok (.invokevirtual 133, 3) := by decide +kernel
theorem dX1_counted_109 : decode cX1_counted 109 = .ok (.ireturn, 1) := by decide +kernel
set_option maxRecDepth 20000 in
theorem ggX1_count_X1_isIn : GoodIn wsX1_count wsX1_isIn := goodIn_r _ [5] (by decide +kernel) (by decide +kernel)
set_option maxRecDepth 20000 in
theorem gX1_count_X1_isIn : GoodIn wsX1_count (va_wsS RX1 35 yX1_isIn wsX1_isIn) := goodIn_app (goodIn_of _ (by decide +kernel)) ggX1_count_X1_isIn
set_option maxRecDepth 20000 in
theorem ggX1_count_X1_counted : GoodIn wsX1_count wsX1_counted := goodIn_r _ [9, 10, 11, 12, 13, 14, 15, 4, 16, 17, 18, 19, 20, 21, 22, 23, 24, 25, 26, 27, 28, 29, 30, 31, 32, 33, 34, 35, 36, 37, 38, 39, 40, 41, 42, 43, 44, 45, 46, 47, 48, 49, 50, 51, 52, 53, 54, 59, 60, 61, 62, 63, 64, 65, 66, 67] (by decide +kernel) (by decide +kernel)
set_option maxRecDepth 20000 in
theorem gX1_count_X1_counted : GoodIn wsX1_count (wsV RX1 136 RX1 yX1_counted wsX1_counted) := goodIn_app (goodIn_of _ (by decide +kernel)) ggX1_count_X1_counted
set_option maxRecDepth 20000 in
theorem ggX1_count_X1_fail : GoodIn wsX1_count wsX1_fail := goodIn_r _ [58, 1, 59, 60, 61, 62, 63, 64, 65, 66, 67] (by decide +kernel) (by decide +kernel)
set_option maxRecDepth 20000 in
theorem gX1_count_X1_fail : GoodIn wsX1_count (wsV RX1 46 RX1 yX1_fail wsX1_fail) := goodIn_app (goodIn_of _ (by decide +kernel)) ggX1_count_X1_fail
theorem dX1_count_0 : decode cX1_count 0 = .ok (.aload_n 0, 1) := by decide +kernel
theorem dX1_count_1 : decode cX1_count 1 = .ok (.iconst 0, 1) := by decide +kernel
theorem dX1_count_2 : decode cX1_count 2 = .ok (.putfield 28, 3) := by decide +kernel
theorem dX1_count_5 : decode cX1_count 5 = .ok (.iload_n 1, 1) := by decide +kernel
theorem dX1_count_6 : decode cX1_count 6 = .ok (.iconst 0, 1) := by decide +kernel
theorem dX1_count_7 : decode cX1_count 7 = .ok (.bipush 6, 2) := by decide +kernel
theorem dX1_count_9 : decode cX1_count 9 = .ok (.invokestatic 35, 3) := by decide +kernel
theorem dX1_count_12 : decode cX1_count 12 = .ok (.ifCond .eq 11, 3) := by decide +kernel
theorem dX1_count_15 : decode cX1_count 15 = .ok (.aload_n 0, 1) := by decide +kernel
theorem dX1_count_16 : decode cX1_count 16 = .ok (.iload_n 1, 1) := by decide +kernel
theorem dX1_count_17 : decode cX1_count 17 = .ok (.invokevirtual 136, 3) := by decide +kernel
theorem dX1_count_20 : decode cX1_count 20 = .ok (.goto 8, 3) := by decide +kernel
theorem dX1_count_23 : decode cX1_count 23 = .ok (.aload_n 0, 1) := by decide +kernel
theorem dX1_count_24 : decode cX1_count 24 = .ok (.iconst 1, 1) := by decide +kernel
theorem dX1_count_25 : decode cX1_count 25 = .ok (.invokevirtual 46, 3) := by decide +kernel
theorem dX1_count_28 : decode cX1_count 28 = .ok (.ireturn, 1) := by decide +kernel
set_option maxRecDepth 20000 in
theorem ggX1_mean_X1_allWorth : GoodIn wsX1_mean wsX1_allWorth := goodIn_r _ [7, 8, 9, 10, 11, 6, 12, 13, 14, 15, 16, 17, 2, 18, 19, 20, 21, 22, 23, 24, 25, 26, 27, 28, 29, 30, 31, 32, 33, 34, 35, 36, 37, 38, 39, 40, 41, 42, 43, 44, 45, 46, 47, 48, 49, 50, 51] (by decide +kernel) (by decide +kernel)
set_option maxRecDepth 20000 in
theorem gX1_mean_X1_allWorth : GoodIn wsX1_mean (wsV RX1 133 RX1 yX1_allWorth wsX1_allWorth) := goodIn_app (goodIn_of _ (by decide +kernel)) ggX1_mean_X1_allWorth
theorem dX1_mean_0 : decode cX1_mean 0 = .ok (.aload_n 0, 1) := by decide +kernel
theorem dX1_mean_1 : decode cX1_mean 1 = .ok (.iconst 0, 1) := by decide +kernel
theorem dX1_mean_2 : decode cX1_mean 2 = .ok (.putfield 28, 3) := by decide +kernel
theorem dX1_mean_5 : decode cX1_mean 5 = .ok (.aload_n 0, 1) := by decide +kernel
theorem dX1_mean_6 : decode cX1_mean 6 = .ok (.getfield 39, 3) := by decide +kernel
theorem dX1_mean_9 : decode cX1_mean 9 = .ok (.ifCond .ne 7, 3) := by decide +kernel
theorem dX1_mean_12 : decode cX1_mean 12 = .ok (.dconst 0, 1) := by decide +kernel
theorem dX1_mean_13 : decode cX1_mean 13 = .ok (.goto 14, 3) := by decide +kernel
theorem dX1_mean_16 : decode cX1_mean 16 = .ok (.aload_n 0, 1) := by decide +kernel
theorem dX1_mean_17 : decode cX1_mean 17 = .ok (.invokevirtual 133, 3) := by decide +kernel
theorem dX1_mean_20 : decode cX1_mean 20 = .ok (.i2d, 1) := by decide +kernel
theorem dX1_mean_21 : decode cX1_mean 21 = .ok (.aload_n 0, 1) := by decide +kernel
theorem dX1_mean_22 : decode cX1_mean 22 = .ok (.getfield 39, 3) := by decide +kernel
theorem dX1_mean_25 : decode cX1_mean 25 = .ok (.i2d, 1) := by decide +kernel
theorem dX1_mean_26 : decode cX1_mean 26 = .ok (.ddiv, 1) := by decide +kernel
theorem dX1_mean_27 : decode cX1_mean 27 = .ok (.dreturn, 1) := by decide +kernel
set_option maxRecDepth 20000 in
theorem ggX1_digest_X1_counted : GoodIn wsX1_digest wsX1_counted := goodIn_r _ [12, 13, 4, 7, 14, 15, 16, 11, 17, 18, 19, 20, 21, 22, 23, 24, 25, 26, 27, 28, 29, 30, 5, 31, 32, 33, 34, 35, 36, 37, 38, 39, 40, 41, 42, 43, 44, 45, 46, 47, 48, 49, 50, 51, 52, 53, 54, 60, 61, 62, 63, 64, 65, 66, 67, 68] (by decide +kernel) (by decide +kernel)
set_option maxRecDepth 20000 in
theorem gX1_digest_X1_counted : GoodIn wsX1_digest (wsV RX1 136 RX1 yX1_counted wsX1_counted) := goodIn_app (goodIn_of _ (by decide +kernel)) ggX1_digest_X1_counted
set_option maxRecDepth 20000 in
theorem ggX1_digest_X1_collectorTold : GoodIn wsX1_digest wsX1_collectorTold := goodIn_r _ [58, 7, 4, 6, 59, 18, 19, 20, 11, 21, 22, 14, 15, 16, 17, 31, 32, 33, 34, 35, 36, 37, 38, 39, 40, 41, 27, 28, 29, 30, 5, 42, 43, 44, 45, 46, 47, 48, 49, 50, 51, 52, 53, 54, 60, 61, 62, 63, 64, 65, 66, 67, 68] (by decide +kernel) (by decide +kernel)
set_option maxRecDepth 20000 in
theorem gX1_digest_X1_collectorTold : GoodIn wsX1_digest (wsV RX1 89 RX1 yX1_collectorTold wsX1_collectorTold) := goodIn_app (goodIn_of _ (by decide +kernel)) ggX1_digest_X1_collectorTold
set_option maxRecDepth 20000 in
theorem ggX1_digest_X1_th : GoodIn wsX1_digest wsX1_th := goodIn_r _ [21, 22, 60, 61, 62, 63, 64, 65, 66, 67, 68] (by decide +kernel) (by decide +kernel)
set_option maxRecDepth 20000 in
theorem gX1_digest_X1_th : GoodIn wsX1_digest (wsV RX1 42 RX1 yX1_th wsX1_th) := goodIn_app (goodIn_of _ (by decide +kernel)) ggX1_digest_X1_th
theorem dX1_digest_0 : decode cX1_digest 0 = .ok (.aload_n 0, 1) := by decide +kernel
theorem dX1_digest_1 : decode cX1_digest 1 = .ok (.iconst 0, 1) := by decide +kernel
theorem dX1_digest_2 : decode cX1_digest 2 = .ok (.putfield 28, 3) := by decide +kernel
theorem dX1_digest_5 : decode cX1_digest 5 = .ok (.ldc2_w 139, 3) := by decide +kernel
theorem dX1_digest_8 : decode cX1_digest 8 = .ok (.lstore_n 1, 1) := by decide +kernel
theorem dX1_digest_9 : decode cX1_digest 9 = .ok (.iconst 0, 1) := by decide +kernel
theorem dX1_digest_10 : decode cX1_digest 10 = .ok (.istore_n 3, 1) := by decide +kernel
theorem dX1_digest_11 : decode cX1_digest 11 = .ok (.iload_n 3, 1) := by decide +kernel
theorem dX1_digest_12 : decode cX1_digest 12 = .ok (.bipush 7, 2) := by decide +kernel
theorem dX1_digest_14 : decode cX1_digest 14 = .ok (.if_icmp .ge 22, 3) := by decide +kernel
theorem dX1_digest_17 : decode cX1_digest 17 = .ok (.lload_n 1, 1) := by decide +kernel
theorem dX1_digest_18 : decode cX1_digest 18 = .ok (.ldc2_w 141, 3) := by decide +kernel
theorem dX1_digest_21 : decode cX1_digest 21 = .ok (.lmul, 1) := by decide +kernel
theorem dX1_digest_22 : decode cX1_digest 22 = .ok (.aload_n 0, 1) := by decide +kernel
theorem dX1_digest_23 : decode cX1_digest 23 = .ok (.iload_n 3, 1) := by decide +kernel
theorem dX1_digest_24 : decode cX1_digest 24 = .ok (.invokevirtual 136, 3) := by decide +kernel
theorem dX1_digest_27 : decode cX1_digest 27 = .ok (.i2l, 1) := by decide +kernel
theorem dX1_digest_28 : decode cX1_digest 28 = .ok (.ladd, 1) := by decide +kernel
theorem dX1_digest_29 : decode cX1_digest 29 = .ok (.lstore_n 1, 1) := by decide +kernel
theorem dX1_digest_30 : decode cX1_digest 30 = .ok (.iinc 3 1, 3) := by decide +kernel
theorem dX1_digest_33 : decode cX1_digest 33 = .ok (.goto (-22), 3) := by decide +kernel
theorem dX1_digest_36 : decode cX1_digest 36 = .ok (.iconst 0, 1) := by decide +kernel
theorem dX1_digest_37 : decode cX1_digest 37 = .ok (.istore_n 3, 1) := by decide +kernel
theorem dX1_digest_38 : decode cX1_digest 38 = .ok (.iload_n 3, 1) := by decide +kernel
theorem dX1_digest_39 : decode cX1_digest 39 = .ok (.aload_n 0, 1) := by decide +kernel
theorem dX1_digest_40 : decode cX1_digest 40 = .ok (.getfield 32, 3) := by decide +kernel
theorem dX1_digest_43 : decode cX1_digest 43 = .ok (.if_icmp .ge 114, 3) := by decide +kernel
theorem dX1_digest_46 : decode cX1_digest 46 = .ok (.iconst 0, 1) := by decide +kernel
theorem dX1_digest_47 : decode cX1_digest 47 = .ok (.istore 4, 2) := by decide +kernel
theorem dX1_digest_49 : decode cX1_digest 49 = .ok (.iload 4, 2) := by decide +kernel
theorem dX1_digest_51 : decode cX1_digest 51 = .ok (.bipush 7, 2) := by decide +kernel
theorem dX1_digest_53 : decode cX1_digest 53 = .ok (.if_icmp .ge 24, 3) := by decide +kernel
theorem dX1_digest_56 : decode cX1_digest 56 = .ok (.lload_n 1, 1) := by decide +kernel
theorem dX1_digest_57 : decode cX1_digest 57 = .ok (.ldc2_w 141, 3) := by decide +kernel
theorem dX1_digest_60 : decode cX1_digest 60 = .ok (.lmul, 1) := by decide +kernel
theorem dX1_digest_61 : decode cX1_digest 61 = .ok (.aload_n 0, 1) := by decide +kernel
theorem dX1_digest_62 : decode cX1_digest 62 = .ok (.iload_n 3, 1) := by decide +kernel
theorem dX1_digest_63 : decode cX1_digest 63 = .ok (.iload 4, 2) := by decide +kernel
theorem dX1_digest_65 : decode cX1_digest 65 = .ok (.invokevirtual 89, 3) := by decide +kernel
theorem dX1_digest_68 : decode cX1_digest 68 = .ok (.i2l, 1) := by decide +kernel
theorem dX1_digest_69 : decode cX1_digest 69 = .ok (.ladd, 1) := by decide +kernel
theorem dX1_digest_70 : decode cX1_digest 70 = .ok (.lstore_n 1, 1) := by decide +kernel
theorem dX1_digest_71 : decode cX1_digest 71 = .ok (.iinc 4 1, 3) := by decide +kernel
theorem dX1_digest_74 : decode cX1_digest 74 = .ok (.goto (-25), 3) := by decide +kernel
theorem dX1_digest_77 : decode cX1_digest 77 = .ok (.iconst 0, 1) := by decide +kernel
theorem dX1_digest_78 : decode cX1_digest 78 = .ok (.istore 4, 2) := by decide +kernel
theorem dX1_digest_80 : decode cX1_digest 80 = .ok (.iload 4, 2) := by decide +kernel
theorem dX1_digest_82 : decode cX1_digest 82 = .ok (.bipush 8, 2) := by decide +kernel
theorem dX1_digest_84 : decode cX1_digest 84 = .ok (.if_icmp .ge 29, 3) := by decide +kernel
theorem dX1_digest_87 : decode cX1_digest 87 = .ok (.lload_n 1, 1) := by decide +kernel
theorem dX1_digest_88 : decode cX1_digest 88 = .ok (.ldc2_w 141, 3) := by decide +kernel
theorem dX1_digest_91 : decode cX1_digest 91 = .ok (.lmul, 1) := by decide +kernel
theorem dX1_digest_92 : decode cX1_digest 92 = .ok (.aload_n 0, 1) := by decide +kernel
theorem dX1_digest_93 : decode cX1_digest 93 = .ok (.getfield 13, 3) := by decide +kernel
theorem dX1_digest_96 : decode cX1_digest 96 = .ok (.bipush 8, 2) := by decide +kernel
theorem dX1_digest_98 : decode cX1_digest 98 = .ok (.iload_n 3, 1) := by decide +kernel
theorem dX1_digest_99 : decode cX1_digest 99 = .ok (.imul, 1) := by decide +kernel
theorem dX1_digest_100 : decode cX1_digest 100 = .ok (.iload 4, 2) := by decide +kernel
theorem dX1_digest_102 : decode cX1_digest 102 = .ok (.iadd, 1) := by decide +kernel
theorem dX1_digest_103 : decode cX1_digest 103 = .ok (.iaload, 1) := by decide +kernel
theorem dX1_digest_104 : decode cX1_digest 104 = .ok (.i2l, 1) := by decide +kernel
theorem dX1_digest_105 : decode cX1_digest 105 = .ok (.ladd, 1) := by decide +kernel
theorem dX1_digest_106 : decode cX1_digest 106 = .ok (.lstore_n 1, 1) := by decide +kernel
theorem dX1_digest_107 : decode cX1_digest 107 = .ok (.iinc 4 1, 3) := by decide +kernel
theorem dX1_digest_110 : decode cX1_digest 110 = .ok (.goto (-30), 3) := by decide +kernel
theorem dX1_digest_113 : decode cX1_digest 113 = .ok (.iconst 0, 1) := by decide +kernel
theorem dX1_digest_114 : decode cX1_digest 114 = .ok (.istore 4, 2) := by decide +kernel
theorem dX1_digest_116 : decode cX1_digest 116 = .ok (.iload 4, 2) := by decide +kernel
theorem dX1_digest_118 : decode cX1_digest 118 = .ok (.aload_n 0, 1) := by decide +kernel
theorem dX1_digest_119 : decode cX1_digest 119 = .ok (.getfield 32, 3) := by decide +kernel
theorem dX1_digest_122 : decode cX1_digest 122 = .ok (.if_icmp .ge 29, 3) := by decide +kernel
theorem dX1_digest_125 : decode cX1_digest 125 = .ok (.lload_n 1, 1) := by decide +kernel
theorem dX1_digest_126 : decode cX1_digest 126 = .ok (.ldc2_w 141, 3) := by decide +kernel
theorem dX1_digest_129 : decode cX1_digest 129 = .ok (.lmul, 1) := by decide +kernel
theorem dX1_digest_130 : decode cX1_digest 130 = .ok (.aload_n 0, 1) := by decide +kernel
theorem dX1_digest_131 : decode cX1_digest 131 = .ok (.getfield 16, 3) := by decide +kernel
theorem dX1_digest_134 : decode cX1_digest 134 = .ok (.bipush 7, 2) := by decide +kernel
theorem dX1_digest_136 : decode cX1_digest 136 = .ok (.iload_n 3, 1) := by decide +kernel
theorem dX1_digest_137 : decode cX1_digest 137 = .ok (.imul, 1) := by decide +kernel
theorem dX1_digest_138 : decode cX1_digest 138 = .ok (.iload 4, 2) := by decide +kernel
theorem dX1_digest_140 : decode cX1_digest 140 = .ok (.iadd, 1) := by decide +kernel
theorem dX1_digest_141 : decode cX1_digest 141 = .ok (.iaload, 1) := by decide +kernel
theorem dX1_digest_142 : decode cX1_digest 142 = .ok (.i2l, 1) := by decide +kernel
theorem dX1_digest_143 : decode cX1_digest 143 = .ok (.ladd, 1) := by decide +kernel
theorem dX1_digest_144 : decode cX1_digest 144 = .ok (.lstore_n 1, 1) := by decide +kernel
theorem dX1_digest_145 : decode cX1_digest 145 = .ok (.iinc 4 1, 3) := by decide +kernel
theorem dX1_digest_148 : decode cX1_digest 148 = .ok (.goto (-32), 3) := by decide +kernel
theorem dX1_digest_151 : decode cX1_digest 151 = .ok (.iinc 3 1, 3) := by decide +kernel
theorem dX1_digest_154 : decode cX1_digest 154 = .ok (.goto (-116), 3) := by decide +kernel
theorem dX1_digest_157 : decode cX1_digest 157 = .ok (.iconst 0, 1) := by decide +kernel
theorem dX1_digest_158 : decode cX1_digest 158 = .ok (.istore_n 3, 1) := by decide +kernel
theorem dX1_digest_159 : decode cX1_digest 159 = .ok (.iload_n 3, 1) := by decide +kernel
theorem dX1_digest_160 : decode cX1_digest 160 = .ok (.aload_n 0, 1) := by decide +kernel
theorem dX1_digest_161 : decode cX1_digest 161 = .ok (.getfield 39, 3) := by decide +kernel
theorem dX1_digest_164 : decode cX1_digest 164 = .ok (.if_icmp .ge 40, 3) := by decide +kernel
theorem dX1_digest_167 : decode cX1_digest 167 = .ok (.iconst 0, 1) := by decide +kernel
theorem dX1_digest_168 : decode cX1_digest 168 = .ok (.istore 4, 2) := by decide +kernel
theorem dX1_digest_170 : decode cX1_digest 170 = .ok (.iload 4, 2) := by decide +kernel
theorem dX1_digest_172 : decode cX1_digest 172 = .ok (.bipush 6, 2) := by decide +kernel
theorem dX1_digest_174 : decode cX1_digest 174 = .ok (.if_icmp .ge 24, 3) := by decide +kernel
theorem dX1_digest_177 : decode cX1_digest 177 = .ok (.lload_n 1, 1) := by decide +kernel
theorem dX1_digest_178 : decode cX1_digest 178 = .ok (.ldc2_w 141, 3) := by decide +kernel
theorem dX1_digest_181 : decode cX1_digest 181 = .ok (.lmul, 1) := by decide +kernel
theorem dX1_digest_182 : decode cX1_digest 182 = .ok (.aload_n 0, 1) := by decide +kernel
theorem dX1_digest_183 : decode cX1_digest 183 = .ok (.iload_n 3, 1) := by decide +kernel
theorem dX1_digest_184 : decode cX1_digest 184 = .ok (.iload 4, 2) := by decide +kernel
theorem dX1_digest_186 : decode cX1_digest 186 = .ok (.invokevirtual 42, 3) := by decide +kernel
theorem dX1_digest_189 : decode cX1_digest 189 = .ok (.i2l, 1) := by decide +kernel
theorem dX1_digest_190 : decode cX1_digest 190 = .ok (.ladd, 1) := by decide +kernel
theorem dX1_digest_191 : decode cX1_digest 191 = .ok (.lstore_n 1, 1) := by decide +kernel
theorem dX1_digest_192 : decode cX1_digest 192 = .ok (.iinc 4 1, 3) := by decide +kernel
theorem dX1_digest_195 : decode cX1_digest 195 = .ok (.goto (-25), 3) := by decide +kernel
theorem dX1_digest_198 : decode cX1_digest 198 = .ok (.iinc 3 1, 3) := by decide +kernel
theorem dX1_digest_201 : decode cX1_digest 201 = .ok (.goto (-42), 3) := by decide +kernel
theorem dX1_digest_204 : decode cX1_digest 204 = .ok (.lload_n 1, 1) := by decide +kernel
theorem dX1_digest_205 : decode cX1_digest 205 = .ok (.lreturn, 1) := by decide +kernel
