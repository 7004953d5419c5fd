theorem dX7_startOn_1 : decode cX7_startOn 1 = .ok (.getfield 14, 3) := by decide +kernel
theorem dX7_startOn_4 : decode cX7_startOn 4 = .ok (.aload_n 1, 1) := by decide +kernel
theorem dX7_startOn_5 : decode cX7_startOn 5 = .ok (.invokevirtual 37, 3) := by decide +kernel
theorem dX7_startOn_8 : decode cX7_startOn 8 = .ok (.aload_n 0, 1) := by decide +kernel
theorem dX7_startOn_9 : decode cX7_startOn 9 = .ok (.iconst 0, 1) := by decide +kernel
theorem dX7_startOn_10 : decode cX7_startOn 10 = .ok (.putfield 33, 3) := by decide +kernel
theorem dX7_startOn_13 : decode cX7_startOn 13 = .ok (.aload_n 0, 1) := by decide +kernel
theorem dX7_startOn_14 : decode cX7_startOn 14 = .ok (.iconst 0, 1) := by decide +kernel
theorem dX7_startOn_15 : decode cX7_startOn 15 = .ok (.putfield 41, 3) := by decide +kernel
theorem dX7_startOn_18 : decode cX7_startOn 18 = .ok (.return_, 1) := by decide +kernel
theorem dX7_add_0 : decode cX7_add 0 = .ok (.aload_n 0, 1) := by decide +kernel
theorem dX7_add_1 : decode cX7_add 1 = .ok (.getfield 33, 3) := by decide +kernel
theorem dX7_add_4 : decode cX7_add 4 = .ok (.ifCond .lt 12, 3) := by decide +kernel
theorem dX7_add_7 : decode cX7_add 7 = .ok (.aload_n 0, 1) := by decide +kernel
theorem dX7_add_8 : decode cX7_add 8 = .ok (.getfield 33, 3) := by decide +kernel
theorem dX7_add_11 : decode cX7_add 11 = .ok (.bipush 24, 2) := by decide +kernel
theorem dX7_add_13 : decode cX7_add 13 = .ok (.if_icmp .lt 9, 3) := by decide +kernel
theorem dX7_add_16 : decode cX7_add 16 = .ok (.aload_n 0, 1) := by decide +kernel
theorem dX7_add_17 : decode cX7_add 17 = .ok (.iconst 1, 1) := by decide +kernel
theorem dX7_add_18 : decode cX7_add 18 = .ok (.putfield 41, 3) := by decide +kernel
theorem dX7_add_21 : decode cX7_add 21 = .ok (.return_, 1) := by decide +kernel
theorem dX7_add_22 : decode cX7_add 22 = .ok (.aload_n 0, 1) := by decide +kernel
theorem dX7_add_23 : decode cX7_add 23 = .ok (.getfield 20, 3) := by decide +kernel
theorem dX7_add_26 : decode cX7_add 26 = .ok (.aload_n 0, 1) := by decide +kernel
theorem dX7_add_27 : decode cX7_add 27 = .ok (.getfield 33, 3) := by decide +kernel
theorem dX7_add_30 : decode cX7_add 30 = .ok (.iload_n 1, 1) := by decide +kernel
theorem dX7_add_31 : decode cX7_add 31 = .ok (.iastore, 1) := by decide +kernel
theorem dX7_add_32 : decode cX7_add 32 = .ok (.aload_n 0, 1) := by decide +kernel
theorem dX7_add_33 : decode cX7_add 33 = .ok (.getfield 24, 3) := by decide +kernel
theorem dX7_add_36 : decode cX7_add 36 = .ok (.aload_n 0, 1) := by decide +kernel
theorem dX7_add_37 : decode cX7_add 37 = .ok (.getfield 33, 3) := by decide +kernel
theorem dX7_add_40 : decode cX7_add 40 = .ok (.iload_n 2, 1) := by decide +kernel
theorem dX7_add_41 : decode cX7_add 41 = .ok (.iastore, 1) := by decide +kernel
theorem dX7_add_42 : decode cX7_add 42 = .ok (.aload_n 0, 1) := by decide +kernel
theorem dX7_add_43 : decode cX7_add 43 = .ok (.getfield 27, 3) := by decide +kernel
theorem dX7_add_46 : decode cX7_add 46 = .ok (.aload_n 0, 1) := by decide +kernel
theorem dX7_add_47 : decode cX7_add 47 = .ok (.getfield 33, 3) := by decide +kernel
theorem dX7_add_50 : decode cX7_add 50 = .ok (.iload_n 3, 1) := by decide +kernel
theorem dX7_add_51 : decode cX7_add 51 = .ok (.iastore, 1) := by decide +kernel
theorem dX7_add_52 : decode cX7_add 52 = .ok (.aload_n 0, 1) := by decide +kernel
theorem dX7_add_53 : decode cX7_add 53 = .ok (.getfield 30, 3) := by decide +kernel
theorem dX7_add_56 : decode cX7_add 56 = .ok (.aload_n 0, 1) := by decide +kernel
theorem dX7_add_57 : decode cX7_add 57 = .ok (.getfield 33, 3) := by decide +kernel
theorem dX7_add_60 : decode cX7_add 60 = .ok (.iload 4, 2) := by decide +kernel
theorem dX7_add_62 : decode cX7_add 62 = .ok (.iastore, 1) := by decide +kernel
theorem dX7_add_63 : decode cX7_add 63 = .ok (.aload_n 0, 1) := by decide +kernel
theorem dX7_add_64 : decode cX7_add 64 = .ok (.dup, 1) := by decide +kernel
theorem dX7_add_65 : decode cX7_add 65 = .ok (.getfield 33, 3) := by decide +kernel
theorem dX7_add_68 : decode cX7_add 68 = .ok (.iconst 1, 1) := by decide +kernel
theorem dX7_add_69 : decode cX7_add 69 = .ok (.iadd, 1) := by decide +kernel
theorem dX7_add_70 : decode cX7_add 70 = .ok (.putfield 33, 3) := by decide +kernel
theorem dX7_add_73 : decode cX7_add 73 = .ok (.return_, 1) := by decide +kernel
theorem dX8_init_0 : decode cX8_init 0 = .ok (.aload_n 0, 1) := by decide +kernel
theorem dX8_init_1 : decode cX8_init 1 = .ok (.invokespecial 3, 3) := by decide +kernel
theorem dX8_init_4 : decode cX8_init 4 = .ok (.aload_n 0, 1) := by decide +kernel
theorem dX8_init_5 : decode cX8_init 5 = .ok (.aload_n 1, 1) := by decide +kernel
theorem dX8_init_6 : decode cX8_init 6 = .ok (.putfield 9, 3) := by decide +kernel
theorem dX8_init_9 : decode cX8_init 9 = .ok (.aload_n 0, 1) := by decide +kernel
theorem dX8_init_10 : decode cX8_init 10 = .ok (.bipush 40, 2) := by decide +kernel
theorem dX8_init_12 : decode cX8_init 12 = .ok (.anewarray 15, 3) := by decide +kernel
theorem dX8_init_15 : decode cX8_init 15 = .ok (.putfield 17, 3) := by decide +kernel
theorem dX8_init_18 : decode cX8_init 18 = .ok (.aload_n 0, 1) := by decide +kernel
theorem dX8_init_19 : decode cX8_init 19 = .ok (.bipush 8, 2) := by decide +kernel
theorem dX8_init_21 : decode cX8_init 21 = .ok (.anewarray 21, 3) := by decide +kernel
theorem dX8_init_24 : decode cX8_init 24 = .ok (.putfield 23, 3) := by decide +kernel
theorem dX8_init_27 : decode cX8_init 27 = .ok (.return_, 1) := by decide +kernel
theorem dX8_known_0 : decode cX8_known 0 = .ok (.iload_n 1, 1) := by decide +kernel
theorem dX8_known_1 : decode cX8_known 1 = .ok (.ifCond .lt 29, 3) := by decide +kernel
theorem dX8_known_4 : decode cX8_known 4 = .ok (.iload_n 1, 1) := by decide +kernel
theorem dX8_known_5 : decode cX8_known 5 = .ok (.aload_n 0, 1) := by decide +kernel
theorem dX8_known_6 : decode cX8_known 6 = .ok (.getfield 27, 3) := by decide +kernel
theorem dX8_known_9 : decode cX8_known 9 = .ok (.if_icmp .ge 21, 3) := by decide +kernel
theorem dX8_known_12 : decode cX8_known 12 = .ok (.iload_n 1, 1) := by decide +kernel
theorem dX8_known_13 : decode cX8_known 13 = .ok (.aload_n 0, 1) := by decide +kernel
theorem dX8_known_14 : decode cX8_known 14 = .ok (.getfield 17, 3) := by decide +kernel
theorem dX8_known_17 : decode cX8_known 17 = .ok (.arraylength, 1) := by decide +kernel
theorem dX8_known_18 : decode cX8_known 18 = .ok (.if_icmp .ge 12, 3) := by decide +kernel
theorem dX8_known_21 : decode cX8_known 21 = .ok (.aload_n 0, 1) := by decide +kernel
theorem dX8_known_22 : decode cX8_known 22 = .ok (.getfield 17, 3) := by decide +kernel
theorem dX8_known_25 : decode cX8_known 25 = .ok (.iload_n 1, 1) := by decide +kernel
theorem dX8_known_26 : decode cX8_known 26 = .ok (.aaload, 1) := by decide +kernel
theorem dX8_known_27 : decode cX8_known 27 = .ok (.goto 4, 3) := by decide +kernel
theorem dX8_known_30 : decode cX8_known 30 = .ok (.aconst_null, 1) := by decide +kernel
theorem dX8_known_31 : decode cX8_known 31 = .ok (.areturn, 1) := by decide +kernel
set_option maxRecDepth 20000 in
theorem ggX8_likeIn_X8_known : GoodIn wsX8_likeIn wsX8_known := goodIn_r _ [9, 1, 10, 34, 35, 36, 37, 38] (by decide +kernel) (by decide +kernel)
set_option maxRecDepth 20000 in
theorem gX8_likeIn_X8_known : GoodIn wsX8_likeIn (wsV RX8 31 RX8 yX8_known wsX8_known) := goodIn_app (goodIn_of _ (by decide +kernel)) ggX8_likeIn_X8_known
set_option maxRecDepth 20000 in
theorem ggX8_likeIn_X3_areLike : GoodIn wsX8_likeIn wsX3_areLike := goodIn_r _ [15, 16, 17, 18, 19, 20, 21, 22, 23, 24, 25, 26, 27, 28, 29, 30, 31, 14, 32, 33, 45, 46, 47, 48] (by decide +kernel) (by decide +kernel)
set_option maxRecDepth 20000 in
theorem gX8_likeIn_X3_areLike : GoodIn wsX8_likeIn (wsV RX8 42 RX3 yX3_areLike wsX3_areLike) := goodIn_app (goodIn_of _ (by decide +kernel)) ggX8_likeIn_X3_areLike
theorem dX8_likeIn_0 : decode cX8_likeIn 0 = .ok (.iconst 0, 1) := by decide +kernel
theorem dX8_likeIn_1 : decode cX8_likeIn 1 = .ok (.istore 5, 2) := by decide +kernel
theorem dX8_likeIn_3 : decode cX8_likeIn 3 = .ok (.iload 5, 2) := by decide +kernel
theorem dX8_likeIn_5 : decode cX8_likeIn 5 = .ok (.aload_n 0, 1) := by decide +kernel
theorem dX8_likeIn_6 : decode cX8_likeIn 6 = .ok (.getfield 27, 3) := by decide +kernel
theorem dX8_likeIn_9 : decode cX8_likeIn 9 = .ok (.if_icmp .ge 53, 3) := by decide +kernel
theorem dX8_likeIn_12 : decode cX8_likeIn 12 = .ok (.aload_n 0, 1) := by decide +kernel
theorem dX8_likeIn_13 : decode cX8_likeIn 13 = .ok (.iload 5, 2) := by decide +kernel
theorem dX8_likeIn_15 : decode cX8_likeIn 15 = .ok (.invokevirtual 31, 3) := by decide +kernel
theorem dX8_likeIn_18 : decode cX8_likeIn 18 = .ok (.astore 6, 2) := by decide +kernel
theorem dX8_likeIn_20 : decode cX8_likeIn 20 = .ok (.aload 6, 2) := by decide +kernel
theorem dX8_likeIn_22 : decode cX8_likeIn 22 = .ok (.ifnull 34, 3) := by decide +kernel
theorem dX8_likeIn_25 : decode cX8_likeIn 25 = .ok (.aload 6, 2) := by decide +kernel
theorem dX8_likeIn_27 : decode cX8_likeIn 27 = .ok (.getfield 35, 3) := by decide +kernel
theorem dX8_likeIn_30 : decode cX8_likeIn 30 = .ok (.iload_n 1, 1) := by decide +kernel
theorem dX8_likeIn_31 : decode cX8_likeIn 31 = .ok (.if_icmp .ne 25, 3) := by decide +kernel
theorem dX8_likeIn_34 : decode cX8_likeIn 34 = .ok (.aload_n 0, 1) := by decide +kernel
theorem dX8_likeIn_35 : decode cX8_likeIn 35 = .ok (.getfield 9, 3) := by decide +kernel
theorem dX8_likeIn_38 : decode cX8_likeIn 38 = .ok (.aload 6, 2) := by decide +kernel
theorem dX8_likeIn_40 : decode cX8_likeIn 40 = .ok (.getfield 38, 3) := by decide +kernel
theorem dX8_likeIn_43 : decode cX8_likeIn 43 = .ok (.aload_n 2, 1) := by decide +kernel
theorem dX8_likeIn_44 : decode cX8_likeIn 44 = .ok (.iload_n 3, 1) := by decide +kernel
theorem dX8_likeIn_45 : decode cX8_likeIn 45 = .ok (.iload 4, 2) := by decide +kernel
theorem dX8_likeIn_47 : decode cX8_likeIn 47 = .ok (.invokevirtual 42, 3) := by decide +kernel
theorem dX8_likeIn_50 : decode cX8_likeIn 50 = .ok (.ifCond .eq 6, 3) := by decide +kernel
theorem dX8_likeIn_53 : decode cX8_likeIn 53 = .ok (.iload 5, 2) := by decide +kernel
theorem dX8_likeIn_55 : decode cX8_likeIn 55 = .ok (.ireturn, 1) := by decide +kernel
theorem dX8_likeIn_56 : decode cX8_likeIn 56 = .ok (.iinc 5 1, 3) := by decide +kernel
theorem dX8_likeIn_59 : decode cX8_likeIn 59 = .ok (.goto (-56), 3) := by decide +kernel
theorem dX8_likeIn_62 : decode cX8_likeIn 62 = .ok (.iconst (-1), 1) := by decide +kernel
theorem dX8_likeIn_63 : decode cX8_likeIn 63 = .ok (.ireturn, 1) := by decide +kernel
set_option maxRecDepth 20000 in
theorem ggX8_joinLike_X3_areLike : GoodIn wsX8_joinLike wsX3_areLike := goodIn_r _ [9, 10, 11, 12, 13, 14, 15, 16, 17, 18, 19, 20, 21, 22, 23, 24, 25, 8, 26, 27, 36, 37, 38, 39] (by decide +kernel) (by decide +kernel)
set_option maxRecDepth 20000 in
theorem gX8_joinLike_X3_areLike : GoodIn wsX8_joinLike (wsV RX8 42 RX3 yX3_areLike wsX3_areLike) := goodIn_app (goodIn_of _ (by decide +kernel)) ggX8_joinLike_X3_areLike
theorem dX8_joinLike_0 : decode cX8_joinLike 0 = .ok (.iconst 0, 1) := by decide +kernel
theorem dX8_joinLike_1 : decode cX8_joinLike 1 = .ok (.istore 4, 2) := by decide +kernel
theorem dX8_joinLike_3 : decode cX8_joinLike 3 = .ok (.iload 4, 2) := by decide +kernel
theorem dX8_joinLike_5 : decode cX8_joinLike 5 = .ok (.aload_n 0, 1) := by decide +kernel
theorem dX8_joinLike_6 : decode cX8_joinLike 6 = .ok (.getfield 48, 3) := by decide +kernel
theorem dX8_joinLike_9 : decode cX8_joinLike 9 = .ok (.if_icmp .ge 54, 3) := by decide +kernel
theorem dX8_joinLike_12 : decode cX8_joinLike 12 = .ok (.iload 4, 2) := by decide +kernel
theorem dX8_joinLike_14 : decode cX8_joinLike 14 = .ok (.aload_n 0, 1) := by decide +kernel
theorem dX8_joinLike_15 : decode cX8_joinLike 15 = .ok (.getfield 23, 3) := by decide +kernel
theorem dX8_joinLike_18 : decode cX8_joinLike 18 = .ok (.arraylength, 1) := by decide +kernel
theorem dX8_joinLike_19 : decode cX8_joinLike 19 = .ok (.if_icmp .ge 44, 3) := by decide +kernel
theorem dX8_joinLike_22 : decode cX8_joinLike 22 = .ok (.aload_n 0, 1) := by decide +kernel
theorem dX8_joinLike_23 : decode cX8_joinLike 23 = .ok (.getfield 23, 3) := by decide +kernel
theorem dX8_joinLike_26 : decode cX8_joinLike 26 = .ok (.iload 4, 2) := by decide +kernel
theorem dX8_joinLike_28 : decode cX8_joinLike 28 = .ok (.aaload, 1) := by decide +kernel
theorem dX8_joinLike_29 : decode cX8_joinLike 29 = .ok (.astore 5, 2) := by decide +kernel
theorem dX8_joinLike_31 : decode cX8_joinLike 31 = .ok (.aload 5, 2) := by decide +kernel
theorem dX8_joinLike_33 : decode cX8_joinLike 33 = .ok (.ifnull 24, 3) := by decide +kernel
theorem dX8_joinLike_36 : decode cX8_joinLike 36 = .ok (.aload_n 0, 1) := by decide +kernel
theorem dX8_joinLike_37 : decode cX8_joinLike 37 = .ok (.getfield 9, 3) := by decide +kernel
theorem dX8_joinLike_40 : decode cX8_joinLike 40 = .ok (.aload 5, 2) := by decide +kernel
theorem dX8_joinLike_42 : decode cX8_joinLike 42 = .ok (.getfield 51, 3) := by decide +kernel
theorem dX8_joinLike_45 : decode cX8_joinLike 45 = .ok (.aload_n 1, 1) := by decide +kernel
theorem dX8_joinLike_46 : decode cX8_joinLike 46 = .ok (.iload_n 2, 1) := by decide +kernel
theorem dX8_joinLike_47 : decode cX8_joinLike 47 = .ok (.iload_n 3, 1) := by decide +kernel
theorem dX8_joinLike_48 : decode cX8_joinLike 48 = .ok (.invokevirtual 42, 3) := by decide +kernel
theorem dX8_joinLike_51 : decode cX8_joinLike 51 = .ok (.ifCond .eq 6, 3) := by decide +kernel
theorem dX8_joinLike_54 : decode cX8_joinLike 54 = .ok (.aload 5, 2) := by decide +kernel
theorem dX8_joinLike_56 : decode cX8_joinLike 56 = .ok (.areturn, 1) := by decide +kernel
theorem dX8_joinLike_57 : decode cX8_joinLike 57 = .ok (.iinc 4 1, 3) := by decide +kernel
theorem dX8_joinLike_60 : decode cX8_joinLike 60 = .ok (.goto (-57), 3) := by decide +kernel
theorem dX8_joinLike_63 : decode cX8_joinLike 63 = .ok (.aconst_null, 1) := by decide +kernel
theorem dX8_joinLike_64 : decode cX8_joinLike 64 = .ok (.areturn, 1) := by decide +kernel
set_option maxRecDepth 20000 in
theorem ggX8_addWord_X9_init : GoodIn wsX8_addWord wsX9_init := goodIn_r _ [8, 9, 10, 11, 12, 13, 14, 15, 16, 17, 18, 19, 20, 21, 22, 23, 24, 25, 26, 27, 28, 29, 30, 31, 32, 33, 34, 35, 36, 37, 38, 39, 40, 41, 42, 43, 44, 45, 57, 58, 51, 52, 53, 54, 55, 56] (by decide +kernel) (by decide +kernel)
set_option maxRecDepth 20000 in
theorem gX8_addWord_X9_init : GoodIn wsX8_addWord (wsX9_init) := ggX8_addWord_X9_init
theorem dX8_addWord_0 : decode cX8_addWord 0 = .ok (.aload_n 0, 1) := by decide +kernel
theorem dX8_addWord_1 : decode cX8_addWord 1 = .ok (.getfield 27, 3) := by decide +kernel
theorem dX8_addWord_4 : decode cX8_addWord 4 = .ok (.ifCond .lt 15, 3) := by decide +kernel
theorem dX8_addWord_7 : decode cX8_addWord 7 = .ok (.aload_n 0, 1) := by decide +kernel
theorem dX8_addWord_8 : decode cX8_addWord 8 = .ok (.getfield 27, 3) := by decide +kernel
theorem dX8_addWord_11 : decode cX8_addWord 11 = .ok (.aload_n 0, 1) := by decide +kernel
theorem dX8_addWord_12 : decode cX8_addWord 12 = .ok (.getfield 17, 3) := by decide +kernel
theorem dX8_addWord_15 : decode cX8_addWord 15 = .ok (.arraylength, 1) := by decide +kernel
theorem dX8_addWord_16 : decode cX8_addWord 16 = .ok (.if_icmp .lt 5, 3) := by decide +kernel
theorem dX8_addWord_19 : decode cX8_addWord 19 = .ok (.iconst (-1), 1) := by decide +kernel
theorem dX8_addWord_20 : decode cX8_addWord 20 = .ok (.ireturn, 1) := by decide +kernel
theorem dX8_addWord_21 : decode cX8_addWord 21 = .ok (.aload_n 0, 1) := by decide +kernel
theorem dX8_addWord_22 : decode cX8_addWord 22 = .ok (.getfield 17, 3) := by decide +kernel
theorem dX8_addWord_25 : decode cX8_addWord 25 = .ok (.aload_n 0, 1) := by decide +kernel
theorem dX8_addWord_26 : decode cX8_addWord 26 = .ok (.getfield 27, 3) := by decide +kernel
theorem dX8_addWord_29 : decode cX8_addWord 29 = .ok (.new 15, 3) := by decide +kernel
theorem dX8_addWord_32 : decode cX8_addWord 32 = .ok (.dup, 1) := by decide +kernel
theorem dX8_addWord_33 : decode cX8_addWord 33 = .ok (.aload_n 1, 1) := by decide +kernel
theorem dX8_addWord_34 : decode cX8_addWord 34 = .ok (.iload_n 2, 1) := by decide +kernel
theorem dX8_addWord_35 : decode cX8_addWord 35 = .ok (.invokespecial 52, 3) := by decide +kernel
theorem dX8_addWord_38 : decode cX8_addWord 38 = .ok (.aastore, 1) := by decide +kernel
theorem dX8_addWord_39 : decode cX8_addWord 39 = .ok (.aload_n 0, 1) := by decide +kernel
theorem dX8_addWord_40 : decode cX8_addWord 40 = .ok (.dup, 1) := by decide +kernel
theorem dX8_addWord_41 : decode cX8_addWord 41 = .ok (.getfield 27, 3) := by decide +kernel
theorem dX8_addWord_44 : decode cX8_addWord 44 = .ok (.iconst 1, 1) := by decide +kernel
theorem dX8_addWord_45 : decode cX8_addWord 45 = .ok (.iadd, 1) := by decide +kernel
theorem dX8_addWord_46 : decode cX8_addWord 46 = .ok (.putfield 27, 3) := by decide +kernel
theorem dX8_addWord_49 : decode cX8_addWord 49 = .ok (.aload_n 0, 1) := by decide +kernel
theorem dX8_addWord_50 : decode cX8_addWord 50 = .ok (.getfield 27, 3) := by decide +kernel
theorem dX8_addWord_53 : decode cX8_addWord 53 = .ok (.iconst 1, 1) := by decide +kernel
theorem dX8_addWord_54 : decode cX8_addWord 54 = .ok (.isub, 1) := by decide +kernel
theorem dX8_addWord_55 : decode cX8_addWord 55 = .ok (.ireturn, 1) := by decide +kernel
set_option maxRecDepth 20000 in
theorem ggX8_addJoin_X2_init : GoodIn wsX8_addJoin wsX2_init := goodIn_r _ [8, 9, 10, 11, 12, 13, 14, 15, 16, 17, 18, 19, 20, 21, 22, 23, 24, 25, 26, 27, 28, 29, 30, 31, 32, 33, 34, 35, 36, 37, 38, 39, 40, 41, 42, 43, 44, 45, 54, 55, 51, 52, 53] (by decide +kernel) (by decide +kernel)
set_option maxRecDepth 20000 in
theorem gX8_addJoin_X2_init : GoodIn wsX8_addJoin (wsX2_init) := ggX8_addJoin_X2_init
theorem dX8_addJoin_0 : decode cX8_addJoin 0 = .ok (.aload_n 0, 1) := by decide +kernel
theorem dX8_addJoin_1 : decode cX8_addJoin 1 = .ok (.getfield 48, 3) := by decide +kernel
theorem dX8_addJoin_4 : decode cX8_addJoin 4 = .ok (.ifCond .lt 15, 3) := by decide +kernel
theorem dX8_addJoin_7 : decode cX8_addJoin 7 = .ok (.aload_n 0, 1) := by decide +kernel
theorem dX8_addJoin_8 : decode cX8_addJoin 8 = .ok (.getfield 48, 3) := by decide +kernel
theorem dX8_addJoin_11 : decode cX8_addJoin 11 = .ok (.aload_n 0, 1) := by decide +kernel
theorem dX8_addJoin_12 : decode cX8_addJoin 12 = .ok (.getfield 23, 3) := by decide +kernel
theorem dX8_addJoin_15 : decode cX8_addJoin 15 = .ok (.arraylength, 1) := by decide +kernel
theorem dX8_addJoin_16 : decode cX8_addJoin 16 = .ok (.if_icmp .lt 5, 3) := by decide +kernel
theorem dX8_addJoin_19 : decode cX8_addJoin 19 = .ok (.iconst 0, 1) := by decide +kernel
theorem dX8_addJoin_20 : decode cX8_addJoin 20 = .ok (.ireturn, 1) := by decide +kernel
theorem dX8_addJoin_21 : decode cX8_addJoin 21 = .ok (.aload_n 0, 1) := by decide +kernel
theorem dX8_addJoin_22 : decode cX8_addJoin 22 = .ok (.getfield 23, 3) := by decide +kernel
theorem dX8_addJoin_25 : decode cX8_addJoin 25 = .ok (.aload_n 0, 1) := by decide +kernel
theorem dX8_addJoin_26 : decode cX8_addJoin 26 = .ok (.getfield 48, 3) := by decide +kernel
theorem dX8_addJoin_29 : decode cX8_addJoin 29 = .ok (.new 21, 3) := by decide +kernel
theorem dX8_addJoin_32 : decode cX8_addJoin 32 = .ok (.dup, 1) := by decide +kernel
theorem dX8_addJoin_33 : decode cX8_addJoin 33 = .ok (.aload_n 1, 1) := by decide +kernel
theorem dX8_addJoin_34 : decode cX8_addJoin 34 = .ok (.iload_n 2, 1) := by decide +kernel
theorem dX8_addJoin_35 : decode cX8_addJoin 35 = .ok (.iload_n 3, 1) := by decide +kernel
theorem dX8_addJoin_36 : decode cX8_addJoin 36 = .ok (.invokespecial 55, 3) := by decide +kernel
theorem dX8_addJoin_39 : decode cX8_addJoin 39 = .ok (.aastore, 1) := by decide +kernel
theorem dX8_addJoin_40 : decode cX8_addJoin 40 = .ok (.aload_n 0, 1) := by decide +kernel
theorem dX8_addJoin_41 : decode cX8_addJoin 41 = .ok (.dup, 1) := by decide +kernel
theorem dX8_addJoin_42 : decode cX8_addJoin 42 = .ok (.getfield 48, 3) := by decide +kernel
theorem dX8_addJoin_45 : decode cX8_addJoin 45 = .ok (.iconst 1, 1) := by decide +kernel
theorem dX8_addJoin_46 : decode cX8_addJoin 46 = .ok (.iadd, 1) := by decide +kernel
theorem dX8_addJoin_47 : decode cX8_addJoin 47 = .ok (.putfield 48, 3) := by decide +kernel
theorem dX8_addJoin_50 : decode cX8_addJoin 50 = .ok (.iconst 1, 1) := by decide +kernel
theorem dX8_addJoin_51 : decode cX8_addJoin 51 = .ok (.ireturn, 1) := by decide +kernel
set_option maxRecDepth 20000 in
theorem ggX9_init_X4_init : GoodIn wsX9_init wsX4_init := goodIn_r _ [13, 14, 2, 3, 15, 16, 17, 18, 19, 20, 38, 39] (by decide +kernel) (by decide +kernel)
set_option maxRecDepth 20000 in
theorem gX9_init_X4_init : GoodIn wsX9_init (wsX4_init) := ggX9_init_X4_init
set_option maxRecDepth 20000 in
theorem ggX9_init_X4_copyFrom : GoodIn wsX9_init wsX4_copyFrom := goodIn_r _ [24, 25, 26, 27, 28, 6, 29, 30, 31, 32, 33, 20, 34, 35, 36, 37, 38, 39] (by decide +kernel) (by decide +kernel)
set_option maxRecDepth 20000 in
theorem gX9_init_X4_copyFrom : GoodIn wsX9_init (wsV RX9 24 RX4 yX4_copyFrom wsX4_copyFrom) := goodIn_app (goodIn_of _ (by decide +kernel)) ggX9_init_X4_copyFrom
theorem dX9_init_0 : decode cX9_init 0 = .ok (.aload_n 0, 1) := by decide +kernel
theorem dX9_init_1 : decode cX9_init 1 = .ok (.invokespecial 3, 3) := by decide +kernel
theorem dX9_init_4 : decode cX9_init 4 = .ok (.aload_n 0, 1) := by decide +kernel
theorem dX9_init_5 : decode cX9_init 5 = .ok (.new 9, 3) := by decide +kernel
theorem dX9_init_8 : decode cX9_init 8 = .ok (.dup, 1) := by decide +kernel
theorem dX9_init_9 : decode cX9_init 9 = .ok (.aload_n 1, 1) := by decide +kernel
theorem dX9_init_10 : decode cX9_init 10 = .ok (.getfield 11, 3) := by decide +kernel
theorem dX9_init_13 : decode cX9_init 13 = .ok (.invokespecial 15, 3) := by decide +kernel
theorem dX9_init_16 : decode cX9_init 16 = .ok (.putfield 18, 3) := by decide +kernel
theorem dX9_init_19 : decode cX9_init 19 = .ok (.aload_n 0, 1) := by decide +kernel
theorem dX9_init_20 : decode cX9_init 20 = .ok (.getfield 18, 3) := by decide +kernel
theorem dX9_init_23 : decode cX9_init 23 = .ok (.aload_n 1, 1) := by decide +kernel
theorem dX9_init_24 : decode cX9_init 24 = .ok (.invokevirtual 24, 3) := by decide +kernel
theorem dX9_init_27 : decode cX9_init 27 = .ok (.aload_n 0, 1) := by decide +kernel
theorem dX9_init_28 : decode cX9_init 28 = .ok (.iload_n 2, 1) := by decide +kernel
theorem dX9_init_29 : decode cX9_init 29 = .ok (.putfield 28, 3) := by decide +kernel
theorem dX9_init_32 : decode cX9_init 32 = .ok (.aload_n 0, 1) := by decide +kernel
theorem dX9_init_33 : decode cX9_init 33 = .ok (.iconst (-1), 1) := by decide +kernel
theorem dX9_init_34 : decode cX9_init 34 = .ok (.putfield 31, 3) := by decide +kernel
theorem dX9_init_37 : decode cX9_init 37 = .ok (.return_, 1) := by decide +kernel
theorem dX9_isOneOf_0 : decode cX9_isOneOf 0 = .ok (.aload_n 0, 1) := by decide +kernel
theorem dX9_isOneOf_1 : decode cX9_isOneOf 1 = .ok (.getfield 34, 3) := by decide +kernel
theorem dX9_isOneOf_4 : decode cX9_isOneOf 4 = .ok (.iload_n 1, 1) := by decide +kernel
theorem dX9_isOneOf_5 : decode cX9_isOneOf 5 = .ok (.iand, 1) := by decide +kernel
theorem dX9_isOneOf_6 : decode cX9_isOneOf 6 = .ok (.ifCond .eq 7, 3) := by decide +kernel
theorem dX9_isOneOf_9 : decode cX9_isOneOf 9 = .ok (.iconst 1, 1) := by decide +kernel
theorem dX9_isOneOf_10 : decode cX9_isOneOf 10 = .ok (.goto 4, 3) := by decide +kernel
theorem dX9_isOneOf_13 : decode cX9_isOneOf 13 = .ok (.iconst 0, 1) := by decide +kernel
theorem dX9_isOneOf_14 : decode cX9_isOneOf 14 = .ok (.ireturn, 1) := by decide +kernel
set_option maxRecDepth 20000 in
theorem ggX10_init_X3_init : GoodIn wsX10_init wsX3_init := goodIn_r _ [47, 48, 2, 3, 49, 50, 51, 98, 99] (by decide +kernel) (by decide +kernel)
set_option maxRecDepth 20000 in
theorem gX10_init_X3_init : GoodIn wsX10_init (wsX3_init) := ggX10_init_X3_init
set_option maxRecDepth 20000 in
theorem ggX10_init_X4_init : GoodIn wsX10_init wsX4_init := goodIn_r _ [54, 55, 2, 3, 56, 12, 9, 13, 50, 57, 110, 111] (by decide +kernel) (by decide +kernel)
set_option maxRecDepth 20000 in
theorem gX10_init_X4_init : GoodIn wsX10_init (wsX4_init) := ggX10_init_X4_init
set_option maxRecDepth 20000 in
theorem ggX10_init_X8_init : GoodIn wsX10_init wsX8_init := goodIn_r _ [60, 61, 2, 3, 62, 63, 64, 65, 66, 112, 113, 114, 115, 116] (by decide +kernel) (by decide +kernel)
set_option maxRecDepth 20000 in
theorem gX10_init_X8_init : GoodIn wsX10_init (wsX8_init) := ggX10_init_X8_init
set_option maxRecDepth 20000 in
theorem ggX10_init_X1_init : GoodIn wsX10_init wsX1_init := goodIn_r _ [69, 70, 2, 3, 71, 72, 73, 117, 118, 119, 120, 121] (by decide +kernel) (by decide +kernel)
set_option maxRecDepth 20000 in
theorem gX10_init_X1_init : GoodIn wsX10_init (wsX1_init) := ggX10_init_X1_init
set_option maxRecDepth 20000 in
theorem ggX10_init_X6_init : GoodIn wsX10_init wsX6_init := goodIn_r _ [76, 77, 2, 3, 50, 78, 79, 80, 122, 123, 124, 125, 126, 127] (by decide +kernel) (by decide +kernel)
set_option maxRecDepth 20000 in
theorem gX10_init_X6_init : GoodIn wsX10_init (wsX6_init) := ggX10_init_X6_init
set_option maxRecDepth 20000 in
theorem ggX10_init_X5_init : GoodIn wsX10_init wsX5_init := goodIn_r _ [82, 83, 2, 3] (by decide +kernel) (by decide +kernel)
set_option maxRecDepth 20000 in
theorem gX10_init_X5_init_n64 : GoodIn wsX10_init (wsX5_init) := ggX10_init_X5_init
set_option maxRecDepth 20000 in
theorem ggX10_init_X0_init : GoodIn wsX10_init wsX0_init := goodIn_r _ [85, 86, 2, 3] (by decide +kernel) (by decide +kernel)
set_option maxRecDepth 20000 in
theorem gX10_init_X0_init_n71 : GoodIn wsX10_init (wsX0_init) := ggX10_init_X0_init
set_option maxRecDepth 20000 in
theorem ggX10_init_X7_init : GoodIn wsX10_init wsX7_init := goodIn_r _ [89, 90, 2, 3, 91, 16, 17, 92, 50, 93, 94, 95, 96, 97, 53, 54, 55, 56, 12, 9, 13, 57, 110, 111, 133, 134, 135, 136, 137, 138, 139] (by decide +kernel) (by decide +kernel)
set_option maxRecDepth 20000 in
theorem gX10_init_X7_init : GoodIn wsX10_init (wsX7_init) := ggX10_init_X7_init
theorem dX10_init_0 : decode cX10_init 0 = .ok (.aload_n 0, 1) := by decide +kernel
theorem dX10_init_1 : decode cX10_init 1 = .ok (.invokespecial 3, 3) := by decide +kernel
theorem dX10_init_4 : decode cX10_init 4 = .ok (.aload_n 0, 1) := by decide +kernel
theorem dX10_init_5 : decode cX10_init 5 = .ok (.new 9, 3) := by decide +kernel
theorem dX10_init_8 : decode cX10_init 8 = .ok (.dup, 1) := by decide +kernel
theorem dX10_init_9 : decode cX10_init 9 = .ok (.iconst 1, 1) := by decide +kernel
theorem dX10_init_10 : decode cX10_init 10 = .ok (.bipush 12, 2) := by decide +kernel
theorem dX10_init_12 : decode cX10_init 12 = .ok (.iload_n 1, 1) := by decide +kernel
theorem dX10_init_13 : decode cX10_init 13 = .ok (.invokestatic 11, 3) := by decide +kernel
theorem dX10_init_16 : decode cX10_init 16 = .ok (.invokestatic 17, 3) := by decide +kernel
theorem dX10_init_19 : decode cX10_init 19 = .ok (.invokespecial 20, 3) := by decide +kernel
theorem dX10_init_22 : decode cX10_init 22 = .ok (.putfield 23, 3) := by decide +kernel
theorem dX10_init_25 : decode cX10_init 25 = .ok (.aload_n 0, 1) := by decide +kernel
theorem dX10_init_26 : decode cX10_init 26 = .ok (.new 27, 3) := by decide +kernel
theorem dX10_init_29 : decode cX10_init 29 = .ok (.dup, 1) := by decide +kernel
theorem dX10_init_30 : decode cX10_init 30 = .ok (.bipush 20, 2) := by decide +kernel
theorem dX10_init_32 : decode cX10_init 32 = .ok (.invokespecial 29, 3) := by decide +kernel
theorem dX10_init_35 : decode cX10_init 35 = .ok (.putfield 30, 3) := by decide +kernel
theorem dX10_init_38 : decode cX10_init 38 = .ok (.aload_n 0, 1) := by decide +kernel
theorem dX10_init_39 : decode cX10_init 39 = .ok (.new 34, 3) := by decide +kernel
theorem dX10_init_42 : decode cX10_init 42 = .ok (.dup, 1) := by decide +kernel
theorem dX10_init_43 : decode cX10_init 43 = .ok (.aload_n 0, 1) := by decide +kernel
theorem dX10_init_44 : decode cX10_init 44 = .ok (.getfield 23, 3) := by decide +kernel
theorem dX10_init_47 : decode cX10_init 47 = .ok (.invokespecial 36, 3) := by decide +kernel
theorem dX10_init_50 : decode cX10_init 50 = .ok (.putfield 39, 3) := by decide +kernel
theorem dX10_init_53 : decode cX10_init 53 = .ok (.aload_n 0, 1) := by decide +kernel
theorem dX10_init_54 : decode cX10_init 54 = .ok (.new 27, 3) := by decide +kernel
theorem dX10_init_57 : decode cX10_init 57 = .ok (.dup, 1) := by decide +kernel
theorem dX10_init_58 : decode cX10_init 58 = .ok (.bipush 80, 2) := by decide +kernel
theorem dX10_init_60 : decode cX10_init 60 = .ok (.invokespecial 29, 3) := by decide +kernel
theorem dX10_init_63 : decode cX10_init 63 = .ok (.putfield 43, 3) := by decide +kernel
theorem dX10_init_66 : decode cX10_init 66 = .ok (.aload_n 0, 1) := by decide +kernel
theorem dX10_init_67 : decode cX10_init 67 = .ok (.new 46, 3) := by decide +kernel
theorem dX10_init_70 : decode cX10_init 70 = .ok (.dup, 1) := by decide +kernel
theorem dX10_init_71 : decode cX10_init 71 = .ok (.aload_n 0, 1) := by decide +kernel
theorem dX10_init_72 : decode cX10_init 72 = .ok (.getfield 23, 3) := by decide +kernel
theorem dX10_init_75 : decode cX10_init 75 = .ok (.aload_n 0, 1) := by decide +kernel
theorem dX10_init_76 : decode cX10_init 76 = .ok (.getfield 39, 3) := by decide +kernel
theorem dX10_init_79 : decode cX10_init 79 = .ok (.aload_n 0, 1) := by decide +kernel
theorem dX10_init_80 : decode cX10_init 80 = .ok (.getfield 43, 3) := by decide +kernel
theorem dX10_init_83 : decode cX10_init 83 = .ok (.invokespecial 48, 3) := by decide +kernel
theorem dX10_init_86 : decode cX10_init 86 = .ok (.putfield 51, 3) := by decide +kernel
theorem dX10_init_89 : decode cX10_init 89 = .ok (.aload_n 0, 1) := by decide +kernel
theorem dX10_init_90 : decode cX10_init 90 = .ok (.new 55, 3) := by decide +kernel
theorem dX10_init_93 : decode cX10_init 93 = .ok (.dup, 1) := by decide +kernel
theorem dX10_init_94 : decode cX10_init 94 = .ok (.invokespecial 57, 3) := by decide +kernel
theorem dX10_init_97 : decode cX10_init 97 = .ok (.putfield 58, 3) := by decide +kernel
theorem dX10_init_100 : decode cX10_init 100 = .ok (.aload_n 0, 1) := by decide +kernel
theorem dX10_init_101 : decode cX10_init 101 = .ok (.new 62, 3) := by decide +kernel
theorem dX10_init_104 : decode cX10_init 104 = .ok (.dup, 1) := by decide +kernel
theorem dX10_init_105 : decode cX10_init 105 = .ok (.invokespecial 64, 3) := by decide +kernel
theorem dX10_init_108 : decode cX10_init 108 = .ok (.putfield 65, 3) := by decide +kernel
theorem dX10_init_111 : decode cX10_init 111 = .ok (.aload_n 0, 1) := by decide +kernel
theorem dX10_init_112 : decode cX10_init 112 = .ok (.new 69, 3) := by decide +kernel
theorem dX10_init_115 : decode cX10_init 115 = .ok (.dup, 1) := by decide +kernel
theorem dX10_init_116 : decode cX10_init 116 = .ok (.invokespecial 71, 3) := by decide +kernel
theorem dX10_init_119 : decode cX10_init 119 = .ok (.putfield 72, 3) := by decide +kernel
theorem dX10_init_122 : decode cX10_init 122 = .ok (.aload_n 0, 1) := by decide +kernel
theorem dX10_init_123 : decode cX10_init 123 = .ok (.new 76, 3) := by decide +kernel
theorem dX10_init_126 : decode cX10_init 126 = .ok (.dup, 1) := by decide +kernel
theorem dX10_init_127 : decode cX10_init 127 = .ok (.invokespecial 78, 3) := by decide +kernel
theorem dX10_init_130 : decode cX10_init 130 = .ok (.putfield 79, 3) := by decide +kernel
theorem dX10_init_133 : decode cX10_init 133 = .ok (.aload_n 0, 1) := by decide +kernel
theorem dX10_init_134 : decode cX10_init 134 = .ok (.new 76, 3) := by decide +kernel
theorem dX10_init_137 : decode cX10_init 137 = .ok (.dup, 1) := by decide +kernel
theorem dX10_init_138 : decode cX10_init 138 = .ok (.invokespecial 78, 3) := by decide +kernel
theorem dX10_init_141 : decode cX10_init 141 = .ok (.putfield 83, 3) := by decide +kernel
theorem dX10_init_144 : decode cX10_init 144 = .ok (.return_, 1) := by decide +kernel
set_option maxRecDepth 20000 in
theorem ggX10_fold_X3_isFoldable : GoodIn wsX10_fold wsX3_isFoldable := goodIn_r _ [8] (by decide +kernel) (by decide +kernel)
set_option maxRecDepth 20000 in
theorem gX10_fold_X3_isFoldable : GoodIn wsX10_fold (va_wsS RX10 86 yX3_isFoldable wsX3_isFoldable) := goodIn_app (goodIn_of _ (by decide +kernel)) ggX10_fold_X3_isFoldable
set_option maxRecDepth 20000 in
theorem ggX10_fold_X3_isSmall : GoodIn wsX10_fold wsX3_isSmall := goodIn_r _ [11] (by decide +kernel) (by decide +kernel)
set_option maxRecDepth 20000 in
theorem gX10_fold_X3_isSmall : GoodIn wsX10_fold (va_wsS RX10 90 yX3_isSmall wsX3_isSmall) := goodIn_app (goodIn_of _ (by decide +kernel)) ggX10_fold_X3_isSmall
set_option maxRecDepth 20000 in
theorem ggX10_fold_X3_folded : GoodIn wsX10_fold wsX3_folded := goodIn_r _ [15, 16, 36, 37] (by decide +kernel) (by decide +kernel)
set_option maxRecDepth 20000 in
theorem gX10_fold_X3_folded : GoodIn wsX10_fold (wsV RX10 100 RX3 yX3_folded wsX3_folded) := goodIn_app (goodIn_of _ (by decide +kernel)) ggX10_fold_X3_folded
set_option maxRecDepth 20000 in
theorem ggX10_fold_X3_changeFold : GoodIn wsX10_fold wsX3_changeFold := goodIn_r _ [20, 16, 36, 37] (by decide +kernel) (by decide +kernel)
set_option maxRecDepth 20000 in
theorem gX10_fold_X3_changeFold : GoodIn wsX10_fold (wsV RX10 104 RX3 yX3_changeFold wsX3_changeFold) := goodIn_app (goodIn_of _ (by decide +kernel)) ggX10_fold_X3_changeFold
theorem dX10_fold_0 : decode cX10_fold 0 = .ok (.iload_n 1, 1) := by decide +kernel
theorem dX10_fold_1 : decode cX10_fold 1 = .ok (.invokestatic 86, 3) := by decide +kernel
theorem dX10_fold_4 : decode cX10_fold 4 = .ok (.ifCond .eq 10, 3) := by decide +kernel
theorem dX10_fold_7 : decode cX10_fold 7 = .ok (.iload_n 2, 1) := by decide +kernel
theorem dX10_fold_8 : decode cX10_fold 8 = .ok (.invokestatic 90, 3) := by decide +kernel
theorem dX10_fold_11 : decode cX10_fold 11 = .ok (.ifCond .ne 6, 3) := by decide +kernel
theorem dX10_fold_14 : decode cX10_fold 14 = .ok (.bipush (-3), 2) := by decide +kernel
theorem dX10_fold_16 : decode cX10_fold 16 = .ok (.ireturn, 1) := by decide +kernel
theorem dX10_fold_17 : decode cX10_fold 17 = .ok (.aload_n 0, 1) := by decide +kernel
theorem dX10_fold_18 : decode cX10_fold 18 = .ok (.getfield 39, 3) := by decide +kernel
theorem dX10_fold_21 : decode cX10_fold 21 = .ok (.getfield 93, 3) := by decide +kernel
theorem dX10_fold_24 : decode cX10_fold 24 = .ok (.ifCond .gt 13, 3) := by decide +kernel
theorem dX10_fold_27 : decode cX10_fold 27 = .ok (.aload_n 0, 1) := by decide +kernel
theorem dX10_fold_28 : decode cX10_fold 28 = .ok (.getfield 39, 3) := by decide +kernel
theorem dX10_fold_31 : decode cX10_fold 31 = .ok (.getfield 97, 3) := by decide +kernel
theorem dX10_fold_34 : decode cX10_fold 34 = .ok (.ifCond .le 6, 3) := by decide +kernel
theorem dX10_fold_37 : decode cX10_fold 37 = .ok (.bipush (-4), 2) := by decide +kernel
theorem dX10_fold_39 : decode cX10_fold 39 = .ok (.ireturn, 1) := by decide +kernel
theorem dX10_fold_40 : decode cX10_fold 40 = .ok (.aload_n 0, 1) := by decide +kernel
theorem dX10_fold_41 : decode cX10_fold 41 = .ok (.getfield 23, 3) := by decide +kernel
theorem dX10_fold_44 : decode cX10_fold 44 = .ok (.iload_n 1, 1) := by decide +kernel
theorem dX10_fold_45 : decode cX10_fold 45 = .ok (.invokevirtual 100, 3) := by decide +kernel
theorem dX10_fold_48 : decode cX10_fold 48 = .ok (.istore_n 3, 1) := by decide +kernel
theorem dX10_fold_49 : decode cX10_fold 49 = .ok (.aload_n 0, 1) := by decide +kernel
theorem dX10_fold_50 : decode cX10_fold 50 = .ok (.getfield 23, 3) := by decide +kernel
theorem dX10_fold_53 : decode cX10_fold 53 = .ok (.iload_n 1, 1) := by decide +kernel
theorem dX10_fold_54 : decode cX10_fold 54 = .ok (.iload_n 2, 1) := by decide +kernel
theorem dX10_fold_55 : decode cX10_fold 55 = .ok (.invokevirtual 104, 3) := by decide +kernel
theorem dX10_fold_58 : decode cX10_fold 58 = .ok (.iload_n 3, 1) := by decide +kernel
theorem dX10_fold_59 : decode cX10_fold 59 = .ok (.ireturn, 1) := by decide +kernel
set_option maxRecDepth 20000 in
theorem ggX10_letter_X3_isLetter : GoodIn wsX10_letter wsX3_isLetter := goodIn_r _ [6, 7, 8, 5, 9, 10, 11, 12] (by decide +kernel) (by decide +kernel)
set_option maxRecDepth 20000 in
theorem gX10_letter_X3_isLetter : GoodIn wsX10_letter (va_wsS RX10 108 yX3_isLetter wsX3_isLetter) := goodIn_app (goodIn_of _ (by decide +kernel)) ggX10_letter_X3_isLetter
set_option maxRecDepth 20000 in
theorem ggX10_letter_X4_isFull : GoodIn wsX10_letter wsX4_isFull := goodIn_r _ [17, 18, 19, 34, 35] (by decide +kernel) (by decide +kernel)
set_option maxRecDepth 20000 in
theorem gX10_letter_X4_isFull : GoodIn wsX10_letter (wsV RX10 111 RX4 yX4_isFull wsX4_isFull) := goodIn_app (goodIn_of _ (by decide +kernel)) ggX10_letter_X4_isFull
set_option maxRecDepth 20000 in
theorem ggX10_letter_X4_put : GoodIn wsX10_letter wsX4_put := goodIn_r _ [23, 18, 19, 34, 35] (by decide +kernel) (by decide +kernel)
set_option maxRecDepth 20000 in
theorem gX10_letter_X4_put : GoodIn wsX10_letter (wsV RX10 115 RX4 yX4_put wsX4_put) := goodIn_app (goodIn_of _ (by decide +kernel)) ggX10_letter_X4_put
theorem dX10_letter_0 : decode cX10_letter 0 = .ok (.iload_n 1, 1) := by decide +kernel
theorem dX10_letter_1 : decode cX10_letter 1 = .ok (.invokestatic 108, 3) := by decide +kernel
theorem dX10_letter_4 : decode cX10_letter 4 = .ok (.ifCond .ne 6, 3) := by decide +kernel
theorem dX10_letter_7 : decode cX10_letter 7 = .ok (.bipush (-3), 2) := by decide +kernel
theorem dX10_letter_9 : decode cX10_letter 9 = .ok (.ireturn, 1) := by decide +kernel
theorem dX10_letter_10 : decode cX10_letter 10 = .ok (.aload_n 0, 1) := by decide +kernel
theorem dX10_letter_11 : decode cX10_letter 11 = .ok (.getfield 30, 3) := by decide +kernel
theorem dX10_letter_14 : decode cX10_letter 14 = .ok (.invokevirtual 111, 3) := by decide +kernel
theorem dX10_letter_17 : decode cX10_letter 17 = .ok (.ifCond .eq 6, 3) := by decide +kernel
theorem dX10_letter_20 : decode cX10_letter 20 = .ok (.bipush (-5), 2) := by decide +kernel
theorem dX10_letter_22 : decode cX10_letter 22 = .ok (.ireturn, 1) := by decide +kernel
theorem dX10_letter_23 : decode cX10_letter 23 = .ok (.aload_n 0, 1) := by decide +kernel
theorem dX10_letter_24 : decode cX10_letter 24 = .ok (.getfield 30, 3) := by decide +kernel
theorem dX10_letter_27 : decode cX10_letter 27 = .ok (.iload_n 1, 1) := by decide +kernel
theorem dX10_letter_28 : decode cX10_letter 28 = .ok (.invokevirtual 115, 3) := by decide +kernel
theorem dX10_letter_31 : decode cX10_letter 31 = .ok (.aload_n 0, 1) := by decide +kernel
theorem dX10_letter_32 : decode cX10_letter 32 = .ok (.getfield 30, 3) := by decide +kernel
theorem dX10_letter_35 : decode cX10_letter 35 = .ok (.getfield 118, 3) := by decide +kernel
theorem dX10_letter_38 : decode cX10_letter 38 = .ok (.ireturn, 1) := by decide +kernel
set_option maxRecDepth 20000 in
theorem ggX10_word_X10_isLanguage : GoodIn wsX10_word wsX10_isLanguage := goodIn_r _ [8] (by decide +kernel) (by decide +kernel)
set_option maxRecDepth 20000 in
theorem gX10_word_X10_isLanguage : GoodIn wsX10_word (va_wsS RX10 121 yX10_isLanguage wsX10_isLanguage) := goodIn_app (goodIn_of _ (by decide +kernel)) ggX10_word_X10_isLanguage
set_option maxRecDepth 20000 in
theorem ggX10_word_X8_likeIn : GoodIn wsX10_word wsX8_likeIn := goodIn_r _ [13, 14, 15, 16, 17, 18, 19, 20, 12, 21, 22, 23, 24, 25, 26, 27, 28, 29, 30, 31, 32, 33, 34, 35, 36, 37, 38, 39, 40, 41, 42, 43, 44, 45, 106, 107, 108, 109, 110, 100, 101, 102, 103, 104, 105, 98, 99, 111, 112] (by decide +kernel) (by decide +kernel)
set_option maxRecDepth 20000 in
theorem gX10_word_X8_likeIn : GoodIn wsX10_word (wsV RX10 124 RX8 yX8_likeIn wsX8_likeIn) := goodIn_app (goodIn_of _ (by decide +kernel)) ggX10_word_X8_likeIn
set_option maxRecDepth 20000 in
theorem ggX10_word_X8_addWord : GoodIn wsX10_word wsX8_addWord := goodIn_r _ [49, 14, 22, 50, 51, 52, 53, 54, 55, 56, 57, 58, 59, 60, 37, 61, 62, 63, 64, 65, 66, 67, 68, 69, 70, 32, 71, 72, 40, 73, 74, 75, 76, 39, 77, 78, 79, 80, 81, 35, 36, 38, 82, 83, 84, 85, 106, 107, 108, 109, 110, 100, 101, 102, 103, 104, 105, 98, 99] (by decide +kernel) (by decide +kernel)
set_option maxRecDepth 20000 in
theorem gX10_word_X8_addWord : GoodIn wsX10_word (wsV RX10 128 RX8 yX8_addWord wsX8_addWord) := goodIn_app (goodIn_of _ (by decide +kernel)) ggX10_word_X8_addWord
set_option maxRecDepth 20000 in
theorem ggX10_word_X8_known : GoodIn wsX10_word wsX8_known := goodIn_r _ [21, 14, 22, 106, 107, 108, 109, 110] (by decide +kernel) (by decide +kernel)
set_option maxRecDepth 20000 in
theorem gX10_word_X8_known : GoodIn wsX10_word (wsV RX10 132 RX8 yX8_known wsX8_known) := goodIn_app (goodIn_of _ (by decide +kernel)) ggX10_word_X8_known
set_option maxRecDepth 20000 in
theorem ggX10_word_X4_clear : GoodIn wsX10_word wsX4_clear := goodIn_r _ [80, 39, 98, 99] (by decide +kernel) (by decide +kernel)
set_option maxRecDepth 20000 in
theorem gX10_word_X4_clear : GoodIn wsX10_word (wsV RX10 141 RX4 yX4_clear wsX4_clear) := goodIn_app (goodIn_of _ (by decide +kernel)) ggX10_word_X4_clear
theorem dX10_word_0 : decode cX10_word 0 = .ok (.iload_n 1, 1) := by decide +kernel
theorem dX10_word_1 : decode cX10_word 1 = .ok (.invokestatic 121, 3) := by decide +kernel
theorem dX10_word_4 : decode cX10_word 4 = .ok (.ifCond .eq 13, 3) := by decide +kernel
theorem dX10_word_7 : decode cX10_word 7 = .ok (.iload_n 2, 1) := by decide +kernel
theorem dX10_word_8 : decode cX10_word 8 = .ok (.ifCond .lt 9, 3) := by decide +kernel
theorem dX10_word_11 : decode cX10_word 11 = .ok (.iload_n 2, 1) := by decide +kernel
theorem dX10_word_12 : decode cX10_word 12 = .ok (.bipush 63, 2) := by decide +kernel
theorem dX10_word_14 : decode cX10_word 14 = .ok (.if_icmp .le 6, 3) := by decide +kernel
theorem dX10_word_17 : decode cX10_word 17 = .ok (.bipush (-3), 2) := by decide +kernel
theorem dX10_word_19 : decode cX10_word 19 = .ok (.ireturn, 1) := by decide +kernel
theorem dX10_word_20 : decode cX10_word 20 = .ok (.aload_n 0, 1) := by decide +kernel
theorem dX10_word_21 : decode cX10_word 21 = .ok (.getfield 30, 3) := by decide +kernel
theorem dX10_word_24 : decode cX10_word 24 = .ok (.getfield 118, 3) := by decide +kernel
theorem dX10_word_27 : decode cX10_word 27 = .ok (.ifCond .ne 6, 3) := by decide +kernel
theorem dX10_word_30 : decode cX10_word 30 = .ok (.bipush (-4), 2) := by decide +kernel
theorem dX10_word_32 : decode cX10_word 32 = .ok (.ireturn, 1) := by decide +kernel
theorem dX10_word_33 : decode cX10_word 33 = .ok (.aload_n 0, 1) := by decide +kernel
theorem dX10_word_34 : decode cX10_word 34 = .ok (.getfield 39, 3) := by decide +kernel
theorem dX10_word_37 : decode cX10_word 37 = .ok (.iload_n 1, 1) := by decide +kernel
theorem dX10_word_38 : decode cX10_word 38 = .ok (.aload_n 0, 1) := by decide +kernel
theorem dX10_word_39 : decode cX10_word 39 = .ok (.getfield 30, 3) := by decide +kernel
theorem dX10_word_42 : decode cX10_word 42 = .ok (.iconst 0, 1) := by decide +kernel
theorem dX10_word_43 : decode cX10_word 43 = .ok (.aload_n 0, 1) := by decide +kernel
theorem dX10_word_44 : decode cX10_word 44 = .ok (.getfield 30, 3) := by decide +kernel
theorem dX10_word_47 : decode cX10_word 47 = .ok (.getfield 118, 3) := by decide +kernel
theorem dX10_word_50 : decode cX10_word 50 = .ok (.invokevirtual 124, 3) := by decide +kernel
theorem dX10_word_53 : decode cX10_word 53 = .ok (.istore_n 3, 1) := by decide +kernel
theorem dX10_word_54 : decode cX10_word 54 = .ok (.iload_n 3, 1) := by decide +kernel
theorem dX10_word_55 : decode cX10_word 55 = .ok (.iconst (-1), 1) := by decide +kernel
theorem dX10_word_56 : decode cX10_word 56 = .ok (.if_icmp .ne 16, 3) := by decide +kernel
theorem dX10_word_59 : decode cX10_word 59 = .ok (.aload_n 0, 1) := by decide +kernel
theorem dX10_word_60 : decode cX10_word 60 = .ok (.getfield 39, 3) := by decide +kernel
theorem dX10_word_63 : decode cX10_word 63 = .ok (.aload_n 0, 1) := by decide +kernel
theorem dX10_word_64 : decode cX10_word 64 = .ok (.getfield 30, 3) := by decide +kernel
theorem dX10_word_67 : decode cX10_word 67 = .ok (.iload_n 1, 1) := by decide +kernel
theorem dX10_word_68 : decode cX10_word 68 = .ok (.invokevirtual 128, 3) := by decide +kernel
theorem dX10_word_71 : decode cX10_word 71 = .ok (.istore_n 3, 1) := by decide +kernel
theorem dX10_word_72 : decode cX10_word 72 = .ok (.aload_n 0, 1) := by decide +kernel
theorem dX10_word_73 : decode cX10_word 73 = .ok (.getfield 39, 3) := by decide +kernel
theorem dX10_word_76 : decode cX10_word 76 = .ok (.iload_n 3, 1) := by decide +kernel
theorem dX10_word_77 : decode cX10_word 77 = .ok (.invokevirtual 132, 3) := by decide +kernel
theorem dX10_word_80 : decode cX10_word 80 = .ok (.astore 4, 2) := by decide +kernel
theorem dX10_word_82 : decode cX10_word 82 = .ok (.aload 4, 2) := by decide +kernel
theorem dX10_word_84 : decode cX10_word 84 = .ok (.ifnonnull 6, 3) := by decide +kernel
theorem dX10_word_87 : decode cX10_word 87 = .ok (.bipush (-5), 2) := by decide +kernel
theorem dX10_word_89 : decode cX10_word 89 = .ok (.ireturn, 1) := by decide +kernel
theorem dX10_word_90 : decode cX10_word 90 = .ok (.aload 4, 2) := by decide +kernel
theorem dX10_word_92 : decode cX10_word 92 = .ok (.dup, 1) := by decide +kernel
theorem dX10_word_93 : decode cX10_word 93 = .ok (.getfield 136, 3) := by decide +kernel
theorem dX10_word_96 : decode cX10_word 96 = .ok (.iload_n 2, 1) := by decide +kernel
theorem dX10_word_97 : decode cX10_word 97 = .ok (.ior, 1) := by decide +kernel
theorem dX10_word_98 : decode cX10_word 98 = .ok (.putfield 136, 3) := by decide +kernel
theorem dX10_word_101 : decode cX10_word 101 = .ok (.aload_n 0, 1) := by decide +kernel
theorem dX10_word_102 : decode cX10_word 102 = .ok (.getfield 30, 3) := by decide +kernel
theorem dX10_word_105 : decode cX10_word 105 = .ok (.invokevirtual 141, 3) := by decide +kernel
theorem dX10_word_108 : decode cX10_word 108 = .ok (.iload_n 3, 1) := by decide +kernel
theorem dX10_word_109 : decode cX10_word 109 = .ok (.ireturn, 1) := by decide +kernel
set_option maxRecDepth 20000 in
theorem ggX10_value_X8_known : GoodIn wsX10_value wsX8_known := goodIn_r _ [7, 8, 9, 32, 33, 34, 35, 36] (by decide +kernel) (by decide +kernel)
set_option maxRecDepth 20000 in
theorem gX10_value_X8_known : GoodIn wsX10_value (wsV RX10 132 RX8 yX8_known wsX8_known) := goodIn_app (goodIn_of _ (by decide +kernel)) ggX10_value_X8_known
set_option maxRecDepth 20000 in
theorem ggX10_value_X9_isOneOf : GoodIn wsX10_value wsX9_isOneOf := goodIn_r _ [14, 15, 26, 27, 28, 29, 30, 31] (by decide +kernel) (by decide +kernel)
set_option maxRecDepth 20000 in
theorem gX10_value_X9_isOneOf : GoodIn wsX10_value (wsV RX10 144 RX9 yX9_isOneOf wsX9_isOneOf) := goodIn_app (goodIn_of _ (by decide +kernel)) ggX10_value_X9_isOneOf
theorem dX10_value_0 : decode cX10_value 0 = .ok (.aload_n 0, 1) := by decide +kernel
theorem dX10_value_1 : decode cX10_value 1 = .ok (.getfield 39, 3) := by decide +kernel
theorem dX10_value_4 : decode cX10_value 4 = .ok (.iload_n 1, 1) := by decide +kernel
theorem dX10_value_5 : decode cX10_value 5 = .ok (.invokevirtual 132, 3) := by decide +kernel
theorem dX10_value_8 : decode cX10_value 8 = .ok (.astore_n 3, 1) := by decide +kernel
theorem dX10_value_9 : decode cX10_value 9 = .ok (.aload_n 3, 1) := by decide +kernel
theorem dX10_value_10 : decode cX10_value 10 = .ok (.ifnonnull 6, 3) := by decide +kernel
theorem dX10_value_13 : decode cX10_value 13 = .ok (.bipush (-2), 2) := by decide +kernel
theorem dX10_value_15 : decode cX10_value 15 = .ok (.ireturn, 1) := by decide +kernel
theorem dX10_value_16 : decode cX10_value 16 = .ok (.iload_n 2, 1) := by decide +kernel
theorem dX10_value_17 : decode cX10_value 17 = .ok (.ifCond .lt 10, 3) := by decide +kernel
theorem dX10_value_20 : decode cX10_value 20 = .ok (.iload_n 2, 1) := by decide +kernel
theorem dX10_value_21 : decode cX10_value 21 = .ok (.sipush 1000, 3) := by decide +kernel
theorem dX10_value_24 : decode cX10_value 24 = .ok (.if_icmp .le 6, 3) := by decide +kernel
theorem dX10_value_27 : decode cX10_value 27 = .ok (.bipush (-3), 2) := by decide +kernel
theorem dX10_value_29 : decode cX10_value 29 = .ok (.ireturn, 1) := by decide +kernel
theorem dX10_value_30 : decode cX10_value 30 = .ok (.aload_n 3, 1) := by decide +kernel
theorem dX10_value_31 : decode cX10_value 31 = .ok (.bipush 32, 2) := by decide +kernel
theorem dX10_value_33 : decode cX10_value 33 = .ok (.invokevirtual 144, 3) := by decide +kernel
theorem dX10_value_36 : decode cX10_value 36 = .ok (.ifCond .ne 6, 3) := by decide +kernel
theorem dX10_value_39 : decode cX10_value 39 = .ok (.bipush (-4), 2) := by decide +kernel
theorem dX10_value_41 : decode cX10_value 41 = .ok (.ireturn, 1) := by decide +kernel
theorem dX10_value_42 : decode cX10_value 42 = .ok (.aload_n 3, 1) := by decide +kernel
theorem dX10_value_43 : decode cX10_value 43 = .ok (.getfield 147, 3) := by decide +kernel
theorem dX10_value_46 : decode cX10_value 46 = .ok (.istore 4, 2) := by decide +kernel
theorem dX10_value_48 : decode cX10_value 48 = .ok (.aload_n 3, 1) := by decide +kernel
theorem dX10_value_49 : decode cX10_value 49 = .ok (.iload_n 2, 1) := by decide +kernel
theorem dX10_value_50 : decode cX10_value 50 = .ok (.putfield 147, 3) := by decide +kernel
theorem dX10_value_53 : decode cX10_value 53 = .ok (.iload 4, 2) := by decide +kernel
theorem dX10_value_55 : decode cX10_value 55 = .ok (.ireturn, 1) := by decide +kernel
set_option maxRecDepth 20000 in
theorem ggX10_plural_X8_known : GoodIn wsX10_plural wsX8_known := goodIn_r _ [7, 8, 9, 26, 27, 28, 29, 30] (by decide +kernel) (by decide +kernel)
set_option maxRecDepth 20000 in
theorem gX10_plural_X8_known : GoodIn wsX10_plural (wsV RX10 132 RX8 yX8_known wsX8_known) := goodIn_app (goodIn_of _ (by decide +kernel)) ggX10_plural_X8_known
theorem dX10_plural_0 : decode cX10_plural 0 = .ok (.aload_n 0, 1) := by decide +kernel
theorem dX10_plural_1 : decode cX10_plural 1 = .ok (.getfield 39, 3) := by decide +kernel
theorem dX10_plural_4 : decode cX10_plural 4 = .ok (.iload_n 1, 1) := by decide +kernel
theorem dX10_plural_5 : decode cX10_plural 5 = .ok (.invokevirtual 132, 3) := by decide +kernel
theorem dX10_plural_8 : decode cX10_plural 8 = .ok (.astore_n 3, 1) := by decide +kernel
theorem dX10_plural_9 : decode cX10_plural 9 = .ok (.aload_n 3, 1) := by decide +kernel
theorem dX10_plural_10 : decode cX10_plural 10 = .ok (.ifnull 19, 3) := by decide +kernel
theorem dX10_plural_13 : decode cX10_plural 13 = .ok (.iload_n 2, 1) := by decide +kernel
theorem dX10_plural_14 : decode cX10_plural 14 = .ok (.iconst (-1), 1) := by decide +kernel
theorem dX10_plural_15 : decode cX10_plural 15 = .ok (.if_icmp .eq 17, 3) := by decide +kernel
theorem dX10_plural_18 : decode cX10_plural 18 = .ok (.aload_n 0, 1) := by decide +kernel
theorem dX10_plural_19 : decode cX10_plural 19 = .ok (.getfield 39, 3) := by decide +kernel
theorem dX10_plural_22 : decode cX10_plural 22 = .ok (.iload_n 2, 1) := by decide +kernel
theorem dX10_plural_23 : decode cX10_plural 23 = .ok (.invokevirtual 132, 3) := by decide +kernel
theorem dX10_plural_26 : decode cX10_plural 26 = .ok (.ifnonnull 6, 3) := by decide +kernel
theorem dX10_plural_29 : decode cX10_plural 29 = .ok (.bipush (-2), 2) := by decide +kernel
theorem dX10_plural_31 : decode cX10_plural 31 = .ok (.ireturn, 1) := by decide +kernel
theorem dX10_plural_32 : decode cX10_plural 32 = .ok (.iload_n 1, 1) := by decide +kernel
theorem dX10_plural_33 : decode cX10_plural 33 = .ok (.iload_n 2, 1) := by decide +kernel
theorem dX10_plural_34 : decode cX10_plural 34 = .ok (.if_icmp .ne 6, 3) := by decide +kernel
theorem dX10_plural_37 : decode cX10_plural 37 = .ok (.bipush (-4), 2) := by decide +kernel
theorem dX10_plural_39 : decode cX10_plural 39 = .ok (.ireturn, 1) := by decide +kernel
theorem dX10_plural_40 : decode cX10_plural 40 = .ok (.aload_n 3, 1) := by decide +kernel
theorem dX10_plural_41 : decode cX10_plural 41 = .ok (.getfield 150, 3) := by decide +kernel
theorem dX10_plural_44 : decode cX10_plural 44 = .ok (.istore 4, 2) := by decide +kernel
theorem dX10_plural_46 : decode cX10_plural 46 = .ok (.aload_n 3, 1) := by decide +kernel
theorem dX10_plural_47 : decode cX10_plural 47 = .ok (.iload_n 2, 1) := by decide +kernel
theorem dX10_plural_48 : decode cX10_plural 48 = .ok (.putfield 150, 3) := by decide +kernel
theorem dX10_plural_51 : decode cX10_plural 51 = .ok (.iload 4, 2) := by decide +kernel
theorem dX10_plural_53 : decode cX10_plural 53 = .ok (.ireturn, 1) := by decide +kernel
set_option maxRecDepth 20000 in
theorem ggX10_join_X8_known : GoodIn wsX10_join wsX8_known := goodIn_r _ [9, 10, 11, 74, 75, 76, 77, 78] (by decide +kernel) (by decide +kernel)
set_option maxRecDepth 20000 in
theorem gX10_join_X8_known : GoodIn wsX10_join (wsV RX10 132 RX8 yX8_known wsX8_known) := goodIn_app (goodIn_of _ (by decide +kernel)) ggX10_join_X8_known
set_option maxRecDepth 20000 in
theorem ggX10_join_X8_addJoin : GoodIn wsX10_join wsX8_addJoin := goodIn_r _ [15, 16, 17, 18, 19, 20, 21, 22, 23, 24, 25, 26, 27, 28, 29, 30, 31, 32, 33, 34, 35, 36, 37, 38, 39, 40, 41, 42, 43, 44, 45, 46, 47, 48, 49, 50, 51, 52, 53, 54, 55, 56, 57, 58, 59, 60, 74, 75, 76, 77, 78, 79, 80, 81, 72, 73] (by decide +kernel) (by decide +kernel)
set_option maxRecDepth 20000 in
theorem gX10_join_X8_addJoin : GoodIn wsX10_join (wsV RX10 153 RX8 yX8_addJoin wsX8_addJoin) := goodIn_app (goodIn_of _ (by decide +kernel)) ggX10_join_X8_addJoin
set_option maxRecDepth 20000 in
theorem ggX10_join_X4_clear : GoodIn wsX10_join wsX4_clear := goodIn_r _ [52, 48, 72, 73] (by decide +kernel) (by decide +kernel)
set_option maxRecDepth 20000 in
theorem gX10_join_X4_clear : GoodIn wsX10_join (wsV RX10 141 RX4 yX4_clear wsX4_clear) := goodIn_app (goodIn_of _ (by decide +kernel)) ggX10_join_X4_clear
theorem dX10_join_0 : decode cX10_join 0 = .ok (.aload_n 0, 1) := by decide +kernel
theorem dX10_join_1 : decode cX10_join 1 = .ok (.getfield 39, 3) := by decide +kernel
theorem dX10_join_4 : decode cX10_join 4 = .ok (.iload_n 1, 1) := by decide +kernel
theorem dX10_join_5 : decode cX10_join 5 = .ok (.invokevirtual 132, 3) := by decide +kernel
theorem dX10_join_8 : decode cX10_join 8 = .ok (.ifnull 14, 3) := by decide +kernel
theorem dX10_join_11 : decode cX10_join 11 = .ok (.aload_n 0, 1) := by decide +kernel
theorem dX10_join_12 : decode cX10_join 12 = .ok (.getfield 39, 3) := by decide +kernel
theorem dX10_join_15 : decode cX10_join 15 = .ok (.iload_n 2, 1) := by decide +kernel
theorem dX10_join_16 : decode cX10_join 16 = .ok (.invokevirtual 132, 3) := by decide +kernel
theorem dX10_join_19 : decode cX10_join 19 = .ok (.ifnonnull 6, 3) := by decide +kernel
theorem dX10_join_22 : decode cX10_join 22 = .ok (.bipush (-2), 2) := by decide +kernel
theorem dX10_join_24 : decode cX10_join 24 = .ok (.ireturn, 1) := by decide +kernel
theorem dX10_join_25 : decode cX10_join 25 = .ok (.aload_n 0, 1) := by decide +kernel
theorem dX10_join_26 : decode cX10_join 26 = .ok (.getfield 30, 3) := by decide +kernel
theorem dX10_join_29 : decode cX10_join 29 = .ok (.getfield 118, 3) := by decide +kernel
theorem dX10_join_32 : decode cX10_join 32 = .ok (.ifCond .ne 6, 3) := by decide +kernel
theorem dX10_join_35 : decode cX10_join 35 = .ok (.bipush (-4), 2) := by decide +kernel
theorem dX10_join_37 : decode cX10_join 37 = .ok (.ireturn, 1) := by decide +kernel
theorem dX10_join_38 : decode cX10_join 38 = .ok (.aload_n 0, 1) := by decide +kernel
theorem dX10_join_39 : decode cX10_join 39 = .ok (.getfield 39, 3) := by decide +kernel
theorem dX10_join_42 : decode cX10_join 42 = .ok (.aload_n 0, 1) := by decide +kernel
theorem dX10_join_43 : decode cX10_join 43 = .ok (.getfield 30, 3) := by decide +kernel
theorem dX10_join_46 : decode cX10_join 46 = .ok (.iload_n 1, 1) := by decide +kernel
theorem dX10_join_47 : decode cX10_join 47 = .ok (.iload_n 2, 1) := by decide +kernel
theorem dX10_join_48 : decode cX10_join 48 = .ok (.invokevirtual 153, 3) := by decide +kernel
theorem dX10_join_51 : decode cX10_join 51 = .ok (.ifCond .ne 6, 3) := by decide +kernel
theorem dX10_join_54 : decode cX10_join 54 = .ok (.bipush (-5), 2) := by decide +kernel
theorem dX10_join_56 : decode cX10_join 56 = .ok (.ireturn, 1) := by decide +kernel
theorem dX10_join_57 : decode cX10_join 57 = .ok (.aload_n 0, 1) := by decide +kernel
theorem dX10_join_58 : decode cX10_join 58 = .ok (.getfield 30, 3) := by decide +kernel
theorem dX10_join_61 : decode cX10_join 61 = .ok (.invokevirtual 141, 3) := by decide +kernel
theorem dX10_join_64 : decode cX10_join 64 = .ok (.aload_n 0, 1) := by decide +kernel
theorem dX10_join_65 : decode cX10_join 65 = .ok (.getfield 39, 3) := by decide +kernel
theorem dX10_join_68 : decode cX10_join 68 = .ok (.getfield 97, 3) := by decide +kernel
theorem dX10_join_71 : decode cX10_join 71 = .ok (.ireturn, 1) := by decide +kernel
set_option maxRecDepth 20000 in
theorem ggX10_type_X4_isFull : GoodIn wsX10_type wsX4_isFull := goodIn_r _ [7, 8, 9, 24, 25] (by decide +kernel) (by decide +kernel)
set_option maxRecDepth 20000 in
theorem gX10_type_X4_isFull : GoodIn wsX10_type (wsV RX10 111 RX4 yX4_isFull wsX4_isFull) := goodIn_app (goodIn_of _ (by decide +kernel)) ggX10_type_X4_isFull
set_option maxRecDepth 20000 in
theorem ggX10_type_X4_put : GoodIn wsX10_type wsX4_put := goodIn_r _ [13, 8, 9, 24, 25] (by decide +kernel) (by decide +kernel)
set_option maxRecDepth 20000 in
theorem gX10_type_X4_put : GoodIn wsX10_type (wsV RX10 115 RX4 yX4_put wsX4_put) := goodIn_app (goodIn_of _ (by decide +kernel)) ggX10_type_X4_put
theorem dX10_type_0 : decode cX10_type 0 = .ok (.iload_n 1, 1) := by decide +kernel
theorem dX10_type_1 : decode cX10_type 1 = .ok (.ifCond .lt 10, 3) := by decide +kernel
theorem dX10_type_4 : decode cX10_type 4 = .ok (.iload_n 1, 1) := by decide +kernel
theorem dX10_type_5 : decode cX10_type 5 = .ok (.sipush 255, 3) := by decide +kernel
theorem dX10_type_8 : decode cX10_type 8 = .ok (.if_icmp .le 6, 3) := by decide +kernel
theorem dX10_type_11 : decode cX10_type 11 = .ok (.bipush (-3), 2) := by decide +kernel
theorem dX10_type_13 : decode cX10_type 13 = .ok (.ireturn, 1) := by decide +kernel
theorem dX10_type_14 : decode cX10_type 14 = .ok (.aload_n 0, 1) := by decide +kernel
theorem dX10_type_15 : decode cX10_type 15 = .ok (.getfield 43, 3) := by decide +kernel
theorem dX10_type_18 : decode cX10_type 18 = .ok (.invokevirtual 111, 3) := by decide +kernel
theorem dX10_type_21 : decode cX10_type 21 = .ok (.ifCond .eq 6, 3) := by decide +kernel
theorem dX10_type_24 : decode cX10_type 24 = .ok (.bipush (-5), 2) := by decide +kernel
theorem dX10_type_26 : decode cX10_type 26 = .ok (.ireturn, 1) := by decide +kernel
theorem dX10_type_27 : decode cX10_type 27 = .ok (.aload_n 0, 1) := by decide +kernel
theorem dX10_type_28 : decode cX10_type 28 = .ok (.getfield 43, 3) := by decide +kernel
theorem dX10_type_31 : decode cX10_type 31 = .ok (.iload_n 1, 1) := by decide +kernel
theorem dX10_type_32 : decode cX10_type 32 = .ok (.invokevirtual 115, 3) := by decide +kernel
theorem dX10_type_35 : decode cX10_type 35 = .ok (.aload_n 0, 1) := by decide +kernel
theorem dX10_type_36 : decode cX10_type 36 = .ok (.getfield 43, 3) := by decide +kernel
theorem dX10_type_39 : decode cX10_type 39 = .ok (.getfield 118, 3) := by decide +kernel
theorem dX10_type_42 : decode cX10_type 42 = .ok (.ireturn, 1) := by decide +kernel
set_option maxRecDepth 20000 in
theorem ggX10_read_X10_isLanguage : GoodIn wsX10_read wsX10_isLanguage := goodIn_r _ [7] (by decide +kernel) (by decide +kernel)
set_option maxRecDepth 20000 in
theorem gX10_read_X10_isLanguage : GoodIn wsX10_read (va_wsS RX10 121 yX10_isLanguage wsX10_isLanguage) := goodIn_app (goodIn_of _ (by decide +kernel)) ggX10_read_X10_isLanguage
set_option maxRecDepth 20000 in
theorem ggX10_read_X1_cutLine : GoodIn wsX10_read wsX1_cutLine := goodIn_r _ [12, 13, 14, 15, 16, 17, 18, 19, 20, 21, 22, 23, 24, 25, 26, 27, 28, 29, 30, 31, 32, 33, 34, 35, 36, 37, 38, 39, 40, 41, 42, 43, 44, 45, 46, 47, 11, 48, 49, 50, 51, 52, 53, 54, 55, 56, 57, 58, 59, 60, 61, 62, 63, 64, 65, 66, 67, 68, 69, 70, 71, 72, 73, 74, 75, 76, 77, 78, 79, 80, 81, 82, 83, 84, 85, 86, 87, 88, 89, 90, 91, 92, 93, 94, 95, 96, 97, 98, 99, 100, 101, 102, 103, 104, 105, 106, 107, 108, 109, 110, 111, 112, 113, 114, 115, 116, 117, 118, 119, 120, 121, 122, 123, 124, 125, 126, 127, 128, 129, 130, 131, 132, 133, 134, 135, 136, 137, 138, 139, 140, 141, 142, 143, 144, 145, 146, 147, 148, 149, 150, 151, 152, 153, 154, 155, 156, 157, 158, 159, 177, 178, 179, 180, 181, 182, 183, 184, 185, 186, 187, 188, 189, 190, 191, 192, 193, 194, 195, 196, 197, 198, 199, 200, 201, 202, 203, 204, 205, 206] (by decide +kernel) (by decide +kernel)
set_option maxRecDepth 20000 in
theorem gX10_read_X1_cutLine : GoodIn wsX10_read (wsV RX10 157 RX1 yX1_cutLine wsX1_cutLine) := goodIn_app (goodIn_of _ (by decide +kernel)) ggX10_read_X1_cutLine
set_option maxRecDepth 20000 in
theorem ggX10_read_X10_takeSpareTokens : GoodIn wsX10_read wsX10_takeSpareTokens := goodIn_r _ [163, 164, 2, 165, 167, 168, 169, 170, 171, 172, 173, 174, 175, 176, 184, 185, 186, 187, 188, 189, 190] (by decide +kernel) (by decide +kernel)
set_option maxRecDepth 20000 in
theorem gX10_read_X10_takeSpareTokens : GoodIn wsX10_read (wsV RX10 161 RX10 yX10_takeSpareTokens wsX10_takeSpareTokens) := goodIn_app (goodIn_of _ (by decide +kernel)) ggX10_read_X10_takeSpareTokens
set_option maxRecDepth 20000 in
theorem ggX10_read_X4_clear : GoodIn wsX10_read wsX4_clear := goodIn_r _ [35, 31, 182, 183] (by decide +kernel) (by decide +kernel)
set_option maxRecDepth 20000 in
theorem gX10_read_X4_clear : GoodIn wsX10_read (wsV RX10 141 RX4 yX4_clear wsX4_clear) := goodIn_app (goodIn_of _ (by decide +kernel)) ggX10_read_X4_clear
theorem dX10_read_0 : decode cX10_read 0 = .ok (.bipush (-3), 2) := by decide +kernel
theorem dX10_read_2 : decode cX10_read 2 = .ok (.istore_n 2, 1) := by decide +kernel
theorem dX10_read_3 : decode cX10_read 3 = .ok (.iload_n 1, 1) := by decide +kernel
theorem dX10_read_4 : decode cX10_read 4 = .ok (.invokestatic 121, 3) := by decide +kernel
theorem dX10_read_7 : decode cX10_read 7 = .ok (.ifCond .eq 28, 3) := by decide +kernel
theorem dX10_read_10 : decode cX10_read 10 = .ok (.aload_n 0, 1) := by decide +kernel
theorem dX10_read_11 : decode cX10_read 11 = .ok (.getfield 51, 3) := by decide +kernel
theorem dX10_read_14 : decode cX10_read 14 = .ok (.iload_n 1, 1) := by decide +kernel
theorem dX10_read_15 : decode cX10_read 15 = .ok (.aload_n 0, 1) := by decide +kernel
theorem dX10_read_16 : decode cX10_read 16 = .ok (.getfield 83, 3) := by decide +kernel
theorem dX10_read_19 : decode cX10_read 19 = .ok (.invokevirtual 157, 3) := by decide +kernel
theorem dX10_read_22 : decode cX10_read 22 = .ok (.ifCond .eq 10, 3) := by decide +kernel
theorem dX10_read_25 : decode cX10_read 25 = .ok (.aload_n 0, 1) := by decide +kernel
theorem dX10_read_26 : decode cX10_read 26 = .ok (.invokevirtual 161, 3) := by decide +kernel
theorem dX10_read_29 : decode cX10_read 29 = .ok (.goto 5, 3) := by decide +kernel
