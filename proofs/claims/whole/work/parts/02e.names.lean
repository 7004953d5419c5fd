theorem dX10_read_32 : decode cX10_read 32 = .ok (.bipush (-5), 2) := by decide +kernel
theorem dX10_read_34 : decode cX10_read 34 = .ok (.istore_n 2, 1) := by decide +kernel
theorem dX10_read_35 : decode cX10_read 35 = .ok (.aload_n 0, 1) := by decide +kernel
theorem dX10_read_36 : decode cX10_read 36 = .ok (.getfield 43, 3) := by decide +kernel
theorem dX10_read_39 : decode cX10_read 39 = .ok (.invokevirtual 141, 3) := by decide +kernel
theorem dX10_read_42 : decode cX10_read 42 = .ok (.iload_n 2, 1) := by decide +kernel
theorem dX10_read_43 : decode cX10_read 43 = .ok (.ireturn, 1) := by decide +kernel
set_option maxRecDepth 20000 in
theorem ggX10_token_X7_has : GoodIn wsX10_token wsX7_has := goodIn_r _ [10, 11, 39, 40, 41, 42, 43, 44, 45] (by decide +kernel) (by decide +kernel)
set_option maxRecDepth 20000 in
theorem gX10_token_X7_has : GoodIn wsX10_token (wsV RX10 165 RX7 yX7_has wsX7_has) := goodIn_app (goodIn_of _ (by decide +kernel)) ggX10_token_X7_has
set_option maxRecDepth 20000 in
theorem ggX10_token_X10_wordOf : GoodIn wsX10_token wsX10_wordOf := goodIn_r _ [16, 1, 2, 17, 5, 6, 7, 8, 9, 10, 11, 18, 19, 20, 21, 22, 23, 24, 29, 30, 31, 32, 33, 34, 35, 36, 37, 38, 39, 40, 41, 42, 43, 44, 45, 46, 47, 48, 49, 50] (by decide +kernel) (by decide +kernel)
set_option maxRecDepth 20000 in
theorem gX10_token_X10_wordOf : GoodIn wsX10_token (wsV RX10 181 RX10 yX10_wordOf wsX10_wordOf) := goodIn_app (goodIn_of _ (by decide +kernel)) ggX10_token_X10_wordOf
set_option maxRecDepth 20000 in
theorem ggX10_token_X10_kindsOf : GoodIn wsX10_token wsX10_kindsOf := goodIn_r _ [27, 28, 51, 52, 53, 54, 55, 56] (by decide +kernel) (by decide +kernel)
set_option maxRecDepth 20000 in
theorem gX10_token_X10_kindsOf : GoodIn wsX10_token (va_wsS RX10 184 yX10_kindsOf wsX10_kindsOf) := goodIn_app (goodIn_of _ (by decide +kernel)) ggX10_token_X10_kindsOf
theorem dX10_token_0 : decode cX10_token 0 = .ok (.aload_n 0, 1) := by decide +kernel
theorem dX10_token_1 : decode cX10_token 1 = .ok (.getfield 79, 3) := by decide +kernel
theorem dX10_token_4 : decode cX10_token 4 = .ok (.iload_n 1, 1) := by decide +kernel
theorem dX10_token_5 : decode cX10_token 5 = .ok (.invokevirtual 165, 3) := by decide +kernel
theorem dX10_token_8 : decode cX10_token 8 = .ok (.ifCond .ne 6, 3) := by decide +kernel
theorem dX10_token_11 : decode cX10_token 11 = .ok (.bipush (-2), 2) := by decide +kernel
theorem dX10_token_13 : decode cX10_token 13 = .ok (.ireturn, 1) := by decide +kernel
theorem dX10_token_14 : decode cX10_token 14 = .ok (.iload_n 2, 1) := by decide +kernel
theorem dX10_token_15 : decode cX10_token 15 = .ok (.tableswitch 82 0 4 #[33, 43, 53, 63, 73], 33) := by decide +kernel
theorem dX10_token_48 : decode cX10_token 48 = .ok (.aload_n 0, 1) := by decide +kernel
theorem dX10_token_49 : decode cX10_token 49 = .ok (.getfield 79, 3) := by decide +kernel
theorem dX10_token_52 : decode cX10_token 52 = .ok (.getfield 168, 3) := by decide +kernel
theorem dX10_token_55 : decode cX10_token 55 = .ok (.iload_n 1, 1) := by decide +kernel
theorem dX10_token_56 : decode cX10_token 56 = .ok (.iaload, 1) := by decide +kernel
theorem dX10_token_57 : decode cX10_token 57 = .ok (.ireturn, 1) := by decide +kernel
theorem dX10_token_58 : decode cX10_token 58 = .ok (.aload_n 0, 1) := by decide +kernel
theorem dX10_token_59 : decode cX10_token 59 = .ok (.getfield 79, 3) := by decide +kernel
theorem dX10_token_62 : decode cX10_token 62 = .ok (.getfield 172, 3) := by decide +kernel
theorem dX10_token_65 : decode cX10_token 65 = .ok (.iload_n 1, 1) := by decide +kernel
theorem dX10_token_66 : decode cX10_token 66 = .ok (.iaload, 1) := by decide +kernel
theorem dX10_token_67 : decode cX10_token 67 = .ok (.ireturn, 1) := by decide +kernel
theorem dX10_token_68 : decode cX10_token 68 = .ok (.aload_n 0, 1) := by decide +kernel
theorem dX10_token_69 : decode cX10_token 69 = .ok (.getfield 79, 3) := by decide +kernel
theorem dX10_token_72 : decode cX10_token 72 = .ok (.getfield 175, 3) := by decide +kernel
theorem dX10_token_75 : decode cX10_token 75 = .ok (.iload_n 1, 1) := by decide +kernel
theorem dX10_token_76 : decode cX10_token 76 = .ok (.iaload, 1) := by decide +kernel
theorem dX10_token_77 : decode cX10_token 77 = .ok (.ireturn, 1) := by decide +kernel
theorem dX10_token_78 : decode cX10_token 78 = .ok (.aload_n 0, 1) := by decide +kernel
theorem dX10_token_79 : decode cX10_token 79 = .ok (.getfield 79, 3) := by decide +kernel
theorem dX10_token_82 : decode cX10_token 82 = .ok (.getfield 178, 3) := by decide +kernel
theorem dX10_token_85 : decode cX10_token 85 = .ok (.iload_n 1, 1) := by decide +kernel
theorem dX10_token_86 : decode cX10_token 86 = .ok (.iaload, 1) := by decide +kernel
theorem dX10_token_87 : decode cX10_token 87 = .ok (.ireturn, 1) := by decide +kernel
theorem dX10_token_88 : decode cX10_token 88 = .ok (.aload_n 0, 1) := by decide +kernel
theorem dX10_token_89 : decode cX10_token 89 = .ok (.iload_n 1, 1) := by decide +kernel
theorem dX10_token_90 : decode cX10_token 90 = .ok (.invokevirtual 181, 3) := by decide +kernel
theorem dX10_token_93 : decode cX10_token 93 = .ok (.invokestatic 184, 3) := by decide +kernel
theorem dX10_token_96 : decode cX10_token 96 = .ok (.ireturn, 1) := by decide +kernel
theorem dX10_token_97 : decode cX10_token 97 = .ok (.bipush (-2), 2) := by decide +kernel
theorem dX10_token_99 : decode cX10_token 99 = .ok (.ireturn, 1) := by decide +kernel
set_option maxRecDepth 20000 in
theorem ggX10_at_X7_has : GoodIn wsX10_at wsX7_has := goodIn_r _ [9, 10, 28, 29, 30, 31, 32, 33, 34] (by decide +kernel) (by decide +kernel)
set_option maxRecDepth 20000 in
theorem gX10_at_X7_has : GoodIn wsX10_at (wsV RX10 165 RX7 yX7_has wsX7_has) := goodIn_app (goodIn_of _ (by decide +kernel)) ggX10_at_X7_has
set_option maxRecDepth 20000 in
theorem ggX10_at_X4_byteAt : GoodIn wsX10_at wsX4_byteAt := goodIn_r _ [15, 16, 17, 35, 36] (by decide +kernel) (by decide +kernel)
set_option maxRecDepth 20000 in
theorem gX10_at_X4_byteAt : GoodIn wsX10_at (wsV RX10 191 RX4 yX4_byteAt wsX4_byteAt) := goodIn_app (goodIn_of _ (by decide +kernel)) ggX10_at_X4_byteAt
theorem dX10_at_0 : decode cX10_at 0 = .ok (.aload_n 0, 1) := by decide +kernel
theorem dX10_at_1 : decode cX10_at 1 = .ok (.getfield 79, 3) := by decide +kernel
theorem dX10_at_4 : decode cX10_at 4 = .ok (.iload_n 1, 1) := by decide +kernel
theorem dX10_at_5 : decode cX10_at 5 = .ok (.invokevirtual 165, 3) := by decide +kernel
theorem dX10_at_8 : decode cX10_at 8 = .ok (.ifCond .eq 20, 3) := by decide +kernel
theorem dX10_at_11 : decode cX10_at 11 = .ok (.iload_n 2, 1) := by decide +kernel
theorem dX10_at_12 : decode cX10_at 12 = .ok (.ifCond .lt 16, 3) := by decide +kernel
theorem dX10_at_15 : decode cX10_at 15 = .ok (.iload_n 2, 1) := by decide +kernel
theorem dX10_at_16 : decode cX10_at 16 = .ok (.aload_n 0, 1) := by decide +kernel
theorem dX10_at_17 : decode cX10_at 17 = .ok (.getfield 79, 3) := by decide +kernel
theorem dX10_at_20 : decode cX10_at 20 = .ok (.getfield 175, 3) := by decide +kernel
theorem dX10_at_23 : decode cX10_at 23 = .ok (.iload_n 1, 1) := by decide +kernel
theorem dX10_at_24 : decode cX10_at 24 = .ok (.iaload, 1) := by decide +kernel
theorem dX10_at_25 : decode cX10_at 25 = .ok (.if_icmp .lt 6, 3) := by decide +kernel
theorem dX10_at_28 : decode cX10_at 28 = .ok (.bipush (-2), 2) := by decide +kernel
theorem dX10_at_30 : decode cX10_at 30 = .ok (.ireturn, 1) := by decide +kernel
theorem dX10_at_31 : decode cX10_at 31 = .ok (.aload_n 0, 1) := by decide +kernel
theorem dX10_at_32 : decode cX10_at 32 = .ok (.getfield 79, 3) := by decide +kernel
theorem dX10_at_35 : decode cX10_at 35 = .ok (.getfield 188, 3) := by decide +kernel
theorem dX10_at_38 : decode cX10_at 38 = .ok (.aload_n 0, 1) := by decide +kernel
theorem dX10_at_39 : decode cX10_at 39 = .ok (.getfield 79, 3) := by decide +kernel
theorem dX10_at_42 : decode cX10_at 42 = .ok (.getfield 172, 3) := by decide +kernel
theorem dX10_at_45 : decode cX10_at 45 = .ok (.iload_n 1, 1) := by decide +kernel
theorem dX10_at_46 : decode cX10_at 46 = .ok (.iaload, 1) := by decide +kernel
theorem dX10_at_47 : decode cX10_at 47 = .ok (.iload_n 2, 1) := by decide +kernel
theorem dX10_at_48 : decode cX10_at 48 = .ok (.iadd, 1) := by decide +kernel
theorem dX10_at_49 : decode cX10_at 49 = .ok (.invokevirtual 191, 3) := by decide +kernel
theorem dX10_at_52 : decode cX10_at 52 = .ok (.ireturn, 1) := by decide +kernel
set_option maxRecDepth 20000 in
theorem ggX10_amount_X7_has : GoodIn wsX10_amount wsX7_has := goodIn_r _ [10, 11, 77, 78, 79, 80, 81, 82, 83] (by decide +kernel) (by decide +kernel)
set_option maxRecDepth 20000 in
theorem gX10_amount_X7_has : GoodIn wsX10_amount (wsV RX10 165 RX7 yX7_has wsX7_has) := goodIn_app (goodIn_of _ (by decide +kernel)) ggX10_amount_X7_has
set_option maxRecDepth 20000 in
theorem ggX10_amount_X10_sumUpFrom : GoodIn wsX10_amount wsX10_sumUpFrom := goodIn_r _ [16, 2, 1, 17, 18, 19, 20, 21, 22, 23, 24, 25, 26, 27, 28, 6, 7, 8, 9, 10, 11, 29, 30, 31, 32, 33, 34, 35, 15, 36, 37, 38, 39, 40, 41, 42, 43, 44, 45, 46, 47, 48, 49, 50, 51, 52, 53, 54, 55, 56, 57, 58, 59, 60, 61, 62, 63, 64, 65, 66, 67, 68, 69, 70, 71, 72, 73, 77, 78, 79, 80, 81, 82, 83, 84, 85, 86, 87, 88, 89, 74, 75, 76, 90, 91, 92, 93, 94] (by decide +kernel) (by decide +kernel)
set_option maxRecDepth 20000 in
theorem gX10_amount_X10_sumUpFrom : GoodIn wsX10_amount (wsV RX10 194 RX10 yX10_sumUpFrom wsX10_sumUpFrom) := goodIn_app (goodIn_of _ (by decide +kernel)) ggX10_amount_X10_sumUpFrom
theorem dX10_amount_0 : decode cX10_amount 0 = .ok (.aload_n 0, 1) := by decide +kernel
theorem dX10_amount_1 : decode cX10_amount 1 = .ok (.getfield 79, 3) := by decide +kernel
theorem dX10_amount_4 : decode cX10_amount 4 = .ok (.iload_n 1, 1) := by decide +kernel
theorem dX10_amount_5 : decode cX10_amount 5 = .ok (.invokevirtual 165, 3) := by decide +kernel
theorem dX10_amount_8 : decode cX10_amount 8 = .ok (.ifCond .ne 6, 3) := by decide +kernel
theorem dX10_amount_11 : decode cX10_amount 11 = .ok (.bipush (-2), 2) := by decide +kernel
theorem dX10_amount_13 : decode cX10_amount 13 = .ok (.ireturn, 1) := by decide +kernel
theorem dX10_amount_14 : decode cX10_amount 14 = .ok (.aload_n 0, 1) := by decide +kernel
theorem dX10_amount_15 : decode cX10_amount 15 = .ok (.iload_n 1, 1) := by decide +kernel
theorem dX10_amount_16 : decode cX10_amount 16 = .ok (.invokevirtual 194, 3) := by decide +kernel
theorem dX10_amount_19 : decode cX10_amount 19 = .ok (.aload_n 0, 1) := by decide +kernel
theorem dX10_amount_20 : decode cX10_amount 20 = .ok (.getfield 65, 3) := by decide +kernel
theorem dX10_amount_23 : decode cX10_amount 23 = .ok (.getfield 197, 3) := by decide +kernel
theorem dX10_amount_26 : decode cX10_amount 26 = .ok (.ifCond .ne 8, 3) := by decide +kernel
theorem dX10_amount_29 : decode cX10_amount 29 = .ok (.bipush (-4), 2) := by decide +kernel
theorem dX10_amount_31 : decode cX10_amount 31 = .ok (.goto 18, 3) := by decide +kernel
theorem dX10_amount_34 : decode cX10_amount 34 = .ok (.aload_n 0, 1) := by decide +kernel
theorem dX10_amount_35 : decode cX10_amount 35 = .ok (.getfield 65, 3) := by decide +kernel
theorem dX10_amount_38 : decode cX10_amount 38 = .ok (.getfield 200, 3) := by decide +kernel
theorem dX10_amount_41 : decode cX10_amount 41 = .ok (.aload_n 0, 1) := by decide +kernel
theorem dX10_amount_42 : decode cX10_amount 42 = .ok (.getfield 65, 3) := by decide +kernel
theorem dX10_amount_45 : decode cX10_amount 45 = .ok (.getfield 203, 3) := by decide +kernel
theorem dX10_amount_48 : decode cX10_amount 48 = .ok (.iadd, 1) := by decide +kernel
theorem dX10_amount_49 : decode cX10_amount 49 = .ok (.ireturn, 1) := by decide +kernel
set_option maxRecDepth 20000 in
theorem ggX10_amountLength_X7_has : GoodIn wsX10_amountLength wsX7_has := goodIn_r _ [8, 9, 75, 76, 77, 78, 79, 80, 81] (by decide +kernel) (by decide +kernel)
set_option maxRecDepth 20000 in
theorem gX10_amountLength_X7_has : GoodIn wsX10_amountLength (wsV RX10 165 RX7 yX7_has wsX7_has) := goodIn_app (goodIn_of _ (by decide +kernel)) ggX10_amountLength_X7_has
set_option maxRecDepth 20000 in
theorem ggX10_amountLength_X10_sumUpFrom : GoodIn wsX10_amountLength wsX10_sumUpFrom := goodIn_r _ [14, 2, 1, 15, 16, 17, 18, 19, 20, 21, 22, 23, 24, 25, 26, 4, 5, 6, 7, 8, 9, 27, 28, 29, 30, 31, 32, 33, 13, 34, 35, 36, 37, 38, 39, 40, 41, 42, 43, 44, 45, 46, 47, 48, 49, 50, 51, 52, 53, 54, 55, 56, 57, 58, 59, 60, 61, 62, 63, 64, 65, 66, 67, 68, 69, 70, 71, 75, 76, 77, 78, 79, 80, 81, 82, 83, 84, 85, 86, 87, 72, 73, 74, 88, 89, 90, 91, 92] (by decide +kernel) (by decide +kernel)
set_option maxRecDepth 20000 in
theorem gX10_amountLength_X10_sumUpFrom : GoodIn wsX10_amountLength (wsV RX10 194 RX10 yX10_sumUpFrom wsX10_sumUpFrom) := goodIn_app (goodIn_of _ (by decide +kernel)) ggX10_amountLength_X10_sumUpFrom
theorem dX10_amountLength_0 : decode cX10_amountLength 0 = .ok (.aload_n 0, 1) := by decide +kernel
theorem dX10_amountLength_1 : decode cX10_amountLength 1 = .ok (.getfield 79, 3) := by decide +kernel
theorem dX10_amountLength_4 : decode cX10_amountLength 4 = .ok (.iload_n 1, 1) := by decide +kernel
theorem dX10_amountLength_5 : decode cX10_amountLength 5 = .ok (.invokevirtual 165, 3) := by decide +kernel
theorem dX10_amountLength_8 : decode cX10_amountLength 8 = .ok (.ifCond .ne 6, 3) := by decide +kernel
theorem dX10_amountLength_11 : decode cX10_amountLength 11 = .ok (.bipush (-2), 2) := by decide +kernel
theorem dX10_amountLength_13 : decode cX10_amountLength 13 = .ok (.ireturn, 1) := by decide +kernel
theorem dX10_amountLength_14 : decode cX10_amountLength 14 = .ok (.aload_n 0, 1) := by decide +kernel
theorem dX10_amountLength_15 : decode cX10_amountLength 15 = .ok (.iload_n 1, 1) := by decide +kernel
theorem dX10_amountLength_16 : decode cX10_amountLength 16 = .ok (.invokevirtual 194, 3) := by decide +kernel
theorem dX10_amountLength_19 : decode cX10_amountLength 19 = .ok (.aload_n 0, 1) := by decide +kernel
theorem dX10_amountLength_20 : decode cX10_amountLength 20 = .ok (.getfield 65, 3) := by decide +kernel
theorem dX10_amountLength_23 : decode cX10_amountLength 23 = .ok (.getfield 197, 3) := by decide +kernel
theorem dX10_amountLength_26 : decode cX10_amountLength 26 = .ok (.ireturn, 1) := by decide +kernel
set_option maxRecDepth 20000 in
theorem ggX10_thing_X6_addThing : GoodIn wsX10_thing wsX6_addThing := goodIn_r _ [7, 8, 19, 20, 21, 22, 23, 24] (by decide +kernel) (by decide +kernel)
set_option maxRecDepth 20000 in
theorem gX10_thing_X6_addThing : GoodIn wsX10_thing (wsV RX10 206 RX6 yX6_addThing wsX6_addThing) := goodIn_app (goodIn_of _ (by decide +kernel)) ggX10_thing_X6_addThing
theorem dX10_thing_0 : decode cX10_thing 0 = .ok (.aload_n 0, 1) := by decide +kernel
theorem dX10_thing_1 : decode cX10_thing 1 = .ok (.getfield 58, 3) := by decide +kernel
theorem dX10_thing_4 : decode cX10_thing 4 = .ok (.invokevirtual 206, 3) := by decide +kernel
theorem dX10_thing_7 : decode cX10_thing 7 = .ok (.ifCond .eq 15, 3) := by decide +kernel
theorem dX10_thing_10 : decode cX10_thing 10 = .ok (.aload_n 0, 1) := by decide +kernel
theorem dX10_thing_11 : decode cX10_thing 11 = .ok (.getfield 58, 3) := by decide +kernel
theorem dX10_thing_14 : decode cX10_thing 14 = .ok (.getfield 209, 3) := by decide +kernel
theorem dX10_thing_17 : decode cX10_thing 17 = .ok (.iconst 1, 1) := by decide +kernel
theorem dX10_thing_18 : decode cX10_thing 18 = .ok (.isub, 1) := by decide +kernel
theorem dX10_thing_19 : decode cX10_thing 19 = .ok (.goto 5, 3) := by decide +kernel
theorem dX10_thing_22 : decode cX10_thing 22 = .ok (.bipush (-5), 2) := by decide +kernel
theorem dX10_thing_24 : decode cX10_thing 24 = .ok (.ireturn, 1) := by decide +kernel
set_option maxRecDepth 20000 in
theorem ggX10_means_X6_has : GoodIn wsX10_means wsX6_has := goodIn_r _ [8, 9, 39, 40, 41, 42, 43, 44] (by decide +kernel) (by decide +kernel)
set_option maxRecDepth 20000 in
theorem gX10_means_X6_has : GoodIn wsX10_means (wsV RX10 210 RX6 yX6_has wsX6_has) := goodIn_app (goodIn_of _ (by decide +kernel)) ggX10_means_X6_has
set_option maxRecDepth 20000 in
theorem ggX10_means_X8_known : GoodIn wsX10_means wsX8_known := goodIn_r _ [14, 15, 16, 45, 46, 47, 48, 49] (by decide +kernel) (by decide +kernel)
set_option maxRecDepth 20000 in
theorem gX10_means_X8_known : GoodIn wsX10_means (wsV RX10 132 RX8 yX8_known wsX8_known) := goodIn_app (goodIn_of _ (by decide +kernel)) ggX10_means_X8_known
set_option maxRecDepth 20000 in
theorem ggX10_means_X10_isFlag : GoodIn wsX10_means wsX10_isFlag := goodIn_r _ [20] (by decide +kernel) (by decide +kernel)
set_option maxRecDepth 20000 in
theorem gX10_means_X10_isFlag : GoodIn wsX10_means (va_wsS RX10 211 yX10_isFlag wsX10_isFlag) := goodIn_app (goodIn_of _ (by decide +kernel)) ggX10_means_X10_isFlag
set_option maxRecDepth 20000 in
theorem ggX10_means_X6_addMeaning : GoodIn wsX10_means wsX6_addMeaning := goodIn_r _ [24, 25, 26, 27, 28, 39, 40, 41, 42, 43, 44] (by decide +kernel) (by decide +kernel)
set_option maxRecDepth 20000 in
theorem gX10_means_X6_addMeaning : GoodIn wsX10_means (wsV RX10 214 RX6 yX6_addMeaning wsX6_addMeaning) := goodIn_app (goodIn_of _ (by decide +kernel)) ggX10_means_X6_addMeaning
theorem dX10_means_0 : decode cX10_means 0 = .ok (.aload_n 0, 1) := by decide +kernel
theorem dX10_means_1 : decode cX10_means 1 = .ok (.getfield 58, 3) := by decide +kernel
theorem dX10_means_4 : decode cX10_means 4 = .ok (.iload_n 1, 1) := by decide +kernel
theorem dX10_means_5 : decode cX10_means 5 = .ok (.invokevirtual 210, 3) := by decide +kernel
theorem dX10_means_8 : decode cX10_means 8 = .ok (.ifCond .eq 14, 3) := by decide +kernel
theorem dX10_means_11 : decode cX10_means 11 = .ok (.aload_n 0, 1) := by decide +kernel
theorem dX10_means_12 : decode cX10_means 12 = .ok (.getfield 39, 3) := by decide +kernel
theorem dX10_means_15 : decode cX10_means 15 = .ok (.iload_n 2, 1) := by decide +kernel
theorem dX10_means_16 : decode cX10_means 16 = .ok (.invokevirtual 132, 3) := by decide +kernel
theorem dX10_means_19 : decode cX10_means 19 = .ok (.ifnonnull 6, 3) := by decide +kernel
theorem dX10_means_22 : decode cX10_means 22 = .ok (.bipush (-2), 2) := by decide +kernel
theorem dX10_means_24 : decode cX10_means 24 = .ok (.ireturn, 1) := by decide +kernel
theorem dX10_means_25 : decode cX10_means 25 = .ok (.iload_n 3, 1) := by decide +kernel
theorem dX10_means_26 : decode cX10_means 26 = .ok (.iconst (-1), 1) := by decide +kernel
theorem dX10_means_27 : decode cX10_means 27 = .ok (.if_icmp .eq 13, 3) := by decide +kernel
theorem dX10_means_30 : decode cX10_means 30 = .ok (.iload_n 3, 1) := by decide +kernel
theorem dX10_means_31 : decode cX10_means 31 = .ok (.invokestatic 211, 3) := by decide +kernel
theorem dX10_means_34 : decode cX10_means 34 = .ok (.ifCond .ne 6, 3) := by decide +kernel
theorem dX10_means_37 : decode cX10_means 37 = .ok (.bipush (-3), 2) := by decide +kernel
theorem dX10_means_39 : decode cX10_means 39 = .ok (.ireturn, 1) := by decide +kernel
theorem dX10_means_40 : decode cX10_means 40 = .ok (.aload_n 0, 1) := by decide +kernel
theorem dX10_means_41 : decode cX10_means 41 = .ok (.getfield 58, 3) := by decide +kernel
theorem dX10_means_44 : decode cX10_means 44 = .ok (.iload_n 1, 1) := by decide +kernel
theorem dX10_means_45 : decode cX10_means 45 = .ok (.iload_n 2, 1) := by decide +kernel
theorem dX10_means_46 : decode cX10_means 46 = .ok (.iload_n 3, 1) := by decide +kernel
theorem dX10_means_47 : decode cX10_means 47 = .ok (.invokevirtual 214, 3) := by decide +kernel
theorem dX10_means_50 : decode cX10_means 50 = .ok (.ifCond .eq 13, 3) := by decide +kernel
theorem dX10_means_53 : decode cX10_means 53 = .ok (.aload_n 0, 1) := by decide +kernel
theorem dX10_means_54 : decode cX10_means 54 = .ok (.getfield 58, 3) := by decide +kernel
theorem dX10_means_57 : decode cX10_means 57 = .ok (.getfield 218, 3) := by decide +kernel
theorem dX10_means_60 : decode cX10_means 60 = .ok (.goto 5, 3) := by decide +kernel
theorem dX10_means_63 : decode cX10_means 63 = .ok (.bipush (-5), 2) := by decide +kernel
theorem dX10_means_65 : decode cX10_means 65 = .ok (.ireturn, 1) := by decide +kernel
set_option maxRecDepth 20000 in
theorem ggX10_flag_X10_isFlag : GoodIn wsX10_flag wsX10_isFlag := goodIn_r _ [5] (by decide +kernel) (by decide +kernel)
set_option maxRecDepth 20000 in
theorem gX10_flag_X10_isFlag : GoodIn wsX10_flag (va_wsS RX10 211 yX10_isFlag wsX10_isFlag) := goodIn_app (goodIn_of _ (by decide +kernel)) ggX10_flag_X10_isFlag
set_option maxRecDepth 20000 in
theorem ggX10_flag_X6_isUp : GoodIn wsX10_flag wsX6_isUp := goodIn_r _ [10, 11, 26, 27, 28, 29, 30, 31] (by decide +kernel) (by decide +kernel)
set_option maxRecDepth 20000 in
theorem gX10_flag_X6_isUp : GoodIn wsX10_flag (wsV RX10 221 RX6 yX6_isUp wsX6_isUp) := goodIn_app (goodIn_of _ (by decide +kernel)) ggX10_flag_X6_isUp
set_option maxRecDepth 20000 in
theorem ggX10_flag_X6_setFlag : GoodIn wsX10_flag wsX6_setFlag := goodIn_r _ [15, 11, 26, 27, 28, 29, 30, 31] (by decide +kernel) (by decide +kernel)
set_option maxRecDepth 20000 in
theorem gX10_flag_X6_setFlag : GoodIn wsX10_flag (wsV RX10 224 RX6 yX6_setFlag wsX6_setFlag) := goodIn_app (goodIn_of _ (by decide +kernel)) ggX10_flag_X6_setFlag
theorem dX10_flag_0 : decode cX10_flag 0 = .ok (.iload_n 1, 1) := by decide +kernel
theorem dX10_flag_1 : decode cX10_flag 1 = .ok (.invokestatic 211, 3) := by decide +kernel
theorem dX10_flag_4 : decode cX10_flag 4 = .ok (.ifCond .ne 6, 3) := by decide +kernel
theorem dX10_flag_7 : decode cX10_flag 7 = .ok (.bipush (-3), 2) := by decide +kernel
theorem dX10_flag_9 : decode cX10_flag 9 = .ok (.ireturn, 1) := by decide +kernel
theorem dX10_flag_10 : decode cX10_flag 10 = .ok (.aload_n 0, 1) := by decide +kernel
theorem dX10_flag_11 : decode cX10_flag 11 = .ok (.getfield 58, 3) := by decide +kernel
theorem dX10_flag_14 : decode cX10_flag 14 = .ok (.iload_n 1, 1) := by decide +kernel
theorem dX10_flag_15 : decode cX10_flag 15 = .ok (.invokevirtual 221, 3) := by decide +kernel
theorem dX10_flag_18 : decode cX10_flag 18 = .ok (.ifCond .eq 7, 3) := by decide +kernel
theorem dX10_flag_21 : decode cX10_flag 21 = .ok (.iconst 1, 1) := by decide +kernel
theorem dX10_flag_22 : decode cX10_flag 22 = .ok (.goto 4, 3) := by decide +kernel
theorem dX10_flag_25 : decode cX10_flag 25 = .ok (.iconst 0, 1) := by decide +kernel
theorem dX10_flag_26 : decode cX10_flag 26 = .ok (.istore_n 3, 1) := by decide +kernel
theorem dX10_flag_27 : decode cX10_flag 27 = .ok (.aload_n 0, 1) := by decide +kernel
theorem dX10_flag_28 : decode cX10_flag 28 = .ok (.getfield 58, 3) := by decide +kernel
theorem dX10_flag_31 : decode cX10_flag 31 = .ok (.iload_n 1, 1) := by decide +kernel
theorem dX10_flag_32 : decode cX10_flag 32 = .ok (.iload_n 2, 1) := by decide +kernel
theorem dX10_flag_33 : decode cX10_flag 33 = .ok (.invokevirtual 224, 3) := by decide +kernel
theorem dX10_flag_36 : decode cX10_flag 36 = .ok (.iload_n 3, 1) := by decide +kernel
theorem dX10_flag_37 : decode cX10_flag 37 = .ok (.ireturn, 1) := by decide +kernel
set_option maxRecDepth 20000 in
theorem ggX10_refer_X8_known : GoodIn wsX10_refer wsX8_known := goodIn_r _ [8, 9, 10, 39, 40, 41, 42, 43] (by decide +kernel) (by decide +kernel)
set_option maxRecDepth 20000 in
theorem gX10_refer_X8_known : GoodIn wsX10_refer (wsV RX10 132 RX8 yX8_known wsX8_known) := goodIn_app (goodIn_of _ (by decide +kernel)) ggX10_refer_X8_known
set_option maxRecDepth 20000 in
theorem ggX10_refer_X6_areAll : GoodIn wsX10_refer wsX6_areAll := goodIn_r _ [15, 16, 44, 45, 46, 47, 48, 49] (by decide +kernel) (by decide +kernel)
set_option maxRecDepth 20000 in
theorem gX10_refer_X6_areAll : GoodIn wsX10_refer (wsV RX10 228 RX6 yX6_areAll wsX6_areAll) := goodIn_app (goodIn_of _ (by decide +kernel)) ggX10_refer_X6_areAll
set_option maxRecDepth 20000 in
theorem ggX10_refer_X9_isOneOf : GoodIn wsX10_refer wsX9_isOneOf := goodIn_r _ [21, 22, 33, 34, 35, 36, 37, 38] (by decide +kernel) (by decide +kernel)
set_option maxRecDepth 20000 in
theorem gX10_refer_X9_isOneOf : GoodIn wsX10_refer (wsV RX10 144 RX9 yX9_isOneOf wsX9_isOneOf) := goodIn_app (goodIn_of _ (by decide +kernel)) ggX10_refer_X9_isOneOf
theorem dX10_refer_0 : decode cX10_refer 0 = .ok (.aload_n 0, 1) := by decide +kernel
theorem dX10_refer_1 : decode cX10_refer 1 = .ok (.getfield 39, 3) := by decide +kernel
theorem dX10_refer_4 : decode cX10_refer 4 = .ok (.iload_n 1, 1) := by decide +kernel
theorem dX10_refer_5 : decode cX10_refer 5 = .ok (.invokevirtual 132, 3) := by decide +kernel
theorem dX10_refer_8 : decode cX10_refer 8 = .ok (.astore_n 3, 1) := by decide +kernel
theorem dX10_refer_9 : decode cX10_refer 9 = .ok (.aload_n 3, 1) := by decide +kernel
theorem dX10_refer_10 : decode cX10_refer 10 = .ok (.ifnonnull 6, 3) := by decide +kernel
theorem dX10_refer_13 : decode cX10_refer 13 = .ok (.bipush (-2), 2) := by decide +kernel
theorem dX10_refer_15 : decode cX10_refer 15 = .ok (.ireturn, 1) := by decide +kernel
theorem dX10_refer_16 : decode cX10_refer 16 = .ok (.aload_n 0, 1) := by decide +kernel
theorem dX10_refer_17 : decode cX10_refer 17 = .ok (.getfield 58, 3) := by decide +kernel
theorem dX10_refer_20 : decode cX10_refer 20 = .ok (.iload_n 2, 1) := by decide +kernel
theorem dX10_refer_21 : decode cX10_refer 21 = .ok (.invokevirtual 228, 3) := by decide +kernel
theorem dX10_refer_24 : decode cX10_refer 24 = .ok (.ifCond .ne 6, 3) := by decide +kernel
theorem dX10_refer_27 : decode cX10_refer 27 = .ok (.bipush (-3), 2) := by decide +kernel
theorem dX10_refer_29 : decode cX10_refer 29 = .ok (.ireturn, 1) := by decide +kernel
theorem dX10_refer_30 : decode cX10_refer 30 = .ok (.aload_n 3, 1) := by decide +kernel
theorem dX10_refer_31 : decode cX10_refer 31 = .ok (.bipush 16, 2) := by decide +kernel
theorem dX10_refer_33 : decode cX10_refer 33 = .ok (.invokevirtual 144, 3) := by decide +kernel
theorem dX10_refer_36 : decode cX10_refer 36 = .ok (.ifCond .ne 6, 3) := by decide +kernel
theorem dX10_refer_39 : decode cX10_refer 39 = .ok (.bipush (-4), 2) := by decide +kernel
theorem dX10_refer_41 : decode cX10_refer 41 = .ok (.ireturn, 1) := by decide +kernel
theorem dX10_refer_42 : decode cX10_refer 42 = .ok (.aload_n 3, 1) := by decide +kernel
theorem dX10_refer_43 : decode cX10_refer 43 = .ok (.getfield 231, 3) := by decide +kernel
theorem dX10_refer_46 : decode cX10_refer 46 = .ok (.istore 4, 2) := by decide +kernel
theorem dX10_refer_48 : decode cX10_refer 48 = .ok (.aload_n 3, 1) := by decide +kernel
theorem dX10_refer_49 : decode cX10_refer 49 = .ok (.iload_n 2, 1) := by decide +kernel
theorem dX10_refer_50 : decode cX10_refer 50 = .ok (.putfield 231, 3) := by decide +kernel
theorem dX10_refer_53 : decode cX10_refer 53 = .ok (.iload 4, 2) := by decide +kernel
theorem dX10_refer_55 : decode cX10_refer 55 = .ok (.ireturn, 1) := by decide +kernel
set_option maxRecDepth 20000 in
theorem ggX10_meant_X7_has : GoodIn wsX10_meant wsX7_has := goodIn_r _ [6, 7, 60, 61, 62, 63, 64, 65, 66] (by decide +kernel) (by decide +kernel)
set_option maxRecDepth 20000 in
theorem gX10_meant_X7_has : GoodIn wsX10_meant (wsV RX10 165 RX7 yX7_has wsX7_has) := goodIn_app (goodIn_of _ (by decide +kernel)) ggX10_meant_X7_has
set_option maxRecDepth 20000 in
theorem ggX10_meant_X10_thingsMeantAt : GoodIn wsX10_meant wsX10_thingsMeantAt := goodIn_r _ [12, 13, 1, 14, 15, 16, 17, 18, 19, 11, 20, 21, 22, 2, 3, 4, 5, 6, 7, 23, 24, 25, 26, 27, 28, 29, 30, 31, 32, 33, 34, 35, 36, 37, 38, 39, 40, 41, 42, 43, 44, 45, 46, 47, 48, 49, 50, 51, 52, 53, 54, 55, 56, 57, 58, 59, 60, 61, 62, 63, 64, 65, 66, 67, 68, 69, 70, 71, 72, 73, 74, 75, 76, 77, 78, 79, 80, 81, 82, 83] (by decide +kernel) (by decide +kernel)
set_option maxRecDepth 20000 in
theorem gX10_meant_X10_thingsMeantAt : GoodIn wsX10_meant (wsV RX10 234 RX10 yX10_thingsMeantAt wsX10_thingsMeantAt) := goodIn_app (goodIn_of _ (by decide +kernel)) ggX10_meant_X10_thingsMeantAt
theorem dX10_meant_0 : decode cX10_meant 0 = .ok (.aload_n 0, 1) := by decide +kernel
theorem dX10_meant_1 : decode cX10_meant 1 = .ok (.getfield 79, 3) := by decide +kernel
theorem dX10_meant_4 : decode cX10_meant 4 = .ok (.iload_n 1, 1) := by decide +kernel
theorem dX10_meant_5 : decode cX10_meant 5 = .ok (.invokevirtual 165, 3) := by decide +kernel
theorem dX10_meant_8 : decode cX10_meant 8 = .ok (.ifCond .eq 11, 3) := by decide +kernel
theorem dX10_meant_11 : decode cX10_meant 11 = .ok (.aload_n 0, 1) := by decide +kernel
theorem dX10_meant_12 : decode cX10_meant 12 = .ok (.iload_n 1, 1) := by decide +kernel
theorem dX10_meant_13 : decode cX10_meant 13 = .ok (.invokevirtual 234, 3) := by decide +kernel
theorem dX10_meant_16 : decode cX10_meant 16 = .ok (.goto 5, 3) := by decide +kernel
theorem dX10_meant_19 : decode cX10_meant 19 = .ok (.bipush (-2), 2) := by decide +kernel
theorem dX10_meant_21 : decode cX10_meant 21 = .ok (.ireturn, 1) := by decide +kernel
set_option maxRecDepth 20000 in
theorem ggX10_phrase_X7_has : GoodIn wsX10_phrase wsX7_has := goodIn_r _ [8, 9, 80, 81, 82, 83, 84, 85, 86] (by decide +kernel) (by decide +kernel)
set_option maxRecDepth 20000 in
theorem gX10_phrase_X7_has : GoodIn wsX10_phrase (wsV RX10 165 RX7 yX7_has wsX7_has) := goodIn_app (goodIn_of _ (by decide +kernel)) ggX10_phrase_X7_has
set_option maxRecDepth 20000 in
theorem ggX10_phrase_X10_followPhraseFrom : GoodIn wsX10_phrase wsX10_followPhraseFrom := goodIn_r _ [14, 2, 1, 15, 16, 17, 18, 19, 20, 21, 22, 23, 24, 25, 13, 26, 27, 28, 29, 4, 5, 6, 7, 8, 9, 30, 31, 32, 33, 34, 35, 36, 37, 38, 39, 40, 41, 42, 43, 44, 45, 46, 47, 48, 49, 50, 51, 52, 53, 54, 55, 56, 57, 58, 59, 60, 61, 62, 63, 64, 65, 66, 67, 68, 69, 70, 71, 72, 73, 74, 75, 76, 77, 80, 81, 82, 83, 84, 85, 86, 78, 79, 87, 88, 89, 90, 91, 92, 93, 94, 95, 96, 97, 98, 99, 100, 101, 102, 103] (by decide +kernel) (by decide +kernel)
set_option maxRecDepth 20000 in
theorem gX10_phrase_X10_followPhraseFrom : GoodIn wsX10_phrase (wsV RX10 237 RX10 yX10_followPhraseFrom wsX10_followPhraseFrom) := goodIn_app (goodIn_of _ (by decide +kernel)) ggX10_phrase_X10_followPhraseFrom
theorem dX10_phrase_0 : decode cX10_phrase 0 = .ok (.aload_n 0, 1) := by decide +kernel
theorem dX10_phrase_1 : decode cX10_phrase 1 = .ok (.getfield 79, 3) := by decide +kernel
theorem dX10_phrase_4 : decode cX10_phrase 4 = .ok (.iload_n 1, 1) := by decide +kernel
theorem dX10_phrase_5 : decode cX10_phrase 5 = .ok (.invokevirtual 165, 3) := by decide +kernel
theorem dX10_phrase_8 : decode cX10_phrase 8 = .ok (.ifCond .ne 6, 3) := by decide +kernel
theorem dX10_phrase_11 : decode cX10_phrase 11 = .ok (.bipush (-2), 2) := by decide +kernel
theorem dX10_phrase_13 : decode cX10_phrase 13 = .ok (.ireturn, 1) := by decide +kernel
theorem dX10_phrase_14 : decode cX10_phrase 14 = .ok (.aload_n 0, 1) := by decide +kernel
theorem dX10_phrase_15 : decode cX10_phrase 15 = .ok (.iload_n 1, 1) := by decide +kernel
theorem dX10_phrase_16 : decode cX10_phrase 16 = .ok (.invokevirtual 237, 3) := by decide +kernel
theorem dX10_phrase_19 : decode cX10_phrase 19 = .ok (.aload_n 0, 1) := by decide +kernel
theorem dX10_phrase_20 : decode cX10_phrase 20 = .ok (.getfield 72, 3) := by decide +kernel
theorem dX10_phrase_23 : decode cX10_phrase 23 = .ok (.getfield 240, 3) := by decide +kernel
theorem dX10_phrase_26 : decode cX10_phrase 26 = .ok (.ireturn, 1) := by decide +kernel
set_option maxRecDepth 20000 in
theorem ggX10_phraseLength_X7_has : GoodIn wsX10_phraseLength wsX7_has := goodIn_r _ [8, 9, 80, 81, 82, 83, 84, 85, 86] (by decide +kernel) (by decide +kernel)
set_option maxRecDepth 20000 in
theorem gX10_phraseLength_X7_has : GoodIn wsX10_phraseLength (wsV RX10 165 RX7 yX7_has wsX7_has) := goodIn_app (goodIn_of _ (by decide +kernel)) ggX10_phraseLength_X7_has
set_option maxRecDepth 20000 in
theorem ggX10_phraseLength_X10_followPhraseFrom : GoodIn wsX10_phraseLength wsX10_followPhraseFrom := goodIn_r _ [14, 2, 1, 15, 16, 17, 18, 19, 20, 21, 22, 23, 24, 25, 13, 26, 27, 28, 29, 4, 5, 6, 7, 8, 9, 30, 31, 32, 33, 34, 35, 36, 37, 38, 39, 40, 41, 42, 43, 44, 45, 46, 47, 48, 49, 50, 51, 52, 53, 54, 55, 56, 57, 58, 59, 60, 61, 62, 63, 64, 65, 66, 67, 68, 69, 70, 71, 72, 73, 74, 75, 76, 77, 80, 81, 82, 83, 84, 85, 86, 78, 79, 87, 88, 89, 90, 91, 92, 93, 94, 95, 96, 97, 98, 99, 100, 101, 102, 103] (by decide +kernel) (by decide +kernel)
set_option maxRecDepth 20000 in
theorem gX10_phraseLength_X10_followPhraseFrom : GoodIn wsX10_phraseLength (wsV RX10 237 RX10 yX10_followPhraseFrom wsX10_followPhraseFrom) := goodIn_app (goodIn_of _ (by decide +kernel)) ggX10_phraseLength_X10_followPhraseFrom
theorem dX10_phraseLength_0 : decode cX10_phraseLength 0 = .ok (.aload_n 0, 1) := by decide +kernel
theorem dX10_phraseLength_1 : decode cX10_phraseLength 1 = .ok (.getfield 79, 3) := by decide +kernel
theorem dX10_phraseLength_4 : decode cX10_phraseLength 4 = .ok (.iload_n 1, 1) := by decide +kernel
theorem dX10_phraseLength_5 : decode cX10_phraseLength 5 = .ok (.invokevirtual 165, 3) := by decide +kernel
theorem dX10_phraseLength_8 : decode cX10_phraseLength 8 = .ok (.ifCond .ne 6, 3) := by decide +kernel
theorem dX10_phraseLength_11 : decode cX10_phraseLength 11 = .ok (.bipush (-2), 2) := by decide +kernel
theorem dX10_phraseLength_13 : decode cX10_phraseLength 13 = .ok (.ireturn, 1) := by decide +kernel
theorem dX10_phraseLength_14 : decode cX10_phraseLength 14 = .ok (.aload_n 0, 1) := by decide +kernel
theorem dX10_phraseLength_15 : decode cX10_phraseLength 15 = .ok (.iload_n 1, 1) := by decide +kernel
theorem dX10_phraseLength_16 : decode cX10_phraseLength 16 = .ok (.invokevirtual 237, 3) := by decide +kernel
theorem dX10_phraseLength_19 : decode cX10_phraseLength 19 = .ok (.aload_n 0, 1) := by decide +kernel
theorem dX10_phraseLength_20 : decode cX10_phraseLength 20 = .ok (.getfield 72, 3) := by decide +kernel
theorem dX10_phraseLength_23 : decode cX10_phraseLength 23 = .ok (.getfield 243, 3) := by decide +kernel
theorem dX10_phraseLength_26 : decode cX10_phraseLength 26 = .ok (.ireturn, 1) := by decide +kernel
set_option maxRecDepth 20000 in
theorem ggX10_about_X8_known : GoodIn wsX10_about wsX8_known := goodIn_r _ [13, 14, 15, 34, 35, 36, 37, 38] (by decide +kernel) (by decide +kernel)
set_option maxRecDepth 20000 in
theorem gX10_about_X8_known : GoodIn wsX10_about (wsV RX10 132 RX8 yX8_known wsX8_known) := goodIn_app (goodIn_of _ (by decide +kernel)) ggX10_about_X8_known
theorem dX10_about_0 : decode cX10_about 0 = .ok (.aload_n 0, 1) := by decide +kernel
theorem dX10_about_1 : decode cX10_about 1 = .ok (.getfield 39, 3) := by decide +kernel
theorem dX10_about_4 : decode cX10_about 4 = .ok (.iload_n 1, 1) := by decide +kernel
theorem dX10_about_5 : decode cX10_about 5 = .ok (.invokevirtual 132, 3) := by decide +kernel
theorem dX10_about_8 : decode cX10_about 8 = .ok (.astore_n 3, 1) := by decide +kernel
theorem dX10_about_9 : decode cX10_about 9 = .ok (.aload_n 3, 1) := by decide +kernel
theorem dX10_about_10 : decode cX10_about 10 = .ok (.ifnonnull 6, 3) := by decide +kernel
theorem dX10_about_13 : decode cX10_about 13 = .ok (.bipush (-2), 2) := by decide +kernel
theorem dX10_about_15 : decode cX10_about 15 = .ok (.ireturn, 1) := by decide +kernel
theorem dX10_about_16 : decode cX10_about 16 = .ok (.iload_n 2, 1) := by decide +kernel
theorem dX10_about_17 : decode cX10_about 17 = .ok (.tableswitch 72 0 5 #[39, 44, 49, 54, 59, 67], 39) := by decide +kernel
theorem dX10_about_56 : decode cX10_about 56 = .ok (.aload_n 3, 1) := by decide +kernel
theorem dX10_about_57 : decode cX10_about 57 = .ok (.getfield 244, 3) := by decide +kernel
theorem dX10_about_60 : decode cX10_about 60 = .ok (.ireturn, 1) := by decide +kernel
theorem dX10_about_61 : decode cX10_about 61 = .ok (.aload_n 3, 1) := by decide +kernel
theorem dX10_about_62 : decode cX10_about 62 = .ok (.getfield 136, 3) := by decide +kernel
theorem dX10_about_65 : decode cX10_about 65 = .ok (.ireturn, 1) := by decide +kernel
theorem dX10_about_66 : decode cX10_about 66 = .ok (.aload_n 3, 1) := by decide +kernel
theorem dX10_about_67 : decode cX10_about 67 = .ok (.getfield 147, 3) := by decide +kernel
theorem dX10_about_70 : decode cX10_about 70 = .ok (.ireturn, 1) := by decide +kernel
theorem dX10_about_71 : decode cX10_about 71 = .ok (.aload_n 3, 1) := by decide +kernel
theorem dX10_about_72 : decode cX10_about 72 = .ok (.getfield 150, 3) := by decide +kernel
theorem dX10_about_75 : decode cX10_about 75 = .ok (.ireturn, 1) := by decide +kernel
theorem dX10_about_76 : decode cX10_about 76 = .ok (.aload_n 3, 1) := by decide +kernel
theorem dX10_about_77 : decode cX10_about 77 = .ok (.getfield 247, 3) := by decide +kernel
theorem dX10_about_80 : decode cX10_about 80 = .ok (.getfield 118, 3) := by decide +kernel
theorem dX10_about_83 : decode cX10_about 83 = .ok (.ireturn, 1) := by decide +kernel
theorem dX10_about_84 : decode cX10_about 84 = .ok (.aload_n 3, 1) := by decide +kernel
theorem dX10_about_85 : decode cX10_about 85 = .ok (.getfield 231, 3) := by decide +kernel
theorem dX10_about_88 : decode cX10_about 88 = .ok (.ireturn, 1) := by decide +kernel
theorem dX10_about_89 : decode cX10_about 89 = .ok (.bipush (-2), 2) := by decide +kernel
theorem dX10_about_91 : decode cX10_about 91 = .ok (.ireturn, 1) := by decide +kernel
set_option maxRecDepth 20000 in
theorem ggX10_equal_X8_known : GoodIn wsX10_equal wsX8_known := goodIn_r _ [9, 10, 11, 53, 54, 55, 56, 57] (by decide +kernel) (by decide +kernel)
set_option maxRecDepth 20000 in
theorem gX10_equal_X8_known : GoodIn wsX10_equal (wsV RX10 132 RX8 yX8_known wsX8_known) := goodIn_app (goodIn_of _ (by decide +kernel)) ggX10_equal_X8_known
set_option maxRecDepth 20000 in
theorem ggX10_equal_X3_areLike : GoodIn wsX10_equal wsX3_areLike := goodIn_r _ [16, 17, 18, 19, 20, 21, 22, 23, 24, 25, 26, 27, 28, 29, 30, 31, 32, 15, 33, 34, 51, 52, 58, 59] (by decide +kernel) (by decide +kernel)
set_option maxRecDepth 20000 in
theorem gX10_equal_X3_areLike : GoodIn wsX10_equal (wsV RX10 250 RX3 yX3_areLike wsX3_areLike) := goodIn_app (goodIn_of _ (by decide +kernel)) ggX10_equal_X3_areLike
theorem dX10_equal_0 : decode cX10_equal 0 = .ok (.aload_n 0, 1) := by decide +kernel
theorem dX10_equal_1 : decode cX10_equal 1 = .ok (.getfield 39, 3) := by decide +kernel
theorem dX10_equal_4 : decode cX10_equal 4 = .ok (.iload_n 1, 1) := by decide +kernel
theorem dX10_equal_5 : decode cX10_equal 5 = .ok (.invokevirtual 132, 3) := by decide +kernel
theorem dX10_equal_8 : decode cX10_equal 8 = .ok (.astore_n 3, 1) := by decide +kernel
theorem dX10_equal_9 : decode cX10_equal 9 = .ok (.aload_n 0, 1) := by decide +kernel
theorem dX10_equal_10 : decode cX10_equal 10 = .ok (.getfield 39, 3) := by decide +kernel
theorem dX10_equal_13 : decode cX10_equal 13 = .ok (.iload_n 2, 1) := by decide +kernel
theorem dX10_equal_14 : decode cX10_equal 14 = .ok (.invokevirtual 132, 3) := by decide +kernel
theorem dX10_equal_17 : decode cX10_equal 17 = .ok (.astore 4, 2) := by decide +kernel
theorem dX10_equal_19 : decode cX10_equal 19 = .ok (.aload_n 3, 1) := by decide +kernel
theorem dX10_equal_20 : decode cX10_equal 20 = .ok (.ifnull 8, 3) := by decide +kernel
theorem dX10_equal_23 : decode cX10_equal 23 = .ok (.aload 4, 2) := by decide +kernel
theorem dX10_equal_25 : decode cX10_equal 25 = .ok (.ifnonnull 6, 3) := by decide +kernel
theorem dX10_equal_28 : decode cX10_equal 28 = .ok (.bipush (-2), 2) := by decide +kernel
theorem dX10_equal_30 : decode cX10_equal 30 = .ok (.ireturn, 1) := by decide +kernel
theorem dX10_equal_31 : decode cX10_equal 31 = .ok (.aload_n 0, 1) := by decide +kernel
theorem dX10_equal_32 : decode cX10_equal 32 = .ok (.getfield 23, 3) := by decide +kernel
theorem dX10_equal_35 : decode cX10_equal 35 = .ok (.aload_n 3, 1) := by decide +kernel
theorem dX10_equal_36 : decode cX10_equal 36 = .ok (.getfield 247, 3) := by decide +kernel
theorem dX10_equal_39 : decode cX10_equal 39 = .ok (.aload 4, 2) := by decide +kernel
theorem dX10_equal_41 : decode cX10_equal 41 = .ok (.getfield 247, 3) := by decide +kernel
theorem dX10_equal_44 : decode cX10_equal 44 = .ok (.iconst 0, 1) := by decide +kernel
theorem dX10_equal_45 : decode cX10_equal 45 = .ok (.aload 4, 2) := by decide +kernel
theorem dX10_equal_47 : decode cX10_equal 47 = .ok (.getfield 247, 3) := by decide +kernel
theorem dX10_equal_50 : decode cX10_equal 50 = .ok (.getfield 118, 3) := by decide +kernel
theorem dX10_equal_53 : decode cX10_equal 53 = .ok (.invokevirtual 250, 3) := by decide +kernel
theorem dX10_equal_56 : decode cX10_equal 56 = .ok (.ifCond .eq 7, 3) := by decide +kernel
theorem dX10_equal_59 : decode cX10_equal 59 = .ok (.iconst 1, 1) := by decide +kernel
theorem dX10_equal_60 : decode cX10_equal 60 = .ok (.goto 4, 3) := by decide +kernel
theorem dX10_equal_63 : decode cX10_equal 63 = .ok (.iconst 0, 1) := by decide +kernel
theorem dX10_equal_64 : decode cX10_equal 64 = .ok (.ireturn, 1) := by decide +kernel
theorem dX10_told_0 : decode cX10_told 0 = .ok (.iload_n 1, 1) := by decide +kernel
theorem dX10_told_1 : decode cX10_told 1 = .ok (.tableswitch 99 0 6 #[43, 51, 59, 67, 75, 83, 91], 43) := by decide +kernel
theorem dX10_told_44 : decode cX10_told 44 = .ok (.aload_n 0, 1) := by decide +kernel
theorem dX10_told_45 : decode cX10_told 45 = .ok (.getfield 30, 3) := by decide +kernel
theorem dX10_told_48 : decode cX10_told 48 = .ok (.getfield 118, 3) := by decide +kernel
theorem dX10_told_51 : decode cX10_told 51 = .ok (.ireturn, 1) := by decide +kernel
theorem dX10_told_52 : decode cX10_told 52 = .ok (.aload_n 0, 1) := by decide +kernel
theorem dX10_told_53 : decode cX10_told 53 = .ok (.getfield 39, 3) := by decide +kernel
theorem dX10_told_56 : decode cX10_told 56 = .ok (.getfield 93, 3) := by decide +kernel
theorem dX10_told_59 : decode cX10_told 59 = .ok (.ireturn, 1) := by decide +kernel
theorem dX10_told_60 : decode cX10_told 60 = .ok (.aload_n 0, 1) := by decide +kernel
theorem dX10_told_61 : decode cX10_told 61 = .ok (.getfield 39, 3) := by decide +kernel
theorem dX10_told_64 : decode cX10_told 64 = .ok (.getfield 97, 3) := by decide +kernel
theorem dX10_told_67 : decode cX10_told 67 = .ok (.ireturn, 1) := by decide +kernel
theorem dX10_told_68 : decode cX10_told 68 = .ok (.aload_n 0, 1) := by decide +kernel
theorem dX10_told_69 : decode cX10_told 69 = .ok (.getfield 43, 3) := by decide +kernel
theorem dX10_told_72 : decode cX10_told 72 = .ok (.getfield 118, 3) := by decide +kernel
theorem dX10_told_75 : decode cX10_told 75 = .ok (.ireturn, 1) := by decide +kernel
theorem dX10_told_76 : decode cX10_told 76 = .ok (.aload_n 0, 1) := by decide +kernel
theorem dX10_told_77 : decode cX10_told 77 = .ok (.getfield 79, 3) := by decide +kernel
theorem dX10_told_80 : decode cX10_told 80 = .ok (.getfield 254, 3) := by decide +kernel
theorem dX10_told_83 : decode cX10_told 83 = .ok (.ireturn, 1) := by decide +kernel
theorem dX10_told_84 : decode cX10_told 84 = .ok (.aload_n 0, 1) := by decide +kernel
theorem dX10_told_85 : decode cX10_told 85 = .ok (.getfield 58, 3) := by decide +kernel
theorem dX10_told_88 : decode cX10_told 88 = .ok (.getfield 209, 3) := by decide +kernel
theorem dX10_told_91 : decode cX10_told 91 = .ok (.ireturn, 1) := by decide +kernel
theorem dX10_told_92 : decode cX10_told 92 = .ok (.aload_n 0, 1) := by decide +kernel
theorem dX10_told_93 : decode cX10_told 93 = .ok (.getfield 58, 3) := by decide +kernel
theorem dX10_told_96 : decode cX10_told 96 = .ok (.getfield 218, 3) := by decide +kernel
theorem dX10_told_99 : decode cX10_told 99 = .ok (.ireturn, 1) := by decide +kernel
theorem dX10_told_100 : decode cX10_told 100 = .ok (.bipush (-2), 2) := by decide +kernel
theorem dX10_told_102 : decode cX10_told 102 = .ok (.ireturn, 1) := by decide +kernel
theorem dX10_isLanguage_0 : decode cX10_isLanguage 0 = .ok (.iload_n 0, 1) := by decide +kernel
theorem dX10_isLanguage_1 : decode cX10_isLanguage 1 = .ok (.ifCond .lt 12, 3) := by decide +kernel
theorem dX10_isLanguage_4 : decode cX10_isLanguage 4 = .ok (.iload_n 0, 1) := by decide +kernel
theorem dX10_isLanguage_5 : decode cX10_isLanguage 5 = .ok (.iconst 3, 1) := by decide +kernel
theorem dX10_isLanguage_6 : decode cX10_isLanguage 6 = .ok (.if_icmp .ge 7, 3) := by decide +kernel
theorem dX10_isLanguage_9 : decode cX10_isLanguage 9 = .ok (.iconst 1, 1) := by decide +kernel
theorem dX10_isLanguage_10 : decode cX10_isLanguage 10 = .ok (.goto 4, 3) := by decide +kernel
theorem dX10_isLanguage_13 : decode cX10_isLanguage 13 = .ok (.iconst 0, 1) := by decide +kernel
theorem dX10_isLanguage_14 : decode cX10_isLanguage 14 = .ok (.ireturn, 1) := by decide +kernel
theorem dX10_isFlag_0 : decode cX10_isFlag 0 = .ok (.iload_n 0, 1) := by decide +kernel
theorem dX10_isFlag_1 : decode cX10_isFlag 1 = .ok (.ifCond .lt 13, 3) := by decide +kernel
theorem dX10_isFlag_4 : decode cX10_isFlag 4 = .ok (.iload_n 0, 1) := by decide +kernel
theorem dX10_isFlag_5 : decode cX10_isFlag 5 = .ok (.bipush 8, 2) := by decide +kernel
theorem dX10_isFlag_7 : decode cX10_isFlag 7 = .ok (.if_icmp .ge 7, 3) := by decide +kernel
theorem dX10_isFlag_10 : decode cX10_isFlag 10 = .ok (.iconst 1, 1) := by decide +kernel
theorem dX10_isFlag_11 : decode cX10_isFlag 11 = .ok (.goto 4, 3) := by decide +kernel
theorem dX10_isFlag_14 : decode cX10_isFlag 14 = .ok (.iconst 0, 1) := by decide +kernel
theorem dX10_isFlag_15 : decode cX10_isFlag 15 = .ok (.ireturn, 1) := by decide +kernel
theorem dX10_takeSpareTokens_0 : decode cX10_takeSpareTokens 0 = .ok (.aload_n 0, 1) := by decide +kernel
theorem dX10_takeSpareTokens_1 : decode cX10_takeSpareTokens 1 = .ok (.getfield 79, 3) := by decide +kernel
theorem dX10_takeSpareTokens_4 : decode cX10_takeSpareTokens 4 = .ok (.astore_n 1, 1) := by decide +kernel
theorem dX10_takeSpareTokens_5 : decode cX10_takeSpareTokens 5 = .ok (.aload_n 0, 1) := by decide +kernel
theorem dX10_takeSpareTokens_6 : decode cX10_takeSpareTokens 6 = .ok (.aload_n 0, 1) := by decide +kernel
theorem dX10_takeSpareTokens_7 : decode cX10_takeSpareTokens 7 = .ok (.getfield 83, 3) := by decide +kernel
theorem dX10_takeSpareTokens_10 : decode cX10_takeSpareTokens 10 = .ok (.putfield 79, 3) := by decide +kernel
theorem dX10_takeSpareTokens_13 : decode cX10_takeSpareTokens 13 = .ok (.aload_n 0, 1) := by decide +kernel
theorem dX10_takeSpareTokens_14 : decode cX10_takeSpareTokens 14 = .ok (.aload_n 1, 1) := by decide +kernel
theorem dX10_takeSpareTokens_15 : decode cX10_takeSpareTokens 15 = .ok (.putfield 83, 3) := by decide +kernel
theorem dX10_takeSpareTokens_18 : decode cX10_takeSpareTokens 18 = .ok (.aload_n 0, 1) := by decide +kernel
theorem dX10_takeSpareTokens_19 : decode cX10_takeSpareTokens 19 = .ok (.getfield 79, 3) := by decide +kernel
theorem dX10_takeSpareTokens_22 : decode cX10_takeSpareTokens 22 = .ok (.getfield 254, 3) := by decide +kernel
theorem dX10_takeSpareTokens_25 : decode cX10_takeSpareTokens 25 = .ok (.ireturn, 1) := by decide +kernel
set_option maxRecDepth 20000 in
theorem ggX10_wordOf_X7_has : GoodIn wsX10_wordOf wsX7_has := goodIn_r _ [9, 10, 28, 29, 30, 31, 32, 33, 34] (by decide +kernel) (by decide +kernel)
set_option maxRecDepth 20000 in
theorem gX10_wordOf_X7_has : GoodIn wsX10_wordOf (wsV RX10 165 RX7 yX7_has wsX7_has) := goodIn_app (goodIn_of _ (by decide +kernel)) ggX10_wordOf_X7_has
set_option maxRecDepth 20000 in
theorem ggX10_wordOf_X8_known : GoodIn wsX10_wordOf wsX8_known := goodIn_r _ [15, 16, 17, 35, 36, 37, 38, 39] (by decide +kernel) (by decide +kernel)
set_option maxRecDepth 20000 in
theorem gX10_wordOf_X8_known : GoodIn wsX10_wordOf (wsV RX10 132 RX8 yX8_known wsX8_known) := goodIn_app (goodIn_of _ (by decide +kernel)) ggX10_wordOf_X8_known
theorem dX10_wordOf_0 : decode cX10_wordOf 0 = .ok (.aload_n 0, 1) := by decide +kernel
theorem dX10_wordOf_1 : decode cX10_wordOf 1 = .ok (.getfield 79, 3) := by decide +kernel
theorem dX10_wordOf_4 : decode cX10_wordOf 4 = .ok (.iload_n 1, 1) := by decide +kernel
theorem dX10_wordOf_5 : decode cX10_wordOf 5 = .ok (.invokevirtual 165, 3) := by decide +kernel
theorem dX10_wordOf_8 : decode cX10_wordOf 8 = .ok (.ifCond .eq 15, 3) := by decide +kernel
theorem dX10_wordOf_11 : decode cX10_wordOf 11 = .ok (.aload_n 0, 1) := by decide +kernel
theorem dX10_wordOf_12 : decode cX10_wordOf 12 = .ok (.getfield 79, 3) := by decide +kernel
theorem dX10_wordOf_15 : decode cX10_wordOf 15 = .ok (.getfield 168, 3) := by decide +kernel
theorem dX10_wordOf_18 : decode cX10_wordOf 18 = .ok (.iload_n 1, 1) := by decide +kernel
theorem dX10_wordOf_19 : decode cX10_wordOf 19 = .ok (.iaload, 1) := by decide +kernel
theorem dX10_wordOf_20 : decode cX10_wordOf 20 = .ok (.ifCond .eq 5, 3) := by decide +kernel
theorem dX10_wordOf_23 : decode cX10_wordOf 23 = .ok (.aconst_null, 1) := by decide +kernel
theorem dX10_wordOf_24 : decode cX10_wordOf 24 = .ok (.areturn, 1) := by decide +kernel
theorem dX10_wordOf_25 : decode cX10_wordOf 25 = .ok (.aload_n 0, 1) := by decide +kernel
theorem dX10_wordOf_26 : decode cX10_wordOf 26 = .ok (.getfield 39, 3) := by decide +kernel
theorem dX10_wordOf_29 : decode cX10_wordOf 29 = .ok (.aload_n 0, 1) := by decide +kernel
theorem dX10_wordOf_30 : decode cX10_wordOf 30 = .ok (.getfield 79, 3) := by decide +kernel
theorem dX10_wordOf_33 : decode cX10_wordOf 33 = .ok (.getfield 178, 3) := by decide +kernel
theorem dX10_wordOf_36 : decode cX10_wordOf 36 = .ok (.iload_n 1, 1) := by decide +kernel
theorem dX10_wordOf_37 : decode cX10_wordOf 37 = .ok (.iaload, 1) := by decide +kernel
theorem dX10_wordOf_38 : decode cX10_wordOf 38 = .ok (.invokevirtual 132, 3) := by decide +kernel
theorem dX10_wordOf_41 : decode cX10_wordOf 41 = .ok (.areturn, 1) := by decide +kernel
theorem dX10_kindsOf_0 : decode cX10_kindsOf 0 = .ok (.aload_n 0, 1) := by decide +kernel
theorem dX10_kindsOf_1 : decode cX10_kindsOf 1 = .ok (.ifnonnull 7, 3) := by decide +kernel
theorem dX10_kindsOf_4 : decode cX10_kindsOf 4 = .ok (.iconst 0, 1) := by decide +kernel
theorem dX10_kindsOf_5 : decode cX10_kindsOf 5 = .ok (.goto 7, 3) := by decide +kernel
theorem dX10_kindsOf_8 : decode cX10_kindsOf 8 = .ok (.aload_n 0, 1) := by decide +kernel
theorem dX10_kindsOf_9 : decode cX10_kindsOf 9 = .ok (.getfield 136, 3) := by decide +kernel
theorem dX10_kindsOf_12 : decode cX10_kindsOf 12 = .ok (.ireturn, 1) := by decide +kernel
set_option maxRecDepth 20000 in
theorem ggX10_sumUpFrom_X5_clear : GoodIn wsX10_sumUpFrom wsX5_clear := goodIn_r _ [11, 12, 13, 14, 80, 81, 82] (by decide +kernel) (by decide +kernel)
set_option maxRecDepth 20000 in
theorem gX10_sumUpFrom_X5_clear : GoodIn wsX10_sumUpFrom (wsV RX10 255 RX5 yX5_clear wsX5_clear) := goodIn_app (goodIn_of _ (by decide +kernel)) ggX10_sumUpFrom_X5_clear
set_option maxRecDepth 20000 in
theorem ggX10_sumUpFrom_X7_has : GoodIn wsX10_sumUpFrom wsX7_has := goodIn_r _ [19, 20, 67, 68, 69, 70, 71, 72, 73] (by decide +kernel) (by decide +kernel)
set_option maxRecDepth 20000 in
theorem gX10_sumUpFrom_X7_has : GoodIn wsX10_sumUpFrom (wsV RX10 165 RX7 yX7_has wsX7_has) := goodIn_app (goodIn_of _ (by decide +kernel)) ggX10_sumUpFrom_X7_has
set_option maxRecDepth 20000 in
theorem ggX10_sumUpFrom_X5_begin : GoodIn wsX10_sumUpFrom wsX5_begin := goodIn_r _ [24, 12, 13, 14, 80, 81, 82] (by decide +kernel) (by decide +kernel)
set_option maxRecDepth 20000 in
theorem gX10_sumUpFrom_X5_begin : GoodIn wsX10_sumUpFrom (wsV RX10 256 RX5 yX5_begin wsX5_begin) := goodIn_app (goodIn_of _ (by decide +kernel)) ggX10_sumUpFrom_X5_begin
set_option maxRecDepth 20000 in
theorem ggX10_sumUpFrom_X10_wordOf : GoodIn wsX10_sumUpFrom wsX10_wordOf := goodIn_r _ [29, 2, 3, 30, 4, 15, 16, 17, 18, 19, 20, 31, 32, 33, 34, 35, 36, 37, 57, 58, 59, 60, 61, 62, 63, 64, 65, 66, 67, 68, 69, 70, 71, 72, 73, 83, 84, 85, 86, 87] (by decide +kernel) (by decide +kernel)
set_option maxRecDepth 20000 in
theorem gX10_sumUpFrom_X10_wordOf : GoodIn wsX10_sumUpFrom (wsV RX10 181 RX10 yX10_wordOf wsX10_wordOf) := goodIn_app (goodIn_of _ (by decide +kernel)) ggX10_sumUpFrom_X10_wordOf
set_option maxRecDepth 20000 in
theorem ggX10_sumUpFrom_X9_isOneOf : GoodIn wsX10_sumUpFrom wsX9_isOneOf := goodIn_r _ [42, 43, 74, 75, 76, 77, 78, 79] (by decide +kernel) (by decide +kernel)
set_option maxRecDepth 20000 in
theorem gX10_sumUpFrom_X9_isOneOf : GoodIn wsX10_sumUpFrom (wsV RX10 144 RX9 yX9_isOneOf wsX9_isOneOf) := goodIn_app (goodIn_of _ (by decide +kernel)) ggX10_sumUpFrom_X9_isOneOf
set_option maxRecDepth 20000 in
theorem ggX10_sumUpFrom_X5_accept : GoodIn wsX10_sumUpFrom wsX5_accept := goodIn_r _ [47, 14, 13, 12, 48, 22, 23, 10, 24, 49, 50, 51, 52, 53, 54, 55, 56, 80, 81, 82] (by decide +kernel) (by decide +kernel)
set_option maxRecDepth 20000 in
theorem gX10_sumUpFrom_X5_accept : GoodIn wsX10_sumUpFrom (wsV RX10 259 RX5 yX5_accept wsX5_accept) := goodIn_app (goodIn_of _ (by decide +kernel)) ggX10_sumUpFrom_X5_accept
theorem dX10_sumUpFrom_0 : decode cX10_sumUpFrom 0 = .ok (.aload_n 0, 1) := by decide +kernel
theorem dX10_sumUpFrom_1 : decode cX10_sumUpFrom 1 = .ok (.getfield 65, 3) := by decide +kernel
theorem dX10_sumUpFrom_4 : decode cX10_sumUpFrom 4 = .ok (.invokevirtual 255, 3) := by decide +kernel
theorem dX10_sumUpFrom_7 : decode cX10_sumUpFrom 7 = .ok (.aload_n 0, 1) := by decide +kernel
theorem dX10_sumUpFrom_8 : decode cX10_sumUpFrom 8 = .ok (.getfield 79, 3) := by decide +kernel
theorem dX10_sumUpFrom_11 : decode cX10_sumUpFrom 11 = .ok (.iload_n 1, 1) := by decide +kernel
theorem dX10_sumUpFrom_12 : decode cX10_sumUpFrom 12 = .ok (.invokevirtual 165, 3) := by decide +kernel
theorem dX10_sumUpFrom_15 : decode cX10_sumUpFrom 15 = .ok (.ifCond .ne 4, 3) := by decide +kernel
theorem dX10_sumUpFrom_18 : decode cX10_sumUpFrom 18 = .ok (.return_, 1) := by decide +kernel
theorem dX10_sumUpFrom_19 : decode cX10_sumUpFrom 19 = .ok (.aload_n 0, 1) := by decide +kernel
theorem dX10_sumUpFrom_20 : decode cX10_sumUpFrom 20 = .ok (.getfield 79, 3) := by decide +kernel
theorem dX10_sumUpFrom_23 : decode cX10_sumUpFrom 23 = .ok (.getfield 168, 3) := by decide +kernel
theorem dX10_sumUpFrom_26 : decode cX10_sumUpFrom 26 = .ok (.iload_n 1, 1) := by decide +kernel
theorem dX10_sumUpFrom_27 : decode cX10_sumUpFrom 27 = .ok (.iaload, 1) := by decide +kernel
theorem dX10_sumUpFrom_28 : decode cX10_sumUpFrom 28 = .ok (.iconst 2, 1) := by decide +kernel
theorem dX10_sumUpFrom_29 : decode cX10_sumUpFrom 29 = .ok (.if_icmp .ne 20, 3) := by decide +kernel
theorem dX10_sumUpFrom_32 : decode cX10_sumUpFrom 32 = .ok (.aload_n 0, 1) := by decide +kernel
theorem dX10_sumUpFrom_33 : decode cX10_sumUpFrom 33 = .ok (.getfield 65, 3) := by decide +kernel
theorem dX10_sumUpFrom_36 : decode cX10_sumUpFrom 36 = .ok (.aload_n 0, 1) := by decide +kernel
theorem dX10_sumUpFrom_37 : decode cX10_sumUpFrom 37 = .ok (.getfield 79, 3) := by decide +kernel
theorem dX10_sumUpFrom_40 : decode cX10_sumUpFrom 40 = .ok (.getfield 178, 3) := by decide +kernel
theorem dX10_sumUpFrom_43 : decode cX10_sumUpFrom 43 = .ok (.iload_n 1, 1) := by decide +kernel
theorem dX10_sumUpFrom_44 : decode cX10_sumUpFrom 44 = .ok (.iaload, 1) := by decide +kernel
theorem dX10_sumUpFrom_45 : decode cX10_sumUpFrom 45 = .ok (.invokevirtual 256, 3) := by decide +kernel
theorem dX10_sumUpFrom_48 : decode cX10_sumUpFrom 48 = .ok (.return_, 1) := by decide +kernel
theorem dX10_sumUpFrom_49 : decode cX10_sumUpFrom 49 = .ok (.iconst 1, 1) := by decide +kernel
theorem dX10_sumUpFrom_50 : decode cX10_sumUpFrom 50 = .ok (.istore_n 2, 1) := by decide +kernel
theorem dX10_sumUpFrom_51 : decode cX10_sumUpFrom 51 = .ok (.iload_n 1, 1) := by decide +kernel
theorem dX10_sumUpFrom_52 : decode cX10_sumUpFrom 52 = .ok (.istore_n 3, 1) := by decide +kernel
theorem dX10_sumUpFrom_53 : decode cX10_sumUpFrom 53 = .ok (.iload_n 3, 1) := by decide +kernel
theorem dX10_sumUpFrom_54 : decode cX10_sumUpFrom 54 = .ok (.aload_n 0, 1) := by decide +kernel
theorem dX10_sumUpFrom_55 : decode cX10_sumUpFrom 55 = .ok (.getfield 79, 3) := by decide +kernel
theorem dX10_sumUpFrom_58 : decode cX10_sumUpFrom 58 = .ok (.getfield 254, 3) := by decide +kernel
theorem dX10_sumUpFrom_61 : decode cX10_sumUpFrom 61 = .ok (.if_icmp .ge 56, 3) := by decide +kernel
theorem dX10_sumUpFrom_64 : decode cX10_sumUpFrom 64 = .ok (.iload_n 2, 1) := by decide +kernel
theorem dX10_sumUpFrom_65 : decode cX10_sumUpFrom 65 = .ok (.ifCond .eq 52, 3) := by decide +kernel
theorem dX10_sumUpFrom_68 : decode cX10_sumUpFrom 68 = .ok (.aload_n 0, 1) := by decide +kernel
theorem dX10_sumUpFrom_69 : decode cX10_sumUpFrom 69 = .ok (.iload_n 3, 1) := by decide +kernel
theorem dX10_sumUpFrom_70 : decode cX10_sumUpFrom 70 = .ok (.invokevirtual 181, 3) := by decide +kernel
theorem dX10_sumUpFrom_73 : decode cX10_sumUpFrom 73 = .ok (.astore 4, 2) := by decide +kernel
theorem dX10_sumUpFrom_75 : decode cX10_sumUpFrom 75 = .ok (.aload 4, 2) := by decide +kernel
theorem dX10_sumUpFrom_77 : decode cX10_sumUpFrom 77 = .ok (.ifnull 32, 3) := by decide +kernel
theorem dX10_sumUpFrom_80 : decode cX10_sumUpFrom 80 = .ok (.aload 4, 2) := by decide +kernel
theorem dX10_sumUpFrom_82 : decode cX10_sumUpFrom 82 = .ok (.bipush 32, 2) := by decide +kernel
theorem dX10_sumUpFrom_84 : decode cX10_sumUpFrom 84 = .ok (.invokevirtual 144, 3) := by decide +kernel
theorem dX10_sumUpFrom_87 : decode cX10_sumUpFrom 87 = .ok (.ifCond .eq 22, 3) := by decide +kernel
theorem dX10_sumUpFrom_90 : decode cX10_sumUpFrom 90 = .ok (.aload_n 0, 1) := by decide +kernel
theorem dX10_sumUpFrom_91 : decode cX10_sumUpFrom 91 = .ok (.getfield 65, 3) := by decide +kernel
theorem dX10_sumUpFrom_94 : decode cX10_sumUpFrom 94 = .ok (.aload 4, 2) := by decide +kernel
theorem dX10_sumUpFrom_96 : decode cX10_sumUpFrom 96 = .ok (.getfield 147, 3) := by decide +kernel
theorem dX10_sumUpFrom_99 : decode cX10_sumUpFrom 99 = .ok (.invokevirtual 259, 3) := by decide +kernel
theorem dX10_sumUpFrom_102 : decode cX10_sumUpFrom 102 = .ok (.ifCond .eq 7, 3) := by decide +kernel
theorem dX10_sumUpFrom_105 : decode cX10_sumUpFrom 105 = .ok (.iconst 1, 1) := by decide +kernel
theorem dX10_sumUpFrom_106 : decode cX10_sumUpFrom 106 = .ok (.goto 4, 3) := by decide +kernel
theorem dX10_sumUpFrom_109 : decode cX10_sumUpFrom 109 = .ok (.iconst 0, 1) := by decide +kernel
theorem dX10_sumUpFrom_110 : decode cX10_sumUpFrom 110 = .ok (.istore_n 2, 1) := by decide +kernel
theorem dX10_sumUpFrom_111 : decode cX10_sumUpFrom 111 = .ok (.iinc 3 1, 3) := by decide +kernel
theorem dX10_sumUpFrom_114 : decode cX10_sumUpFrom 114 = .ok (.goto (-61), 3) := by decide +kernel
theorem dX10_sumUpFrom_117 : decode cX10_sumUpFrom 117 = .ok (.return_, 1) := by decide +kernel
set_option maxRecDepth 20000 in
theorem ggX10_thingsMeantAt_X10_wordOf : GoodIn wsX10_thingsMeantAt wsX10_wordOf := goodIn_r _ [10, 2, 11, 12, 3, 13, 14, 15, 16, 17, 18, 19, 20, 21, 22, 23, 24, 25, 46, 47, 48, 49, 50, 51, 52, 53, 54, 55, 56, 57, 58, 59, 60, 61, 62, 69, 70, 71, 72, 73] (by decide +kernel) (by decide +kernel)
set_option maxRecDepth 20000 in
theorem gX10_thingsMeantAt_X10_wordOf : GoodIn wsX10_thingsMeantAt (wsV RX10 181 RX10 yX10_wordOf wsX10_wordOf) := goodIn_app (goodIn_of _ (by decide +kernel)) ggX10_thingsMeantAt_X10_wordOf
set_option maxRecDepth 20000 in
theorem ggX10_thingsMeantAt_X6_meantBy : GoodIn wsX10_thingsMeantAt wsX6_meantBy := goodIn_r _ [30, 31, 32, 33, 34, 35, 36, 37, 29, 38, 39, 74, 75, 76, 77, 78, 79] (by decide +kernel) (by decide +kernel)
set_option maxRecDepth 20000 in
theorem gX10_thingsMeantAt_X6_meantBy : GoodIn wsX10_thingsMeantAt (wsV RX10 262 RX6 yX6_meantBy wsX6_meantBy) := goodIn_app (goodIn_of _ (by decide +kernel)) ggX10_thingsMeantAt_X6_meantBy
set_option maxRecDepth 20000 in
theorem ggX10_thingsMeantAt_X9_isOneOf : GoodIn wsX10_thingsMeantAt wsX9_isOneOf := goodIn_r _ [44, 45, 63, 64, 65, 66, 67, 68] (by decide +kernel) (by decide +kernel)
set_option maxRecDepth 20000 in
theorem gX10_thingsMeantAt_X9_isOneOf : GoodIn wsX10_thingsMeantAt (wsV RX10 144 RX9 yX9_isOneOf wsX9_isOneOf) := goodIn_app (goodIn_of _ (by decide +kernel)) ggX10_thingsMeantAt_X9_isOneOf
theorem dX10_thingsMeantAt_0 : decode cX10_thingsMeantAt 0 = .ok (.aload_n 0, 1) := by decide +kernel
theorem dX10_thingsMeantAt_1 : decode cX10_thingsMeantAt 1 = .ok (.iload_n 1, 1) := by decide +kernel
theorem dX10_thingsMeantAt_2 : decode cX10_thingsMeantAt 2 = .ok (.invokevirtual 181, 3) := by decide +kernel
theorem dX10_thingsMeantAt_5 : decode cX10_thingsMeantAt 5 = .ok (.astore_n 2, 1) := by decide +kernel
theorem dX10_thingsMeantAt_6 : decode cX10_thingsMeantAt 6 = .ok (.aload_n 2, 1) := by decide +kernel
theorem dX10_thingsMeantAt_7 : decode cX10_thingsMeantAt 7 = .ok (.ifnonnull 5, 3) := by decide +kernel
theorem dX10_thingsMeantAt_10 : decode cX10_thingsMeantAt 10 = .ok (.iconst 0, 1) := by decide +kernel
theorem dX10_thingsMeantAt_11 : decode cX10_thingsMeantAt 11 = .ok (.ireturn, 1) := by decide +kernel
theorem dX10_thingsMeantAt_12 : decode cX10_thingsMeantAt 12 = .ok (.aload_n 0, 1) := by decide +kernel
theorem dX10_thingsMeantAt_13 : decode cX10_thingsMeantAt 13 = .ok (.getfield 58, 3) := by decide +kernel
theorem dX10_thingsMeantAt_16 : decode cX10_thingsMeantAt 16 = .ok (.aload_n 0, 1) := by decide +kernel
theorem dX10_thingsMeantAt_17 : decode cX10_thingsMeantAt 17 = .ok (.getfield 79, 3) := by decide +kernel
theorem dX10_thingsMeantAt_20 : decode cX10_thingsMeantAt 20 = .ok (.getfield 178, 3) := by decide +kernel
theorem dX10_thingsMeantAt_23 : decode cX10_thingsMeantAt 23 = .ok (.iload_n 1, 1) := by decide +kernel
theorem dX10_thingsMeantAt_24 : decode cX10_thingsMeantAt 24 = .ok (.iaload, 1) := by decide +kernel
theorem dX10_thingsMeantAt_25 : decode cX10_thingsMeantAt 25 = .ok (.invokevirtual 262, 3) := by decide +kernel
theorem dX10_thingsMeantAt_28 : decode cX10_thingsMeantAt 28 = .ok (.istore_n 3, 1) := by decide +kernel
theorem dX10_thingsMeantAt_29 : decode cX10_thingsMeantAt 29 = .ok (.aload_n 2, 1) := by decide +kernel
theorem dX10_thingsMeantAt_30 : decode cX10_thingsMeantAt 30 = .ok (.getfield 150, 3) := by decide +kernel
theorem dX10_thingsMeantAt_33 : decode cX10_thingsMeantAt 33 = .ok (.iconst (-1), 1) := by decide +kernel
theorem dX10_thingsMeantAt_34 : decode cX10_thingsMeantAt 34 = .ok (.if_icmp .eq 17, 3) := by decide +kernel
theorem dX10_thingsMeantAt_37 : decode cX10_thingsMeantAt 37 = .ok (.iload_n 3, 1) := by decide +kernel
theorem dX10_thingsMeantAt_38 : decode cX10_thingsMeantAt 38 = .ok (.aload_n 0, 1) := by decide +kernel
theorem dX10_thingsMeantAt_39 : decode cX10_thingsMeantAt 39 = .ok (.getfield 58, 3) := by decide +kernel
theorem dX10_thingsMeantAt_42 : decode cX10_thingsMeantAt 42 = .ok (.aload_n 2, 1) := by decide +kernel
theorem dX10_thingsMeantAt_43 : decode cX10_thingsMeantAt 43 = .ok (.getfield 150, 3) := by decide +kernel
theorem dX10_thingsMeantAt_46 : decode cX10_thingsMeantAt 46 = .ok (.invokevirtual 262, 3) := by decide +kernel
theorem dX10_thingsMeantAt_49 : decode cX10_thingsMeantAt 49 = .ok (.ior, 1) := by decide +kernel
theorem dX10_thingsMeantAt_50 : decode cX10_thingsMeantAt 50 = .ok (.istore_n 3, 1) := by decide +kernel
theorem dX10_thingsMeantAt_51 : decode cX10_thingsMeantAt 51 = .ok (.aload_n 2, 1) := by decide +kernel
theorem dX10_thingsMeantAt_52 : decode cX10_thingsMeantAt 52 = .ok (.bipush 16, 2) := by decide +kernel
theorem dX10_thingsMeantAt_54 : decode cX10_thingsMeantAt 54 = .ok (.invokevirtual 144, 3) := by decide +kernel
theorem dX10_thingsMeantAt_57 : decode cX10_thingsMeantAt 57 = .ok (.ifCond .eq 10, 3) := by decide +kernel
theorem dX10_thingsMeantAt_60 : decode cX10_thingsMeantAt 60 = .ok (.iload_n 3, 1) := by decide +kernel
theorem dX10_thingsMeantAt_61 : decode cX10_thingsMeantAt 61 = .ok (.aload_n 2, 1) := by decide +kernel
theorem dX10_thingsMeantAt_62 : decode cX10_thingsMeantAt 62 = .ok (.getfield 231, 3) := by decide +kernel
theorem dX10_thingsMeantAt_65 : decode cX10_thingsMeantAt 65 = .ok (.ior, 1) := by decide +kernel
theorem dX10_thingsMeantAt_66 : decode cX10_thingsMeantAt 66 = .ok (.istore_n 3, 1) := by decide +kernel
theorem dX10_thingsMeantAt_67 : decode cX10_thingsMeantAt 67 = .ok (.iload_n 3, 1) := by decide +kernel
theorem dX10_thingsMeantAt_68 : decode cX10_thingsMeantAt 68 = .ok (.ireturn, 1) := by decide +kernel
set_option maxRecDepth 20000 in
theorem ggX10_followPhraseFrom_X0_clear : GoodIn wsX10_followPhraseFrom wsX0_clear := goodIn_r _ [8, 9, 10, 80, 81] (by decide +kernel) (by decide +kernel)
set_option maxRecDepth 20000 in
theorem gX10_followPhraseFrom_X0_clear : GoodIn wsX10_followPhraseFrom (wsV RX10 265 RX0 yX0_clear wsX0_clear) := goodIn_app (goodIn_of _ (by decide +kernel)) ggX10_followPhraseFrom_X0_clear
set_option maxRecDepth 20000 in
theorem ggX10_followPhraseFrom_X10_wordOf : GoodIn wsX10_followPhraseFrom wsX10_wordOf := goodIn_r _ [15, 2, 16, 17, 18, 19, 20, 21, 22, 23, 24, 25, 26, 27, 28, 29, 30, 31, 63, 64, 65, 66, 67, 68, 69, 70, 71, 72, 73, 74, 75, 76, 77, 78, 79, 82, 83, 84, 85, 86] (by decide +kernel) (by decide +kernel)
set_option maxRecDepth 20000 in
theorem gX10_followPhraseFrom_X10_wordOf : GoodIn wsX10_followPhraseFrom (wsV RX10 181 RX10 yX10_wordOf wsX10_wordOf) := goodIn_app (goodIn_of _ (by decide +kernel)) ggX10_followPhraseFrom_X10_wordOf
set_option maxRecDepth 20000 in
theorem ggX10_followPhraseFrom_X9_isOneOf : GoodIn wsX10_followPhraseFrom wsX9_isOneOf := goodIn_r _ [36, 37, 87, 88, 89, 90, 91, 92] (by decide +kernel) (by decide +kernel)
set_option maxRecDepth 20000 in
theorem gX10_followPhraseFrom_X9_isOneOf : GoodIn wsX10_followPhraseFrom (wsV RX10 144 RX9 yX9_isOneOf wsX9_isOneOf) := goodIn_app (goodIn_of _ (by decide +kernel)) ggX10_followPhraseFrom_X9_isOneOf
set_option maxRecDepth 20000 in
theorem ggX10_followPhraseFrom_X10_thingsMeantAt : GoodIn wsX10_followPhraseFrom wsX10_thingsMeantAt := goodIn_r _ [41, 42, 2, 18, 43, 44, 11, 12, 13, 14, 15, 16, 17, 19, 20, 21, 22, 23, 24, 25, 26, 27, 28, 29, 30, 31, 45, 46, 47, 48, 49, 50, 51, 52, 53, 54, 55, 56, 57, 58, 32, 33, 34, 35, 36, 37, 63, 64, 65, 66, 67, 68, 69, 70, 71, 72, 73, 74, 75, 76, 77, 78, 79, 87, 88, 89, 90, 91, 92, 82, 83, 84, 85, 86, 93, 94, 95, 96, 97, 98] (by decide +kernel) (by decide +kernel)
set_option maxRecDepth 20000 in
theorem gX10_followPhraseFrom_X10_thingsMeantAt : GoodIn wsX10_followPhraseFrom (wsV RX10 234 RX10 yX10_thingsMeantAt wsX10_thingsMeantAt) := goodIn_app (goodIn_of _ (by decide +kernel)) ggX10_followPhraseFrom_X10_thingsMeantAt
set_option maxRecDepth 20000 in
theorem ggX10_followPhraseFrom_X0_accept : GoodIn wsX10_followPhraseFrom wsX0_accept := goodIn_r _ [62, 10, 9, 80, 81] (by decide +kernel) (by decide +kernel)
set_option maxRecDepth 20000 in
theorem gX10_followPhraseFrom_X0_accept : GoodIn wsX10_followPhraseFrom (wsV RX10 266 RX0 yX0_accept wsX0_accept) := goodIn_app (goodIn_of _ (by decide +kernel)) ggX10_followPhraseFrom_X0_accept
theorem dX10_followPhraseFrom_0 : decode cX10_followPhraseFrom 0 = .ok (.aload_n 0, 1) := by decide +kernel
theorem dX10_followPhraseFrom_1 : decode cX10_followPhraseFrom 1 = .ok (.getfield 72, 3) := by decide +kernel
theorem dX10_followPhraseFrom_4 : decode cX10_followPhraseFrom 4 = .ok (.invokevirtual 265, 3) := by decide +kernel
theorem dX10_followPhraseFrom_7 : decode cX10_followPhraseFrom 7 = .ok (.iconst 1, 1) := by decide +kernel
theorem dX10_followPhraseFrom_8 : decode cX10_followPhraseFrom 8 = .ok (.istore_n 2, 1) := by decide +kernel
theorem dX10_followPhraseFrom_9 : decode cX10_followPhraseFrom 9 = .ok (.iload_n 1, 1) := by decide +kernel
theorem dX10_followPhraseFrom_10 : decode cX10_followPhraseFrom 10 = .ok (.istore_n 3, 1) := by decide +kernel
theorem dX10_followPhraseFrom_11 : decode cX10_followPhraseFrom 11 = .ok (.iload_n 3, 1) := by decide +kernel
theorem dX10_followPhraseFrom_12 : decode cX10_followPhraseFrom 12 = .ok (.aload_n 0, 1) := by decide +kernel
theorem dX10_followPhraseFrom_13 : decode cX10_followPhraseFrom 13 = .ok (.getfield 79, 3) := by decide +kernel
theorem dX10_followPhraseFrom_16 : decode cX10_followPhraseFrom 16 = .ok (.getfield 254, 3) := by decide +kernel
theorem dX10_followPhraseFrom_19 : decode cX10_followPhraseFrom 19 = .ok (.if_icmp .ge 56, 3) := by decide +kernel
theorem dX10_followPhraseFrom_22 : decode cX10_followPhraseFrom 22 = .ok (.iload_n 2, 1) := by decide +kernel
theorem dX10_followPhraseFrom_23 : decode cX10_followPhraseFrom 23 = .ok (.ifCond .eq 52, 3) := by decide +kernel
theorem dX10_followPhraseFrom_26 : decode cX10_followPhraseFrom 26 = .ok (.aload_n 0, 1) := by decide +kernel
theorem dX10_followPhraseFrom_27 : decode cX10_followPhraseFrom 27 = .ok (.iload_n 3, 1) := by decide +kernel
