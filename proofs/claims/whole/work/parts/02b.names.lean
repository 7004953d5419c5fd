theorem dX0_init_0 : decode cX0_init 0 = .ok (.aload_n 0, 1) := by decide +kernel
theorem dX0_init_1 : decode cX0_init 1 = .ok (.invokespecial 1, 3) := by decide +kernel
theorem dX0_init_4 : decode cX0_init 4 = .ok (.return_, 1) := by decide +kernel
theorem dX0_clear_0 : decode cX0_clear 0 = .ok (.aload_n 0, 1) := by decide +kernel
theorem dX0_clear_1 : decode cX0_clear 1 = .ok (.iconst 0, 1) := by decide +kernel
theorem dX0_clear_2 : decode cX0_clear 2 = .ok (.putfield 7, 3) := by decide +kernel
theorem dX0_clear_5 : decode cX0_clear 5 = .ok (.aload_n 0, 1) := by decide +kernel
theorem dX0_clear_6 : decode cX0_clear 6 = .ok (.iconst 0, 1) := by decide +kernel
theorem dX0_clear_7 : decode cX0_clear 7 = .ok (.putfield 13, 3) := by decide +kernel
theorem dX0_clear_10 : decode cX0_clear 10 = .ok (.return_, 1) := by decide +kernel
theorem dX0_accept_0 : decode cX0_accept 0 = .ok (.aload_n 0, 1) := by decide +kernel
theorem dX0_accept_1 : decode cX0_accept 1 = .ok (.getfield 13, 3) := by decide +kernel
theorem dX0_accept_4 : decode cX0_accept 4 = .ok (.ifCond .ne 7, 3) := by decide +kernel
theorem dX0_accept_7 : decode cX0_accept 7 = .ok (.iload_n 1, 1) := by decide +kernel
theorem dX0_accept_8 : decode cX0_accept 8 = .ok (.goto 9, 3) := by decide +kernel
theorem dX0_accept_11 : decode cX0_accept 11 = .ok (.aload_n 0, 1) := by decide +kernel
theorem dX0_accept_12 : decode cX0_accept 12 = .ok (.getfield 7, 3) := by decide +kernel
theorem dX0_accept_15 : decode cX0_accept 15 = .ok (.iload_n 1, 1) := by decide +kernel
theorem dX0_accept_16 : decode cX0_accept 16 = .ok (.iand, 1) := by decide +kernel
theorem dX0_accept_17 : decode cX0_accept 17 = .ok (.istore_n 2, 1) := by decide +kernel
theorem dX0_accept_18 : decode cX0_accept 18 = .ok (.iload_n 2, 1) := by decide +kernel
theorem dX0_accept_19 : decode cX0_accept 19 = .ok (.ifCond .ne 5, 3) := by decide +kernel
theorem dX0_accept_22 : decode cX0_accept 22 = .ok (.iconst 0, 1) := by decide +kernel
theorem dX0_accept_23 : decode cX0_accept 23 = .ok (.ireturn, 1) := by decide +kernel
theorem dX0_accept_24 : decode cX0_accept 24 = .ok (.aload_n 0, 1) := by decide +kernel
theorem dX0_accept_25 : decode cX0_accept 25 = .ok (.iload_n 2, 1) := by decide +kernel
theorem dX0_accept_26 : decode cX0_accept 26 = .ok (.putfield 7, 3) := by decide +kernel
theorem dX0_accept_29 : decode cX0_accept 29 = .ok (.aload_n 0, 1) := by decide +kernel
theorem dX0_accept_30 : decode cX0_accept 30 = .ok (.dup, 1) := by decide +kernel
theorem dX0_accept_31 : decode cX0_accept 31 = .ok (.getfield 13, 3) := by decide +kernel
theorem dX0_accept_34 : decode cX0_accept 34 = .ok (.iconst 1, 1) := by decide +kernel
theorem dX0_accept_35 : decode cX0_accept 35 = .ok (.iadd, 1) := by decide +kernel
theorem dX0_accept_36 : decode cX0_accept 36 = .ok (.putfield 13, 3) := by decide +kernel
theorem dX0_accept_39 : decode cX0_accept 39 = .ok (.iconst 1, 1) := by decide +kernel
theorem dX0_accept_40 : decode cX0_accept 40 = .ok (.ireturn, 1) := by decide +kernel
theorem dX1_init_0 : decode cX1_init 0 = .ok (.aload_n 0, 1) := by decide +kernel
theorem dX1_init_1 : decode cX1_init 1 = .ok (.invokespecial 3, 3) := by decide +kernel
theorem dX1_init_4 : decode cX1_init 4 = .ok (.aload_n 0, 1) := by decide +kernel
theorem dX1_init_5 : decode cX1_init 5 = .ok (.aload_n 1, 1) := by decide +kernel
theorem dX1_init_6 : decode cX1_init 6 = .ok (.putfield 9, 3) := by decide +kernel
theorem dX1_init_9 : decode cX1_init 9 = .ok (.aload_n 0, 1) := by decide +kernel
theorem dX1_init_10 : decode cX1_init 10 = .ok (.aload_n 2, 1) := by decide +kernel
theorem dX1_init_11 : decode cX1_init 11 = .ok (.putfield 15, 3) := by decide +kernel
theorem dX1_init_14 : decode cX1_init 14 = .ok (.aload_n 0, 1) := by decide +kernel
theorem dX1_init_15 : decode cX1_init 15 = .ok (.aload_n 3, 1) := by decide +kernel
theorem dX1_init_16 : decode cX1_init 16 = .ok (.putfield 19, 3) := by decide +kernel
theorem dX1_init_19 : decode cX1_init 19 = .ok (.return_, 1) := by decide +kernel
set_option maxRecDepth 20000 in
theorem ggX1_cutLine_X7_startOn : GoodIn wsX1_cutLine wsX7_startOn := goodIn_r _ [10, 11, 12, 13, 14, 15, 16, 17, 18, 19, 20, 21, 22, 23, 24, 25, 26, 27, 28, 29, 30, 31, 32, 156, 157, 158, 159, 160, 161, 162, 154, 155] (by decide +kernel) (by decide +kernel)
set_option maxRecDepth 20000 in
theorem gX1_cutLine_X7_startOn : GoodIn wsX1_cutLine (wsV RX1 31 RX7 yX7_startOn wsX7_startOn) := goodIn_app (goodIn_of _ (by decide +kernel)) ggX1_cutLine_X7_startOn
set_option maxRecDepth 20000 in
theorem ggX1_cutLine_X1_cutAt : GoodIn wsX1_cutLine wsX1_cutAt := goodIn_r _ [37, 3, 38, 25, 26, 17, 27, 19, 28, 39, 40, 41, 42, 43, 44, 45, 46, 47, 48, 49, 50, 51, 36, 52, 4, 53, 1, 54, 55, 56, 57, 58, 59, 60, 61, 62, 63, 64, 65, 66, 67, 68, 69, 70, 71, 72, 73, 74, 75, 76, 77, 78, 79, 80, 81, 82, 83, 84, 85, 86, 87, 88, 89, 2, 90, 91, 92, 9, 93, 12, 13, 94, 95, 96, 97, 98, 99, 100, 101, 102, 103, 104, 105, 106, 107, 108, 109, 110, 111, 112, 113, 114, 115, 116, 117, 118, 119, 120, 121, 122, 123, 124, 125, 126, 127, 128, 129, 130, 131, 132, 133, 134, 135, 136, 137, 138, 139, 140, 141, 142, 143, 144, 145, 146, 147, 148, 149, 150, 151, 152, 153, 154, 155, 163, 164, 165, 166, 167, 168, 169, 170, 171, 172, 173, 174, 175, 176, 177, 178, 156, 157, 158, 159, 160, 161, 162] (by decide +kernel) (by decide +kernel)
set_option maxRecDepth 20000 in
theorem gX1_cutLine_X1_cutAt : GoodIn wsX1_cutLine (wsV RX1 42 RX1 yX1_cutAt wsX1_cutAt) := goodIn_app (goodIn_of _ (by decide +kernel)) ggX1_cutLine_X1_cutAt
theorem dX1_cutLine_0 : decode cX1_cutLine 0 = .ok (.aload_n 0, 1) := by decide +kernel
theorem dX1_cutLine_1 : decode cX1_cutLine 1 = .ok (.iload_n 1, 1) := by decide +kernel
theorem dX1_cutLine_2 : decode cX1_cutLine 2 = .ok (.putfield 23, 3) := by decide +kernel
theorem dX1_cutLine_5 : decode cX1_cutLine 5 = .ok (.aload_n 0, 1) := by decide +kernel
theorem dX1_cutLine_6 : decode cX1_cutLine 6 = .ok (.aload_n 2, 1) := by decide +kernel
theorem dX1_cutLine_7 : decode cX1_cutLine 7 = .ok (.putfield 27, 3) := by decide +kernel
theorem dX1_cutLine_10 : decode cX1_cutLine 10 = .ok (.aload_n 2, 1) := by decide +kernel
theorem dX1_cutLine_11 : decode cX1_cutLine 11 = .ok (.aload_n 0, 1) := by decide +kernel
theorem dX1_cutLine_12 : decode cX1_cutLine 12 = .ok (.getfield 19, 3) := by decide +kernel
theorem dX1_cutLine_15 : decode cX1_cutLine 15 = .ok (.invokevirtual 31, 3) := by decide +kernel
theorem dX1_cutLine_18 : decode cX1_cutLine 18 = .ok (.iconst 0, 1) := by decide +kernel
theorem dX1_cutLine_19 : decode cX1_cutLine 19 = .ok (.istore_n 3, 1) := by decide +kernel
theorem dX1_cutLine_20 : decode cX1_cutLine 20 = .ok (.iconst 0, 1) := by decide +kernel
theorem dX1_cutLine_21 : decode cX1_cutLine 21 = .ok (.istore 4, 2) := by decide +kernel
theorem dX1_cutLine_23 : decode cX1_cutLine 23 = .ok (.iload 4, 2) := by decide +kernel
theorem dX1_cutLine_25 : decode cX1_cutLine 25 = .ok (.bipush 80, 2) := by decide +kernel
theorem dX1_cutLine_27 : decode cX1_cutLine 27 = .ok (.if_icmp .ge 26, 3) := by decide +kernel
theorem dX1_cutLine_30 : decode cX1_cutLine 30 = .ok (.iload_n 3, 1) := by decide +kernel
theorem dX1_cutLine_31 : decode cX1_cutLine 31 = .ok (.aload_n 0, 1) := by decide +kernel
theorem dX1_cutLine_32 : decode cX1_cutLine 32 = .ok (.getfield 19, 3) := by decide +kernel
theorem dX1_cutLine_35 : decode cX1_cutLine 35 = .ok (.getfield 37, 3) := by decide +kernel
theorem dX1_cutLine_38 : decode cX1_cutLine 38 = .ok (.if_icmp .ge 15, 3) := by decide +kernel
theorem dX1_cutLine_41 : decode cX1_cutLine 41 = .ok (.aload_n 0, 1) := by decide +kernel
theorem dX1_cutLine_42 : decode cX1_cutLine 42 = .ok (.iload_n 3, 1) := by decide +kernel
theorem dX1_cutLine_43 : decode cX1_cutLine 43 = .ok (.invokevirtual 42, 3) := by decide +kernel
theorem dX1_cutLine_46 : decode cX1_cutLine 46 = .ok (.istore_n 3, 1) := by decide +kernel
theorem dX1_cutLine_47 : decode cX1_cutLine 47 = .ok (.iinc 4 1, 3) := by decide +kernel
theorem dX1_cutLine_50 : decode cX1_cutLine 50 = .ok (.goto (-27), 3) := by decide +kernel
theorem dX1_cutLine_53 : decode cX1_cutLine 53 = .ok (.aload_n 2, 1) := by decide +kernel
theorem dX1_cutLine_54 : decode cX1_cutLine 54 = .ok (.getfield 46, 3) := by decide +kernel
theorem dX1_cutLine_57 : decode cX1_cutLine 57 = .ok (.ifCond .ne 7, 3) := by decide +kernel
theorem dX1_cutLine_60 : decode cX1_cutLine 60 = .ok (.iconst 1, 1) := by decide +kernel
theorem dX1_cutLine_61 : decode cX1_cutLine 61 = .ok (.goto 4, 3) := by decide +kernel
theorem dX1_cutLine_64 : decode cX1_cutLine 64 = .ok (.iconst 0, 1) := by decide +kernel
theorem dX1_cutLine_65 : decode cX1_cutLine 65 = .ok (.ireturn, 1) := by decide +kernel
set_option maxRecDepth 20000 in
theorem ggX1_cutAt_X4_byteAt : GoodIn wsX1_cutAt wsX4_byteAt := goodIn_r _ [6, 7, 8, 131, 132] (by decide +kernel) (by decide +kernel)
set_option maxRecDepth 20000 in
theorem gX1_cutAt_X4_byteAt : GoodIn wsX1_cutAt (wsV RX1 50 RX4 yX4_byteAt wsX4_byteAt) := goodIn_app (goodIn_of _ (by decide +kernel)) ggX1_cutAt_X4_byteAt
set_option maxRecDepth 20000 in
theorem ggX1_cutAt_X3_isLetter : GoodIn wsX1_cutAt wsX3_isLetter := goodIn_r _ [12, 13, 14, 11, 15, 16, 17, 18] (by decide +kernel) (by decide +kernel)
set_option maxRecDepth 20000 in
theorem gX1_cutAt_X3_isLetter : GoodIn wsX1_cutAt (va_wsS RX1 53 yX3_isLetter wsX3_isLetter) := goodIn_app (goodIn_of _ (by decide +kernel)) ggX1_cutAt_X3_isLetter
set_option maxRecDepth 20000 in
theorem ggX1_cutAt_X1_cutLetters : GoodIn wsX1_cutAt wsX1_cutLetters := goodIn_r _ [23, 1, 24, 25, 26, 27, 28, 2, 3, 4, 5, 6, 7, 8, 9, 10, 11, 12, 13, 14, 15, 16, 17, 18, 29, 30, 31, 32, 33, 34, 35, 36, 37, 38, 39, 40, 41, 42, 43, 44, 45, 46, 47, 48, 49, 50, 51, 52, 53, 54, 55, 56, 57, 58, 59, 60, 61, 22, 62, 63, 64, 65, 66, 67, 68, 69, 70, 71, 72, 73, 74, 75, 76, 77, 78, 79, 80, 81, 126, 127, 128, 129, 130, 131, 132, 133, 134, 135, 136, 137, 138, 139, 140, 141, 142, 143, 144, 145, 146, 147, 148, 149, 150, 151, 152, 153, 154, 155] (by decide +kernel) (by decide +kernel)
set_option maxRecDepth 20000 in
theorem gX1_cutAt_X1_cutLetters : GoodIn wsX1_cutAt (wsV RX1 59 RX1 yX1_cutLetters wsX1_cutLetters) := goodIn_app (goodIn_of _ (by decide +kernel)) ggX1_cutAt_X1_cutLetters
set_option maxRecDepth 20000 in
theorem ggX1_cutAt_X1_isDigit : GoodIn wsX1_cutAt wsX1_isDigit := goodIn_r _ [84] (by decide +kernel) (by decide +kernel)
set_option maxRecDepth 20000 in
theorem gX1_cutAt_X1_isDigit : GoodIn wsX1_cutAt (va_wsS RX1 62 yX1_isDigit wsX1_isDigit) := goodIn_app (goodIn_of _ (by decide +kernel)) ggX1_cutAt_X1_isDigit
set_option maxRecDepth 20000 in
theorem ggX1_cutAt_X1_cutDigits : GoodIn wsX1_cutAt wsX1_cutDigits := goodIn_r _ [88, 89, 90, 91, 22, 92, 1, 24, 2, 3, 4, 5, 6, 7, 8, 82, 83, 84, 93, 94, 95, 96, 97, 98, 99, 100, 101, 50, 51, 52, 102, 103, 104, 105, 106, 107, 108, 109, 110, 111, 55, 56, 11, 57, 58, 9, 10, 12, 13, 14, 15, 16, 17, 18, 59, 60, 61, 62, 63, 64, 65, 66, 67, 68, 69, 70, 71, 72, 73, 74, 126, 127, 128, 129, 130, 131, 132, 147, 148, 149, 150, 151, 152, 153, 154, 155] (by decide +kernel) (by decide +kernel)
set_option maxRecDepth 20000 in
theorem gX1_cutAt_X1_cutDigits : GoodIn wsX1_cutAt (wsV RX1 65 RX1 yX1_cutDigits wsX1_cutDigits) := goodIn_app (goodIn_of _ (by decide +kernel)) ggX1_cutAt_X1_cutDigits
set_option maxRecDepth 20000 in
theorem ggX1_cutAt_X1_cutQuoted : GoodIn wsX1_cutAt wsX1_cutQuoted := goodIn_r _ [115, 1, 24, 2, 3, 4, 5, 6, 7, 8, 59, 60, 61, 22, 62, 63, 64, 65, 66, 67, 68, 69, 70, 71, 72, 73, 74, 126, 127, 128, 129, 130, 131, 132, 149, 150, 151, 152, 153, 154, 155] (by decide +kernel) (by decide +kernel)
set_option maxRecDepth 20000 in
theorem gX1_cutAt_X1_cutQuoted : GoodIn wsX1_cutAt (wsV RX1 68 RX1 yX1_cutQuoted wsX1_cutQuoted) := goodIn_app (goodIn_of _ (by decide +kernel)) ggX1_cutAt_X1_cutQuoted
set_option maxRecDepth 20000 in
theorem ggX1_cutAt_X1_isMark : GoodIn wsX1_cutAt wsX1_isMark := goodIn_r _ [118] (by decide +kernel) (by decide +kernel)
set_option maxRecDepth 20000 in
theorem gX1_cutAt_X1_isMark : GoodIn wsX1_cutAt (va_wsS RX1 71 yX1_isMark wsX1_isMark) := goodIn_app (goodIn_of _ (by decide +kernel)) ggX1_cutAt_X1_isMark
set_option maxRecDepth 20000 in
theorem ggX1_cutAt_X1_addUpTo : GoodIn wsX1_cutAt wsX1_addUpTo := goodIn_r _ [62, 63, 64, 65, 66, 67, 68, 69, 70, 71, 72, 73, 74, 126, 127, 128, 129, 130, 149, 150, 151, 152, 153, 154, 155] (by decide +kernel) (by decide +kernel)
set_option maxRecDepth 20000 in
theorem gX1_cutAt_X1_addUpTo : GoodIn wsX1_cutAt (wsV RX1 74 RX1 yX1_addUpTo wsX1_addUpTo) := goodIn_app (goodIn_of _ (by decide +kernel)) ggX1_cutAt_X1_addUpTo
set_option maxRecDepth 20000 in
theorem ggX1_cutAt_X1_cutOther : GoodIn wsX1_cutAt wsX1_cutOther := goodIn_r _ [122, 1, 24, 2, 3, 4, 5, 6, 7, 8, 123, 124, 22, 125, 116, 117, 118, 82, 83, 84, 9, 10, 11, 12, 13, 14, 15, 16, 17, 18, 59, 60, 61, 62, 63, 64, 65, 66, 67, 68, 69, 70, 71, 72, 73, 74, 126, 127, 128, 129, 130, 131, 132, 149, 150, 151, 152, 153, 154, 155] (by decide +kernel) (by decide +kernel)
set_option maxRecDepth 20000 in
theorem gX1_cutAt_X1_cutOther : GoodIn wsX1_cutAt (wsV RX1 78 RX1 yX1_cutOther wsX1_cutOther) := goodIn_app (goodIn_of _ (by decide +kernel)) ggX1_cutAt_X1_cutOther
theorem dX1_cutAt_0 : decode cX1_cutAt 0 = .ok (.aload_n 0, 1) := by decide +kernel
theorem dX1_cutAt_1 : decode cX1_cutAt 1 = .ok (.getfield 19, 3) := by decide +kernel
theorem dX1_cutAt_4 : decode cX1_cutAt 4 = .ok (.iload_n 1, 1) := by decide +kernel
theorem dX1_cutAt_5 : decode cX1_cutAt 5 = .ok (.invokevirtual 50, 3) := by decide +kernel
theorem dX1_cutAt_8 : decode cX1_cutAt 8 = .ok (.istore_n 2, 1) := by decide +kernel
theorem dX1_cutAt_9 : decode cX1_cutAt 9 = .ok (.iload_n 2, 1) := by decide +kernel
theorem dX1_cutAt_10 : decode cX1_cutAt 10 = .ok (.bipush 32, 2) := by decide +kernel
theorem dX1_cutAt_12 : decode cX1_cutAt 12 = .ok (.if_icmp .ne 7, 3) := by decide +kernel
theorem dX1_cutAt_15 : decode cX1_cutAt 15 = .ok (.iload_n 1, 1) := by decide +kernel
theorem dX1_cutAt_16 : decode cX1_cutAt 16 = .ok (.iconst 1, 1) := by decide +kernel
theorem dX1_cutAt_17 : decode cX1_cutAt 17 = .ok (.iadd, 1) := by decide +kernel
theorem dX1_cutAt_18 : decode cX1_cutAt 18 = .ok (.ireturn, 1) := by decide +kernel
theorem dX1_cutAt_19 : decode cX1_cutAt 19 = .ok (.iload_n 2, 1) := by decide +kernel
theorem dX1_cutAt_20 : decode cX1_cutAt 20 = .ok (.invokestatic 53, 3) := by decide +kernel
theorem dX1_cutAt_23 : decode cX1_cutAt 23 = .ok (.ifCond .eq 9, 3) := by decide +kernel
theorem dX1_cutAt_26 : decode cX1_cutAt 26 = .ok (.aload_n 0, 1) := by decide +kernel
theorem dX1_cutAt_27 : decode cX1_cutAt 27 = .ok (.iload_n 1, 1) := by decide +kernel
theorem dX1_cutAt_28 : decode cX1_cutAt 28 = .ok (.invokevirtual 59, 3) := by decide +kernel
theorem dX1_cutAt_31 : decode cX1_cutAt 31 = .ok (.ireturn, 1) := by decide +kernel
theorem dX1_cutAt_32 : decode cX1_cutAt 32 = .ok (.iload_n 2, 1) := by decide +kernel
theorem dX1_cutAt_33 : decode cX1_cutAt 33 = .ok (.invokestatic 62, 3) := by decide +kernel
theorem dX1_cutAt_36 : decode cX1_cutAt 36 = .ok (.ifCond .eq 9, 3) := by decide +kernel
theorem dX1_cutAt_39 : decode cX1_cutAt 39 = .ok (.aload_n 0, 1) := by decide +kernel
theorem dX1_cutAt_40 : decode cX1_cutAt 40 = .ok (.iload_n 1, 1) := by decide +kernel
theorem dX1_cutAt_41 : decode cX1_cutAt 41 = .ok (.invokevirtual 65, 3) := by decide +kernel
theorem dX1_cutAt_44 : decode cX1_cutAt 44 = .ok (.ireturn, 1) := by decide +kernel
theorem dX1_cutAt_45 : decode cX1_cutAt 45 = .ok (.iload_n 2, 1) := by decide +kernel
theorem dX1_cutAt_46 : decode cX1_cutAt 46 = .ok (.bipush 34, 2) := by decide +kernel
theorem dX1_cutAt_48 : decode cX1_cutAt 48 = .ok (.if_icmp .ne 9, 3) := by decide +kernel
theorem dX1_cutAt_51 : decode cX1_cutAt 51 = .ok (.aload_n 0, 1) := by decide +kernel
theorem dX1_cutAt_52 : decode cX1_cutAt 52 = .ok (.iload_n 1, 1) := by decide +kernel
theorem dX1_cutAt_53 : decode cX1_cutAt 53 = .ok (.invokevirtual 68, 3) := by decide +kernel
theorem dX1_cutAt_56 : decode cX1_cutAt 56 = .ok (.ireturn, 1) := by decide +kernel
theorem dX1_cutAt_57 : decode cX1_cutAt 57 = .ok (.iload_n 2, 1) := by decide +kernel
theorem dX1_cutAt_58 : decode cX1_cutAt 58 = .ok (.invokestatic 71, 3) := by decide +kernel
theorem dX1_cutAt_61 : decode cX1_cutAt 61 = .ok (.ifCond .eq 16, 3) := by decide +kernel
theorem dX1_cutAt_64 : decode cX1_cutAt 64 = .ok (.aload_n 0, 1) := by decide +kernel
theorem dX1_cutAt_65 : decode cX1_cutAt 65 = .ok (.iload_n 1, 1) := by decide +kernel
theorem dX1_cutAt_66 : decode cX1_cutAt 66 = .ok (.iconst 1, 1) := by decide +kernel
theorem dX1_cutAt_67 : decode cX1_cutAt 67 = .ok (.iadd, 1) := by decide +kernel
theorem dX1_cutAt_68 : decode cX1_cutAt 68 = .ok (.iconst 5, 1) := by decide +kernel
theorem dX1_cutAt_69 : decode cX1_cutAt 69 = .ok (.iload_n 1, 1) := by decide +kernel
theorem dX1_cutAt_70 : decode cX1_cutAt 70 = .ok (.iload_n 2, 1) := by decide +kernel
theorem dX1_cutAt_71 : decode cX1_cutAt 71 = .ok (.invokevirtual 74, 3) := by decide +kernel
theorem dX1_cutAt_74 : decode cX1_cutAt 74 = .ok (.goto 8, 3) := by decide +kernel
theorem dX1_cutAt_77 : decode cX1_cutAt 77 = .ok (.aload_n 0, 1) := by decide +kernel
theorem dX1_cutAt_78 : decode cX1_cutAt 78 = .ok (.iload_n 1, 1) := by decide +kernel
theorem dX1_cutAt_79 : decode cX1_cutAt 79 = .ok (.invokevirtual 78, 3) := by decide +kernel
theorem dX1_cutAt_82 : decode cX1_cutAt 82 = .ok (.ireturn, 1) := by decide +kernel
set_option maxRecDepth 20000 in
theorem ggX1_addUpTo_X7_add : GoodIn wsX1_addUpTo wsX7_add := goodIn_r _ [6, 7, 8, 9, 10, 11, 12, 18, 19, 20, 21, 22, 23, 24] (by decide +kernel) (by decide +kernel)
set_option maxRecDepth 20000 in
theorem gX1_addUpTo_X7_add : GoodIn wsX1_addUpTo (wsV RX1 81 RX7 yX7_add wsX7_add) := goodIn_app (goodIn_of _ (by decide +kernel)) ggX1_addUpTo_X7_add
theorem dX1_addUpTo_0 : decode cX1_addUpTo 0 = .ok (.aload_n 0, 1) := by decide +kernel
theorem dX1_addUpTo_1 : decode cX1_addUpTo 1 = .ok (.getfield 27, 3) := by decide +kernel
theorem dX1_addUpTo_4 : decode cX1_addUpTo 4 = .ok (.ifnull 17, 3) := by decide +kernel
theorem dX1_addUpTo_7 : decode cX1_addUpTo 7 = .ok (.aload_n 0, 1) := by decide +kernel
theorem dX1_addUpTo_8 : decode cX1_addUpTo 8 = .ok (.getfield 27, 3) := by decide +kernel
theorem dX1_addUpTo_11 : decode cX1_addUpTo 11 = .ok (.iload_n 2, 1) := by decide +kernel
theorem dX1_addUpTo_12 : decode cX1_addUpTo 12 = .ok (.iload_n 3, 1) := by decide +kernel
theorem dX1_addUpTo_13 : decode cX1_addUpTo 13 = .ok (.iload_n 1, 1) := by decide +kernel
theorem dX1_addUpTo_14 : decode cX1_addUpTo 14 = .ok (.iload_n 3, 1) := by decide +kernel
theorem dX1_addUpTo_15 : decode cX1_addUpTo 15 = .ok (.isub, 1) := by decide +kernel
theorem dX1_addUpTo_16 : decode cX1_addUpTo 16 = .ok (.iload 4, 2) := by decide +kernel
theorem dX1_addUpTo_18 : decode cX1_addUpTo 18 = .ok (.invokevirtual 81, 3) := by decide +kernel
theorem dX1_addUpTo_21 : decode cX1_addUpTo 21 = .ok (.iload_n 1, 1) := by decide +kernel
theorem dX1_addUpTo_22 : decode cX1_addUpTo 22 = .ok (.ireturn, 1) := by decide +kernel
set_option maxRecDepth 20000 in
theorem ggX1_cutLetters_X4_byteAt : GoodIn wsX1_cutLetters wsX4_byteAt := goodIn_r _ [11, 12, 13, 83, 84] (by decide +kernel) (by decide +kernel)
set_option maxRecDepth 20000 in
theorem gX1_cutLetters_X4_byteAt : GoodIn wsX1_cutLetters (wsV RX1 50 RX4 yX4_byteAt wsX4_byteAt) := goodIn_app (goodIn_of _ (by decide +kernel)) ggX1_cutLetters_X4_byteAt
set_option maxRecDepth 20000 in
theorem ggX1_cutLetters_X3_isLetter : GoodIn wsX1_cutLetters wsX3_isLetter := goodIn_r _ [17, 18, 19, 16, 20, 21, 22, 23] (by decide +kernel) (by decide +kernel)
set_option maxRecDepth 20000 in
theorem gX1_cutLetters_X3_isLetter : GoodIn wsX1_cutLetters (va_wsS RX1 53 yX3_isLetter wsX3_isLetter) := goodIn_app (goodIn_of _ (by decide +kernel)) ggX1_cutLetters_X3_isLetter
set_option maxRecDepth 20000 in
theorem ggX1_cutLetters_X8_likeIn : GoodIn wsX1_cutLetters wsX8_likeIn := goodIn_r _ [28, 29, 30, 31, 32, 33, 34, 35, 27, 36, 37, 38, 39, 40, 16, 41, 42, 43, 44, 45, 46, 47, 48, 8, 9, 10, 11, 12, 13, 49, 50, 51, 52, 53, 88, 89, 90, 91, 92, 93, 94, 95, 96, 97, 98, 83, 84, 99, 100] (by decide +kernel) (by decide +kernel)
set_option maxRecDepth 20000 in
theorem gX1_cutLetters_X8_likeIn : GoodIn wsX1_cutLetters (wsV RX1 85 RX8 yX8_likeIn wsX8_likeIn) := goodIn_app (goodIn_of _ (by decide +kernel)) ggX1_cutLetters_X8_likeIn
set_option maxRecDepth 20000 in
theorem ggX1_cutLetters_X1_addUpTo : GoodIn wsX1_cutLetters wsX1_addUpTo := goodIn_r _ [58, 59, 60, 61, 62, 63, 64, 65, 66, 67, 68, 69, 70, 78, 79, 80, 81, 82, 101, 102, 103, 104, 105, 106, 107] (by decide +kernel) (by decide +kernel)
set_option maxRecDepth 20000 in
theorem gX1_cutLetters_X1_addUpTo : GoodIn wsX1_cutLetters (wsV RX1 74 RX1 yX1_addUpTo wsX1_addUpTo) := goodIn_app (goodIn_of _ (by decide +kernel)) ggX1_cutLetters_X1_addUpTo
set_option maxRecDepth 20000 in
theorem ggX1_cutLetters_X8_joinLike : GoodIn wsX1_cutLetters wsX8_joinLike := goodIn_r _ [74, 75, 76, 31, 77, 38, 39, 40, 16, 41, 42, 43, 44, 45, 46, 47, 48, 8, 9, 10, 11, 12, 13, 49, 50, 51, 52, 53, 88, 89, 90, 91, 92, 85, 86, 87, 83, 84, 99, 100] (by decide +kernel) (by decide +kernel)
set_option maxRecDepth 20000 in
theorem gX1_cutLetters_X8_joinLike : GoodIn wsX1_cutLetters (wsV RX1 91 RX8 yX8_joinLike wsX8_joinLike) := goodIn_app (goodIn_of _ (by decide +kernel)) ggX1_cutLetters_X8_joinLike
theorem dX1_cutLetters_0 : decode cX1_cutLetters 0 = .ok (.iload_n 1, 1) := by decide +kernel
theorem dX1_cutLetters_1 : decode cX1_cutLetters 1 = .ok (.istore_n 2, 1) := by decide +kernel
theorem dX1_cutLetters_2 : decode cX1_cutLetters 2 = .ok (.iload_n 2, 1) := by decide +kernel
theorem dX1_cutLetters_3 : decode cX1_cutLetters 3 = .ok (.aload_n 0, 1) := by decide +kernel
theorem dX1_cutLetters_4 : decode cX1_cutLetters 4 = .ok (.getfield 19, 3) := by decide +kernel
theorem dX1_cutLetters_7 : decode cX1_cutLetters 7 = .ok (.getfield 37, 3) := by decide +kernel
theorem dX1_cutLetters_10 : decode cX1_cutLetters 10 = .ok (.if_icmp .ge 23, 3) := by decide +kernel
theorem dX1_cutLetters_13 : decode cX1_cutLetters 13 = .ok (.aload_n 0, 1) := by decide +kernel
theorem dX1_cutLetters_14 : decode cX1_cutLetters 14 = .ok (.getfield 19, 3) := by decide +kernel
theorem dX1_cutLetters_17 : decode cX1_cutLetters 17 = .ok (.iload_n 2, 1) := by decide +kernel
theorem dX1_cutLetters_18 : decode cX1_cutLetters 18 = .ok (.invokevirtual 50, 3) := by decide +kernel
theorem dX1_cutLetters_21 : decode cX1_cutLetters 21 = .ok (.invokestatic 53, 3) := by decide +kernel
theorem dX1_cutLetters_24 : decode cX1_cutLetters 24 = .ok (.ifCond .eq 9, 3) := by decide +kernel
theorem dX1_cutLetters_27 : decode cX1_cutLetters 27 = .ok (.iinc 2 1, 3) := by decide +kernel
theorem dX1_cutLetters_30 : decode cX1_cutLetters 30 = .ok (.goto (-28), 3) := by decide +kernel
theorem dX1_cutLetters_33 : decode cX1_cutLetters 33 = .ok (.aload_n 0, 1) := by decide +kernel
theorem dX1_cutLetters_34 : decode cX1_cutLetters 34 = .ok (.getfield 15, 3) := by decide +kernel
theorem dX1_cutLetters_37 : decode cX1_cutLetters 37 = .ok (.aload_n 0, 1) := by decide +kernel
theorem dX1_cutLetters_38 : decode cX1_cutLetters 38 = .ok (.getfield 23, 3) := by decide +kernel
theorem dX1_cutLetters_41 : decode cX1_cutLetters 41 = .ok (.aload_n 0, 1) := by decide +kernel
theorem dX1_cutLetters_42 : decode cX1_cutLetters 42 = .ok (.getfield 19, 3) := by decide +kernel
theorem dX1_cutLetters_45 : decode cX1_cutLetters 45 = .ok (.iload_n 1, 1) := by decide +kernel
theorem dX1_cutLetters_46 : decode cX1_cutLetters 46 = .ok (.iload_n 2, 1) := by decide +kernel
theorem dX1_cutLetters_47 : decode cX1_cutLetters 47 = .ok (.iload_n 1, 1) := by decide +kernel
theorem dX1_cutLetters_48 : decode cX1_cutLetters 48 = .ok (.isub, 1) := by decide +kernel
theorem dX1_cutLetters_49 : decode cX1_cutLetters 49 = .ok (.invokevirtual 85, 3) := by decide +kernel
theorem dX1_cutLetters_52 : decode cX1_cutLetters 52 = .ok (.istore_n 3, 1) := by decide +kernel
theorem dX1_cutLetters_53 : decode cX1_cutLetters 53 = .ok (.iload_n 3, 1) := by decide +kernel
theorem dX1_cutLetters_54 : decode cX1_cutLetters 54 = .ok (.iconst (-1), 1) := by decide +kernel
theorem dX1_cutLetters_55 : decode cX1_cutLetters 55 = .ok (.if_icmp .ne 20, 3) := by decide +kernel
theorem dX1_cutLetters_58 : decode cX1_cutLetters 58 = .ok (.aload_n 0, 1) := by decide +kernel
theorem dX1_cutLetters_59 : decode cX1_cutLetters 59 = .ok (.getfield 15, 3) := by decide +kernel
theorem dX1_cutLetters_62 : decode cX1_cutLetters 62 = .ok (.iconst 0, 1) := by decide +kernel
theorem dX1_cutLetters_63 : decode cX1_cutLetters 63 = .ok (.aload_n 0, 1) := by decide +kernel
theorem dX1_cutLetters_64 : decode cX1_cutLetters 64 = .ok (.getfield 19, 3) := by decide +kernel
theorem dX1_cutLetters_67 : decode cX1_cutLetters 67 = .ok (.iload_n 1, 1) := by decide +kernel
theorem dX1_cutLetters_68 : decode cX1_cutLetters 68 = .ok (.iload_n 2, 1) := by decide +kernel
theorem dX1_cutLetters_69 : decode cX1_cutLetters 69 = .ok (.iload_n 1, 1) := by decide +kernel
theorem dX1_cutLetters_70 : decode cX1_cutLetters 70 = .ok (.isub, 1) := by decide +kernel
theorem dX1_cutLetters_71 : decode cX1_cutLetters 71 = .ok (.invokevirtual 85, 3) := by decide +kernel
theorem dX1_cutLetters_74 : decode cX1_cutLetters 74 = .ok (.istore_n 3, 1) := by decide +kernel
theorem dX1_cutLetters_75 : decode cX1_cutLetters 75 = .ok (.iload_n 3, 1) := by decide +kernel
theorem dX1_cutLetters_76 : decode cX1_cutLetters 76 = .ok (.iconst (-1), 1) := by decide +kernel
theorem dX1_cutLetters_77 : decode cX1_cutLetters 77 = .ok (.if_icmp .eq 12, 3) := by decide +kernel
theorem dX1_cutLetters_80 : decode cX1_cutLetters 80 = .ok (.aload_n 0, 1) := by decide +kernel
theorem dX1_cutLetters_81 : decode cX1_cutLetters 81 = .ok (.iload_n 2, 1) := by decide +kernel
theorem dX1_cutLetters_82 : decode cX1_cutLetters 82 = .ok (.iconst 0, 1) := by decide +kernel
theorem dX1_cutLetters_83 : decode cX1_cutLetters 83 = .ok (.iload_n 1, 1) := by decide +kernel
theorem dX1_cutLetters_84 : decode cX1_cutLetters 84 = .ok (.iload_n 3, 1) := by decide +kernel
theorem dX1_cutLetters_85 : decode cX1_cutLetters 85 = .ok (.invokevirtual 74, 3) := by decide +kernel
theorem dX1_cutLetters_88 : decode cX1_cutLetters 88 = .ok (.ireturn, 1) := by decide +kernel
theorem dX1_cutLetters_89 : decode cX1_cutLetters 89 = .ok (.aload_n 0, 1) := by decide +kernel
theorem dX1_cutLetters_90 : decode cX1_cutLetters 90 = .ok (.getfield 15, 3) := by decide +kernel
theorem dX1_cutLetters_93 : decode cX1_cutLetters 93 = .ok (.aload_n 0, 1) := by decide +kernel
theorem dX1_cutLetters_94 : decode cX1_cutLetters 94 = .ok (.getfield 19, 3) := by decide +kernel
theorem dX1_cutLetters_97 : decode cX1_cutLetters 97 = .ok (.iload_n 1, 1) := by decide +kernel
theorem dX1_cutLetters_98 : decode cX1_cutLetters 98 = .ok (.iload_n 2, 1) := by decide +kernel
theorem dX1_cutLetters_99 : decode cX1_cutLetters 99 = .ok (.iload_n 1, 1) := by decide +kernel
theorem dX1_cutLetters_100 : decode cX1_cutLetters 100 = .ok (.isub, 1) := by decide +kernel
theorem dX1_cutLetters_101 : decode cX1_cutLetters 101 = .ok (.invokevirtual 91, 3) := by decide +kernel
theorem dX1_cutLetters_104 : decode cX1_cutLetters 104 = .ok (.astore 4, 2) := by decide +kernel
theorem dX1_cutLetters_106 : decode cX1_cutLetters 106 = .ok (.aload 4, 2) := by decide +kernel
theorem dX1_cutLetters_108 : decode cX1_cutLetters 108 = .ok (.ifnonnull 12, 3) := by decide +kernel
theorem dX1_cutLetters_111 : decode cX1_cutLetters 111 = .ok (.aload_n 0, 1) := by decide +kernel
theorem dX1_cutLetters_112 : decode cX1_cutLetters 112 = .ok (.iload_n 2, 1) := by decide +kernel
theorem dX1_cutLetters_113 : decode cX1_cutLetters 113 = .ok (.iconst 1, 1) := by decide +kernel
theorem dX1_cutLetters_114 : decode cX1_cutLetters 114 = .ok (.iload_n 1, 1) := by decide +kernel
theorem dX1_cutLetters_115 : decode cX1_cutLetters 115 = .ok (.iconst (-1), 1) := by decide +kernel
theorem dX1_cutLetters_116 : decode cX1_cutLetters 116 = .ok (.invokevirtual 74, 3) := by decide +kernel
theorem dX1_cutLetters_119 : decode cX1_cutLetters 119 = .ok (.ireturn, 1) := by decide +kernel
theorem dX1_cutLetters_120 : decode cX1_cutLetters 120 = .ok (.aload_n 0, 1) := by decide +kernel
theorem dX1_cutLetters_121 : decode cX1_cutLetters 121 = .ok (.iload_n 2, 1) := by decide +kernel
theorem dX1_cutLetters_122 : decode cX1_cutLetters 122 = .ok (.iconst 0, 1) := by decide +kernel
theorem dX1_cutLetters_123 : decode cX1_cutLetters 123 = .ok (.iload_n 1, 1) := by decide +kernel
theorem dX1_cutLetters_124 : decode cX1_cutLetters 124 = .ok (.aload 4, 2) := by decide +kernel
theorem dX1_cutLetters_126 : decode cX1_cutLetters 126 = .ok (.getfield 95, 3) := by decide +kernel
theorem dX1_cutLetters_129 : decode cX1_cutLetters 129 = .ok (.invokevirtual 74, 3) := by decide +kernel
theorem dX1_cutLetters_132 : decode cX1_cutLetters 132 = .ok (.pop, 1) := by decide +kernel
theorem dX1_cutLetters_133 : decode cX1_cutLetters 133 = .ok (.aload_n 0, 1) := by decide +kernel
theorem dX1_cutLetters_134 : decode cX1_cutLetters 134 = .ok (.iload_n 2, 1) := by decide +kernel
theorem dX1_cutLetters_135 : decode cX1_cutLetters 135 = .ok (.iconst 0, 1) := by decide +kernel
theorem dX1_cutLetters_136 : decode cX1_cutLetters 136 = .ok (.iload_n 1, 1) := by decide +kernel
theorem dX1_cutLetters_137 : decode cX1_cutLetters 137 = .ok (.aload 4, 2) := by decide +kernel
theorem dX1_cutLetters_139 : decode cX1_cutLetters 139 = .ok (.getfield 100, 3) := by decide +kernel
theorem dX1_cutLetters_142 : decode cX1_cutLetters 142 = .ok (.invokevirtual 74, 3) := by decide +kernel
theorem dX1_cutLetters_145 : decode cX1_cutLetters 145 = .ok (.ireturn, 1) := by decide +kernel
set_option maxRecDepth 20000 in
theorem ggX1_cutDigits_X1_endOfDigits : GoodIn wsX1_cutDigits wsX1_endOfDigits := goodIn_r _ [5, 6, 7, 8, 9, 10, 11, 12, 13, 14, 15, 16, 4, 17, 70, 71, 72, 73, 74, 75, 76] (by decide +kernel) (by decide +kernel)
set_option maxRecDepth 20000 in
theorem gX1_cutDigits_X1_endOfDigits : GoodIn wsX1_cutDigits (wsV RX1 103 RX1 yX1_endOfDigits wsX1_endOfDigits) := goodIn_app (goodIn_of _ (by decide +kernel)) ggX1_cutDigits_X1_endOfDigits
set_option maxRecDepth 20000 in
theorem ggX1_cutDigits_X1_isTime : GoodIn wsX1_cutDigits wsX1_isTime := goodIn_r _ [21, 6, 8, 9, 10, 11, 12, 13, 14, 1, 2, 3, 4, 5, 7, 15, 16, 17, 22, 23, 24, 25, 26, 27, 28, 29, 70, 71, 72, 73, 74, 75, 76] (by decide +kernel) (by decide +kernel)
set_option maxRecDepth 20000 in
theorem gX1_cutDigits_X1_isTime : GoodIn wsX1_cutDigits (wsV RX1 106 RX1 yX1_isTime wsX1_isTime) := goodIn_app (goodIn_of _ (by decide +kernel)) ggX1_cutDigits_X1_isTime
set_option maxRecDepth 20000 in
theorem ggX1_cutDigits_X1_cutTime : GoodIn wsX1_cutDigits wsX1_cutTime := goodIn_r _ [33, 34, 6, 22, 23, 24, 4, 25, 26, 27, 28, 29, 8, 9, 10, 11, 12, 13, 14, 35, 36, 37, 38, 39, 40, 41, 42, 43, 44, 45, 46, 47, 48, 49, 50, 51, 52, 53, 54, 55, 56, 57, 58, 59, 60, 61, 62, 63, 64, 65, 66, 67, 68, 69, 70, 71, 72, 73, 74, 75, 76, 77, 78, 79, 80, 81, 82, 83, 84, 85] (by decide +kernel) (by decide +kernel)
set_option maxRecDepth 20000 in
theorem gX1_cutDigits_X1_cutTime : GoodIn wsX1_cutDigits (wsV RX1 110 RX1 yX1_cutTime wsX1_cutTime) := goodIn_app (goodIn_of _ (by decide +kernel)) ggX1_cutDigits_X1_cutTime
set_option maxRecDepth 20000 in
theorem ggX1_cutDigits_X1_numberOf : GoodIn wsX1_cutDigits wsX1_numberOf := goodIn_r _ [25, 6, 26, 27, 28, 29, 8, 9, 10, 11, 12, 13, 14, 70, 71, 72, 73, 74, 75, 76] (by decide +kernel) (by decide +kernel)
set_option maxRecDepth 20000 in
theorem gX1_cutDigits_X1_numberOf : GoodIn wsX1_cutDigits (wsV RX1 114 RX1 yX1_numberOf wsX1_numberOf) := goodIn_app (goodIn_of _ (by decide +kernel)) ggX1_cutDigits_X1_numberOf
set_option maxRecDepth 20000 in
theorem ggX1_cutDigits_X1_addUpTo : GoodIn wsX1_cutDigits wsX1_addUpTo := goodIn_r _ [57, 58, 59, 60, 61, 62, 63, 64, 65, 66, 67, 68, 69, 70, 71, 72, 73, 74, 79, 80, 81, 82, 83, 84, 85] (by decide +kernel) (by decide +kernel)
set_option maxRecDepth 20000 in
theorem gX1_cutDigits_X1_addUpTo : GoodIn wsX1_cutDigits (wsV RX1 74 RX1 yX1_addUpTo wsX1_addUpTo) := goodIn_app (goodIn_of _ (by decide +kernel)) ggX1_cutDigits_X1_addUpTo
theorem dX1_cutDigits_0 : decode cX1_cutDigits 0 = .ok (.aload_n 0, 1) := by decide +kernel
theorem dX1_cutDigits_1 : decode cX1_cutDigits 1 = .ok (.iload_n 1, 1) := by decide +kernel
theorem dX1_cutDigits_2 : decode cX1_cutDigits 2 = .ok (.invokevirtual 103, 3) := by decide +kernel
theorem dX1_cutDigits_5 : decode cX1_cutDigits 5 = .ok (.istore_n 2, 1) := by decide +kernel
theorem dX1_cutDigits_6 : decode cX1_cutDigits 6 = .ok (.aload_n 0, 1) := by decide +kernel
theorem dX1_cutDigits_7 : decode cX1_cutDigits 7 = .ok (.iload_n 1, 1) := by decide +kernel
theorem dX1_cutDigits_8 : decode cX1_cutDigits 8 = .ok (.iload_n 2, 1) := by decide +kernel
theorem dX1_cutDigits_9 : decode cX1_cutDigits 9 = .ok (.invokevirtual 106, 3) := by decide +kernel
theorem dX1_cutDigits_12 : decode cX1_cutDigits 12 = .ok (.ifCond .eq 10, 3) := by decide +kernel
theorem dX1_cutDigits_15 : decode cX1_cutDigits 15 = .ok (.aload_n 0, 1) := by decide +kernel
theorem dX1_cutDigits_16 : decode cX1_cutDigits 16 = .ok (.iload_n 1, 1) := by decide +kernel
theorem dX1_cutDigits_17 : decode cX1_cutDigits 17 = .ok (.iload_n 2, 1) := by decide +kernel
theorem dX1_cutDigits_18 : decode cX1_cutDigits 18 = .ok (.invokevirtual 110, 3) := by decide +kernel
theorem dX1_cutDigits_21 : decode cX1_cutDigits 21 = .ok (.ireturn, 1) := by decide +kernel
theorem dX1_cutDigits_22 : decode cX1_cutDigits 22 = .ok (.aload_n 0, 1) := by decide +kernel
theorem dX1_cutDigits_23 : decode cX1_cutDigits 23 = .ok (.iload_n 1, 1) := by decide +kernel
theorem dX1_cutDigits_24 : decode cX1_cutDigits 24 = .ok (.iload_n 2, 1) := by decide +kernel
theorem dX1_cutDigits_25 : decode cX1_cutDigits 25 = .ok (.invokevirtual 114, 3) := by decide +kernel
theorem dX1_cutDigits_28 : decode cX1_cutDigits 28 = .ok (.istore_n 3, 1) := by decide +kernel
theorem dX1_cutDigits_29 : decode cX1_cutDigits 29 = .ok (.iload_n 3, 1) := by decide +kernel
theorem dX1_cutDigits_30 : decode cX1_cutDigits 30 = .ok (.sipush 30000, 3) := by decide +kernel
theorem dX1_cutDigits_33 : decode cX1_cutDigits 33 = .ok (.if_icmp .le 13, 3) := by decide +kernel
theorem dX1_cutDigits_36 : decode cX1_cutDigits 36 = .ok (.aload_n 0, 1) := by decide +kernel
theorem dX1_cutDigits_37 : decode cX1_cutDigits 37 = .ok (.iload_n 2, 1) := by decide +kernel
theorem dX1_cutDigits_38 : decode cX1_cutDigits 38 = .ok (.bipush 6, 2) := by decide +kernel
theorem dX1_cutDigits_40 : decode cX1_cutDigits 40 = .ok (.iload_n 1, 1) := by decide +kernel
theorem dX1_cutDigits_41 : decode cX1_cutDigits 41 = .ok (.iconst (-1), 1) := by decide +kernel
theorem dX1_cutDigits_42 : decode cX1_cutDigits 42 = .ok (.invokevirtual 74, 3) := by decide +kernel
theorem dX1_cutDigits_45 : decode cX1_cutDigits 45 = .ok (.ireturn, 1) := by decide +kernel
theorem dX1_cutDigits_46 : decode cX1_cutDigits 46 = .ok (.aload_n 0, 1) := by decide +kernel
theorem dX1_cutDigits_47 : decode cX1_cutDigits 47 = .ok (.iload_n 2, 1) := by decide +kernel
theorem dX1_cutDigits_48 : decode cX1_cutDigits 48 = .ok (.iconst 2, 1) := by decide +kernel
theorem dX1_cutDigits_49 : decode cX1_cutDigits 49 = .ok (.iload_n 1, 1) := by decide +kernel
theorem dX1_cutDigits_50 : decode cX1_cutDigits 50 = .ok (.iload_n 3, 1) := by decide +kernel
theorem dX1_cutDigits_51 : decode cX1_cutDigits 51 = .ok (.invokevirtual 74, 3) := by decide +kernel
theorem dX1_cutDigits_54 : decode cX1_cutDigits 54 = .ok (.ireturn, 1) := by decide +kernel
set_option maxRecDepth 20000 in
theorem ggX1_isTime_X4_byteAt : GoodIn wsX1_isTime wsX4_byteAt := goodIn_r _ [6, 7, 8, 31, 32] (by decide +kernel) (by decide +kernel)
set_option maxRecDepth 20000 in
theorem gX1_isTime_X4_byteAt : GoodIn wsX1_isTime (wsV RX1 50 RX4 yX4_byteAt wsX4_byteAt) := goodIn_app (goodIn_of _ (by decide +kernel)) ggX1_isTime_X4_byteAt
set_option maxRecDepth 20000 in
theorem ggX1_isTime_X1_endOfDigits : GoodIn wsX1_isTime wsX1_endOfDigits := goodIn_r _ [13, 1, 14, 2, 3, 4, 5, 6, 7, 8, 15, 16, 12, 17, 26, 27, 28, 29, 30, 31, 32] (by decide +kernel) (by decide +kernel)
set_option maxRecDepth 20000 in
theorem gX1_isTime_X1_endOfDigits : GoodIn wsX1_isTime (wsV RX1 103 RX1 yX1_endOfDigits wsX1_endOfDigits) := goodIn_app (goodIn_of _ (by decide +kernel)) ggX1_isTime_X1_endOfDigits
set_option maxRecDepth 20000 in
theorem ggX1_isTime_X1_numberOf : GoodIn wsX1_isTime wsX1_numberOf := goodIn_r _ [21, 1, 22, 23, 24, 25, 2, 3, 4, 5, 6, 7, 8, 26, 27, 28, 29, 30, 31, 32] (by decide +kernel) (by decide +kernel)
set_option maxRecDepth 20000 in
theorem gX1_isTime_X1_numberOf : GoodIn wsX1_isTime (wsV RX1 114 RX1 yX1_numberOf wsX1_numberOf) := goodIn_app (goodIn_of _ (by decide +kernel)) ggX1_isTime_X1_numberOf
theorem dX1_isTime_0 : decode cX1_isTime 0 = .ok (.iload_n 2, 1) := by decide +kernel
theorem dX1_isTime_1 : decode cX1_isTime 1 = .ok (.iload_n 1, 1) := by decide +kernel
theorem dX1_isTime_2 : decode cX1_isTime 2 = .ok (.isub, 1) := by decide +kernel
theorem dX1_isTime_3 : decode cX1_isTime 3 = .ok (.iconst 2, 1) := by decide +kernel
theorem dX1_isTime_4 : decode cX1_isTime 4 = .ok (.if_icmp .gt 59, 3) := by decide +kernel
theorem dX1_isTime_7 : decode cX1_isTime 7 = .ok (.aload_n 0, 1) := by decide +kernel
theorem dX1_isTime_8 : decode cX1_isTime 8 = .ok (.getfield 19, 3) := by decide +kernel
theorem dX1_isTime_11 : decode cX1_isTime 11 = .ok (.iload_n 2, 1) := by decide +kernel
theorem dX1_isTime_12 : decode cX1_isTime 12 = .ok (.invokevirtual 50, 3) := by decide +kernel
theorem dX1_isTime_15 : decode cX1_isTime 15 = .ok (.bipush 58, 2) := by decide +kernel
theorem dX1_isTime_17 : decode cX1_isTime 17 = .ok (.if_icmp .ne 46, 3) := by decide +kernel
theorem dX1_isTime_20 : decode cX1_isTime 20 = .ok (.aload_n 0, 1) := by decide +kernel
theorem dX1_isTime_21 : decode cX1_isTime 21 = .ok (.iload_n 2, 1) := by decide +kernel
theorem dX1_isTime_22 : decode cX1_isTime 22 = .ok (.iconst 1, 1) := by decide +kernel
theorem dX1_isTime_23 : decode cX1_isTime 23 = .ok (.iadd, 1) := by decide +kernel
theorem dX1_isTime_24 : decode cX1_isTime 24 = .ok (.invokevirtual 103, 3) := by decide +kernel
theorem dX1_isTime_27 : decode cX1_isTime 27 = .ok (.iload_n 2, 1) := by decide +kernel
theorem dX1_isTime_28 : decode cX1_isTime 28 = .ok (.iconst 3, 1) := by decide +kernel
theorem dX1_isTime_29 : decode cX1_isTime 29 = .ok (.iadd, 1) := by decide +kernel
theorem dX1_isTime_30 : decode cX1_isTime 30 = .ok (.if_icmp .ne 33, 3) := by decide +kernel
theorem dX1_isTime_33 : decode cX1_isTime 33 = .ok (.aload_n 0, 1) := by decide +kernel
theorem dX1_isTime_34 : decode cX1_isTime 34 = .ok (.iload_n 1, 1) := by decide +kernel
theorem dX1_isTime_35 : decode cX1_isTime 35 = .ok (.iload_n 2, 1) := by decide +kernel
theorem dX1_isTime_36 : decode cX1_isTime 36 = .ok (.invokevirtual 114, 3) := by decide +kernel
theorem dX1_isTime_39 : decode cX1_isTime 39 = .ok (.bipush 23, 2) := by decide +kernel
theorem dX1_isTime_41 : decode cX1_isTime 41 = .ok (.if_icmp .gt 22, 3) := by decide +kernel
theorem dX1_isTime_44 : decode cX1_isTime 44 = .ok (.aload_n 0, 1) := by decide +kernel
theorem dX1_isTime_45 : decode cX1_isTime 45 = .ok (.iload_n 2, 1) := by decide +kernel
theorem dX1_isTime_46 : decode cX1_isTime 46 = .ok (.iconst 1, 1) := by decide +kernel
theorem dX1_isTime_47 : decode cX1_isTime 47 = .ok (.iadd, 1) := by decide +kernel
theorem dX1_isTime_48 : decode cX1_isTime 48 = .ok (.iload_n 2, 1) := by decide +kernel
theorem dX1_isTime_49 : decode cX1_isTime 49 = .ok (.iconst 3, 1) := by decide +kernel
theorem dX1_isTime_50 : decode cX1_isTime 50 = .ok (.iadd, 1) := by decide +kernel
theorem dX1_isTime_51 : decode cX1_isTime 51 = .ok (.invokevirtual 114, 3) := by decide +kernel
theorem dX1_isTime_54 : decode cX1_isTime 54 = .ok (.bipush 59, 2) := by decide +kernel
theorem dX1_isTime_56 : decode cX1_isTime 56 = .ok (.if_icmp .gt 7, 3) := by decide +kernel
theorem dX1_isTime_59 : decode cX1_isTime 59 = .ok (.iconst 1, 1) := by decide +kernel
theorem dX1_isTime_60 : decode cX1_isTime 60 = .ok (.goto 4, 3) := by decide +kernel
theorem dX1_isTime_63 : decode cX1_isTime 63 = .ok (.iconst 0, 1) := by decide +kernel
theorem dX1_isTime_64 : decode cX1_isTime 64 = .ok (.ireturn, 1) := by decide +kernel
set_option maxRecDepth 20000 in
theorem ggX1_cutTime_X1_numberOf : GoodIn wsX1_cutTime wsX1_numberOf := goodIn_r _ [7, 2, 8, 9, 10, 11, 12, 13, 14, 15, 16, 17, 18, 54, 55, 56, 57, 58, 59, 60] (by decide +kernel) (by decide +kernel)
set_option maxRecDepth 20000 in
theorem gX1_cutTime_X1_numberOf : GoodIn wsX1_cutTime (wsV RX1 114 RX1 yX1_numberOf wsX1_numberOf) := goodIn_app (goodIn_of _ (by decide +kernel)) ggX1_cutTime_X1_numberOf
set_option maxRecDepth 20000 in
theorem ggX1_cutTime_X1_isHalfOfDay : GoodIn wsX1_cutTime wsX1_isHalfOfDay := goodIn_r _ [22, 1, 2, 12, 13, 14, 15, 16, 17, 18, 23, 24, 25, 26, 27, 28, 29, 30, 31, 32, 33, 34, 35, 36, 37, 54, 55, 56, 57, 58, 59, 60, 61, 62] (by decide +kernel) (by decide +kernel)
set_option maxRecDepth 20000 in
theorem gX1_cutTime_X1_isHalfOfDay : GoodIn wsX1_cutTime (wsV RX1 117 RX1 yX1_isHalfOfDay wsX1_isHalfOfDay) := goodIn_app (goodIn_of _ (by decide +kernel)) ggX1_cutTime_X1_isHalfOfDay
set_option maxRecDepth 20000 in
theorem ggX1_cutTime_X4_byteAt : GoodIn wsX1_cutTime wsX4_byteAt := goodIn_r _ [16, 17, 18, 59, 60] (by decide +kernel) (by decide +kernel)
set_option maxRecDepth 20000 in
theorem gX1_cutTime_X4_byteAt : GoodIn wsX1_cutTime (wsV RX1 50 RX4 yX4_byteAt wsX4_byteAt) := goodIn_app (goodIn_of _ (by decide +kernel)) ggX1_cutTime_X4_byteAt
set_option maxRecDepth 20000 in
theorem ggX1_cutTime_X3_folded : GoodIn wsX1_cutTime wsX3_folded := goodIn_r _ [27, 28, 61, 62] (by decide +kernel) (by decide +kernel)
set_option maxRecDepth 20000 in
theorem gX1_cutTime_X3_folded : GoodIn wsX1_cutTime (wsV RX1 120 RX3 yX3_folded wsX3_folded) := goodIn_app (goodIn_of _ (by decide +kernel)) ggX1_cutTime_X3_folded
set_option maxRecDepth 20000 in
theorem ggX1_cutTime_X1_addUpTo : GoodIn wsX1_cutTime wsX1_addUpTo := goodIn_r _ [41, 42, 43, 44, 45, 46, 47, 48, 49, 50, 51, 52, 53, 54, 55, 56, 57, 58, 63, 64, 65, 66, 67, 68, 69] (by decide +kernel) (by decide +kernel)
set_option maxRecDepth 20000 in
theorem gX1_cutTime_X1_addUpTo : GoodIn wsX1_cutTime (wsV RX1 74 RX1 yX1_addUpTo wsX1_addUpTo) := goodIn_app (goodIn_of _ (by decide +kernel)) ggX1_cutTime_X1_addUpTo
theorem dX1_cutTime_0 : decode cX1_cutTime 0 = .ok (.aload_n 0, 1) := by decide +kernel
theorem dX1_cutTime_1 : decode cX1_cutTime 1 = .ok (.iload_n 1, 1) := by decide +kernel
theorem dX1_cutTime_2 : decode cX1_cutTime 2 = .ok (.iload_n 2, 1) := by decide +kernel
theorem dX1_cutTime_3 : decode cX1_cutTime 3 = .ok (.invokevirtual 114, 3) := by decide +kernel
theorem dX1_cutTime_6 : decode cX1_cutTime 6 = .ok (.istore_n 3, 1) := by decide +kernel
theorem dX1_cutTime_7 : decode cX1_cutTime 7 = .ok (.aload_n 0, 1) := by decide +kernel
theorem dX1_cutTime_8 : decode cX1_cutTime 8 = .ok (.iload_n 2, 1) := by decide +kernel
theorem dX1_cutTime_9 : decode cX1_cutTime 9 = .ok (.iconst 1, 1) := by decide +kernel
theorem dX1_cutTime_10 : decode cX1_cutTime 10 = .ok (.iadd, 1) := by decide +kernel
theorem dX1_cutTime_11 : decode cX1_cutTime 11 = .ok (.iload_n 2, 1) := by decide +kernel
theorem dX1_cutTime_12 : decode cX1_cutTime 12 = .ok (.iconst 3, 1) := by decide +kernel
theorem dX1_cutTime_13 : decode cX1_cutTime 13 = .ok (.iadd, 1) := by decide +kernel
theorem dX1_cutTime_14 : decode cX1_cutTime 14 = .ok (.invokevirtual 114, 3) := by decide +kernel
theorem dX1_cutTime_17 : decode cX1_cutTime 17 = .ok (.istore 4, 2) := by decide +kernel
theorem dX1_cutTime_19 : decode cX1_cutTime 19 = .ok (.iload_n 2, 1) := by decide +kernel
theorem dX1_cutTime_20 : decode cX1_cutTime 20 = .ok (.iconst 3, 1) := by decide +kernel
theorem dX1_cutTime_21 : decode cX1_cutTime 21 = .ok (.iadd, 1) := by decide +kernel
theorem dX1_cutTime_22 : decode cX1_cutTime 22 = .ok (.istore 5, 2) := by decide +kernel
theorem dX1_cutTime_24 : decode cX1_cutTime 24 = .ok (.iload_n 3, 1) := by decide +kernel
theorem dX1_cutTime_25 : decode cX1_cutTime 25 = .ok (.iconst 1, 1) := by decide +kernel
theorem dX1_cutTime_26 : decode cX1_cutTime 26 = .ok (.if_icmp .lt 63, 3) := by decide +kernel
theorem dX1_cutTime_29 : decode cX1_cutTime 29 = .ok (.iload_n 3, 1) := by decide +kernel
theorem dX1_cutTime_30 : decode cX1_cutTime 30 = .ok (.bipush 12, 2) := by decide +kernel
theorem dX1_cutTime_32 : decode cX1_cutTime 32 = .ok (.if_icmp .gt 57, 3) := by decide +kernel
theorem dX1_cutTime_35 : decode cX1_cutTime 35 = .ok (.aload_n 0, 1) := by decide +kernel
theorem dX1_cutTime_36 : decode cX1_cutTime 36 = .ok (.iload 5, 2) := by decide +kernel
theorem dX1_cutTime_38 : decode cX1_cutTime 38 = .ok (.invokevirtual 117, 3) := by decide +kernel
theorem dX1_cutTime_41 : decode cX1_cutTime 41 = .ok (.ifCond .eq 48, 3) := by decide +kernel
theorem dX1_cutTime_44 : decode cX1_cutTime 44 = .ok (.iload_n 3, 1) := by decide +kernel
theorem dX1_cutTime_45 : decode cX1_cutTime 45 = .ok (.bipush 12, 2) := by decide +kernel
theorem dX1_cutTime_47 : decode cX1_cutTime 47 = .ok (.if_icmp .ne 7, 3) := by decide +kernel
theorem dX1_cutTime_50 : decode cX1_cutTime 50 = .ok (.iconst 0, 1) := by decide +kernel
theorem dX1_cutTime_51 : decode cX1_cutTime 51 = .ok (.goto 4, 3) := by decide +kernel
theorem dX1_cutTime_54 : decode cX1_cutTime 54 = .ok (.iload_n 3, 1) := by decide +kernel
theorem dX1_cutTime_55 : decode cX1_cutTime 55 = .ok (.istore_n 3, 1) := by decide +kernel
theorem dX1_cutTime_56 : decode cX1_cutTime 56 = .ok (.iload_n 3, 1) := by decide +kernel
theorem dX1_cutTime_57 : decode cX1_cutTime 57 = .ok (.aload_n 0, 1) := by decide +kernel
theorem dX1_cutTime_58 : decode cX1_cutTime 58 = .ok (.getfield 9, 3) := by decide +kernel
theorem dX1_cutTime_61 : decode cX1_cutTime 61 = .ok (.aload_n 0, 1) := by decide +kernel
theorem dX1_cutTime_62 : decode cX1_cutTime 62 = .ok (.getfield 19, 3) := by decide +kernel
theorem dX1_cutTime_65 : decode cX1_cutTime 65 = .ok (.iload 5, 2) := by decide +kernel
theorem dX1_cutTime_67 : decode cX1_cutTime 67 = .ok (.invokevirtual 50, 3) := by decide +kernel
theorem dX1_cutTime_70 : decode cX1_cutTime 70 = .ok (.invokevirtual 120, 3) := by decide +kernel
theorem dX1_cutTime_73 : decode cX1_cutTime 73 = .ok (.bipush 112, 2) := by decide +kernel
theorem dX1_cutTime_75 : decode cX1_cutTime 75 = .ok (.if_icmp .ne 8, 3) := by decide +kernel
theorem dX1_cutTime_78 : decode cX1_cutTime 78 = .ok (.bipush 12, 2) := by decide +kernel
theorem dX1_cutTime_80 : decode cX1_cutTime 80 = .ok (.goto 4, 3) := by decide +kernel
theorem dX1_cutTime_83 : decode cX1_cutTime 83 = .ok (.iconst 0, 1) := by decide +kernel
theorem dX1_cutTime_84 : decode cX1_cutTime 84 = .ok (.iadd, 1) := by decide +kernel
theorem dX1_cutTime_85 : decode cX1_cutTime 85 = .ok (.istore_n 3, 1) := by decide +kernel
theorem dX1_cutTime_86 : decode cX1_cutTime 86 = .ok (.iinc 5 2, 3) := by decide +kernel
theorem dX1_cutTime_89 : decode cX1_cutTime 89 = .ok (.aload_n 0, 1) := by decide +kernel
theorem dX1_cutTime_90 : decode cX1_cutTime 90 = .ok (.iload 5, 2) := by decide +kernel
theorem dX1_cutTime_92 : decode cX1_cutTime 92 = .ok (.iconst 3, 1) := by decide +kernel
theorem dX1_cutTime_93 : decode cX1_cutTime 93 = .ok (.iload_n 1, 1) := by decide +kernel
theorem dX1_cutTime_94 : decode cX1_cutTime 94 = .ok (.bipush 60, 2) := by decide +kernel
theorem dX1_cutTime_96 : decode cX1_cutTime 96 = .ok (.iload_n 3, 1) := by decide +kernel
theorem dX1_cutTime_97 : decode cX1_cutTime 97 = .ok (.imul, 1) := by decide +kernel
theorem dX1_cutTime_98 : decode cX1_cutTime 98 = .ok (.iload 4, 2) := by decide +kernel
theorem dX1_cutTime_100 : decode cX1_cutTime 100 = .ok (.iadd, 1) := by decide +kernel
theorem dX1_cutTime_101 : decode cX1_cutTime 101 = .ok (.invokevirtual 74, 3) := by decide +kernel
theorem dX1_cutTime_104 : decode cX1_cutTime 104 = .ok (.ireturn, 1) := by decide +kernel
set_option maxRecDepth 20000 in
theorem ggX1_isHalfOfDay_X4_byteAt : GoodIn wsX1_isHalfOfDay wsX4_byteAt := goodIn_r _ [7, 8, 9, 30, 31] (by decide +kernel) (by decide +kernel)
set_option maxRecDepth 20000 in
theorem gX1_isHalfOfDay_X4_byteAt : GoodIn wsX1_isHalfOfDay (wsV RX1 50 RX4 yX4_byteAt wsX4_byteAt) := goodIn_app (goodIn_of _ (by decide +kernel)) ggX1_isHalfOfDay_X4_byteAt
set_option maxRecDepth 20000 in
theorem ggX1_isHalfOfDay_X3_folded : GoodIn wsX1_isHalfOfDay wsX3_folded := goodIn_r _ [14, 15, 32, 33] (by decide +kernel) (by decide +kernel)
set_option maxRecDepth 20000 in
theorem gX1_isHalfOfDay_X3_folded : GoodIn wsX1_isHalfOfDay (wsV RX1 120 RX3 yX3_folded wsX3_folded) := goodIn_app (goodIn_of _ (by decide +kernel)) ggX1_isHalfOfDay_X3_folded
set_option maxRecDepth 20000 in
theorem ggX1_isHalfOfDay_X3_isLetter : GoodIn wsX1_isHalfOfDay wsX3_isLetter := goodIn_r _ [18, 19, 20, 13, 21, 22, 23, 24] (by decide +kernel) (by decide +kernel)
set_option maxRecDepth 20000 in
theorem gX1_isHalfOfDay_X3_isLetter : GoodIn wsX1_isHalfOfDay (va_wsS RX1 53 yX3_isLetter wsX3_isLetter) := goodIn_app (goodIn_of _ (by decide +kernel)) ggX1_isHalfOfDay_X3_isLetter
theorem dX1_isHalfOfDay_0 : decode cX1_isHalfOfDay 0 = .ok (.aload_n 0, 1) := by decide +kernel
theorem dX1_isHalfOfDay_1 : decode cX1_isHalfOfDay 1 = .ok (.getfield 9, 3) := by decide +kernel
theorem dX1_isHalfOfDay_4 : decode cX1_isHalfOfDay 4 = .ok (.aload_n 0, 1) := by decide +kernel
theorem dX1_isHalfOfDay_5 : decode cX1_isHalfOfDay 5 = .ok (.getfield 19, 3) := by decide +kernel
theorem dX1_isHalfOfDay_8 : decode cX1_isHalfOfDay 8 = .ok (.iload_n 1, 1) := by decide +kernel
theorem dX1_isHalfOfDay_9 : decode cX1_isHalfOfDay 9 = .ok (.invokevirtual 50, 3) := by decide +kernel
theorem dX1_isHalfOfDay_12 : decode cX1_isHalfOfDay 12 = .ok (.invokevirtual 120, 3) := by decide +kernel
theorem dX1_isHalfOfDay_15 : decode cX1_isHalfOfDay 15 = .ok (.istore_n 2, 1) := by decide +kernel
theorem dX1_isHalfOfDay_16 : decode cX1_isHalfOfDay 16 = .ok (.iload_n 2, 1) := by decide +kernel
theorem dX1_isHalfOfDay_17 : decode cX1_isHalfOfDay 17 = .ok (.bipush 97, 2) := by decide +kernel
theorem dX1_isHalfOfDay_19 : decode cX1_isHalfOfDay 19 = .ok (.if_icmp .eq 9, 3) := by decide +kernel
theorem dX1_isHalfOfDay_22 : decode cX1_isHalfOfDay 22 = .ok (.iload_n 2, 1) := by decide +kernel
theorem dX1_isHalfOfDay_23 : decode cX1_isHalfOfDay 23 = .ok (.bipush 112, 2) := by decide +kernel
theorem dX1_isHalfOfDay_25 : decode cX1_isHalfOfDay 25 = .ok (.if_icmp .ne 45, 3) := by decide +kernel
theorem dX1_isHalfOfDay_28 : decode cX1_isHalfOfDay 28 = .ok (.aload_n 0, 1) := by decide +kernel
theorem dX1_isHalfOfDay_29 : decode cX1_isHalfOfDay 29 = .ok (.getfield 9, 3) := by decide +kernel
theorem dX1_isHalfOfDay_32 : decode cX1_isHalfOfDay 32 = .ok (.aload_n 0, 1) := by decide +kernel
theorem dX1_isHalfOfDay_33 : decode cX1_isHalfOfDay 33 = .ok (.getfield 19, 3) := by decide +kernel
theorem dX1_isHalfOfDay_36 : decode cX1_isHalfOfDay 36 = .ok (.iload_n 1, 1) := by decide +kernel
theorem dX1_isHalfOfDay_37 : decode cX1_isHalfOfDay 37 = .ok (.iconst 1, 1) := by decide +kernel
theorem dX1_isHalfOfDay_38 : decode cX1_isHalfOfDay 38 = .ok (.iadd, 1) := by decide +kernel
theorem dX1_isHalfOfDay_39 : decode cX1_isHalfOfDay 39 = .ok (.invokevirtual 50, 3) := by decide +kernel
theorem dX1_isHalfOfDay_42 : decode cX1_isHalfOfDay 42 = .ok (.invokevirtual 120, 3) := by decide +kernel
theorem dX1_isHalfOfDay_45 : decode cX1_isHalfOfDay 45 = .ok (.bipush 109, 2) := by decide +kernel
theorem dX1_isHalfOfDay_47 : decode cX1_isHalfOfDay 47 = .ok (.if_icmp .ne 23, 3) := by decide +kernel
theorem dX1_isHalfOfDay_50 : decode cX1_isHalfOfDay 50 = .ok (.aload_n 0, 1) := by decide +kernel
theorem dX1_isHalfOfDay_51 : decode cX1_isHalfOfDay 51 = .ok (.getfield 19, 3) := by decide +kernel
theorem dX1_isHalfOfDay_54 : decode cX1_isHalfOfDay 54 = .ok (.iload_n 1, 1) := by decide +kernel
theorem dX1_isHalfOfDay_55 : decode cX1_isHalfOfDay 55 = .ok (.iconst 2, 1) := by decide +kernel
theorem dX1_isHalfOfDay_56 : decode cX1_isHalfOfDay 56 = .ok (.iadd, 1) := by decide +kernel
theorem dX1_isHalfOfDay_57 : decode cX1_isHalfOfDay 57 = .ok (.invokevirtual 50, 3) := by decide +kernel
theorem dX1_isHalfOfDay_60 : decode cX1_isHalfOfDay 60 = .ok (.invokestatic 53, 3) := by decide +kernel
theorem dX1_isHalfOfDay_63 : decode cX1_isHalfOfDay 63 = .ok (.ifCond .ne 7, 3) := by decide +kernel
theorem dX1_isHalfOfDay_66 : decode cX1_isHalfOfDay 66 = .ok (.iconst 1, 1) := by decide +kernel
theorem dX1_isHalfOfDay_67 : decode cX1_isHalfOfDay 67 = .ok (.goto 4, 3) := by decide +kernel
theorem dX1_isHalfOfDay_70 : decode cX1_isHalfOfDay 70 = .ok (.iconst 0, 1) := by decide +kernel
theorem dX1_isHalfOfDay_71 : decode cX1_isHalfOfDay 71 = .ok (.ireturn, 1) := by decide +kernel
set_option maxRecDepth 20000 in
theorem ggX1_cutQuoted_X4_byteAt : GoodIn wsX1_cutQuoted wsX4_byteAt := goodIn_r _ [7, 8, 9, 32, 33] (by decide +kernel) (by decide +kernel)
set_option maxRecDepth 20000 in
theorem gX1_cutQuoted_X4_byteAt : GoodIn wsX1_cutQuoted (wsV RX1 50 RX4 yX4_byteAt wsX4_byteAt) := goodIn_app (goodIn_of _ (by decide +kernel)) ggX1_cutQuoted_X4_byteAt
set_option maxRecDepth 20000 in
theorem ggX1_cutQuoted_X1_addUpTo : GoodIn wsX1_cutQuoted wsX1_addUpTo := goodIn_r _ [14, 15, 16, 17, 18, 19, 20, 21, 22, 23, 24, 25, 26, 27, 28, 29, 30, 31, 34, 35, 36, 37, 38, 39, 40] (by decide +kernel) (by decide +kernel)
set_option maxRecDepth 20000 in
theorem gX1_cutQuoted_X1_addUpTo : GoodIn wsX1_cutQuoted (wsV RX1 74 RX1 yX1_addUpTo wsX1_addUpTo) := goodIn_app (goodIn_of _ (by decide +kernel)) ggX1_cutQuoted_X1_addUpTo
theorem dX1_cutQuoted_0 : decode cX1_cutQuoted 0 = .ok (.iload_n 1, 1) := by decide +kernel
theorem dX1_cutQuoted_1 : decode cX1_cutQuoted 1 = .ok (.iconst 1, 1) := by decide +kernel
theorem dX1_cutQuoted_2 : decode cX1_cutQuoted 2 = .ok (.iadd, 1) := by decide +kernel
theorem dX1_cutQuoted_3 : decode cX1_cutQuoted 3 = .ok (.istore_n 2, 1) := by decide +kernel
theorem dX1_cutQuoted_4 : decode cX1_cutQuoted 4 = .ok (.iload_n 2, 1) := by decide +kernel
theorem dX1_cutQuoted_5 : decode cX1_cutQuoted 5 = .ok (.aload_n 0, 1) := by decide +kernel
theorem dX1_cutQuoted_6 : decode cX1_cutQuoted 6 = .ok (.getfield 19, 3) := by decide +kernel
theorem dX1_cutQuoted_9 : decode cX1_cutQuoted 9 = .ok (.getfield 37, 3) := by decide +kernel
theorem dX1_cutQuoted_12 : decode cX1_cutQuoted 12 = .ok (.if_icmp .ge 22, 3) := by decide +kernel
theorem dX1_cutQuoted_15 : decode cX1_cutQuoted 15 = .ok (.aload_n 0, 1) := by decide +kernel
theorem dX1_cutQuoted_16 : decode cX1_cutQuoted 16 = .ok (.getfield 19, 3) := by decide +kernel
theorem dX1_cutQuoted_19 : decode cX1_cutQuoted 19 = .ok (.iload_n 2, 1) := by decide +kernel
theorem dX1_cutQuoted_20 : decode cX1_cutQuoted 20 = .ok (.invokevirtual 50, 3) := by decide +kernel
theorem dX1_cutQuoted_23 : decode cX1_cutQuoted 23 = .ok (.bipush 34, 2) := by decide +kernel
theorem dX1_cutQuoted_25 : decode cX1_cutQuoted 25 = .ok (.if_icmp .eq 9, 3) := by decide +kernel
theorem dX1_cutQuoted_28 : decode cX1_cutQuoted 28 = .ok (.iinc 2 1, 3) := by decide +kernel
theorem dX1_cutQuoted_31 : decode cX1_cutQuoted 31 = .ok (.goto (-27), 3) := by decide +kernel
theorem dX1_cutQuoted_34 : decode cX1_cutQuoted 34 = .ok (.iload_n 2, 1) := by decide +kernel
theorem dX1_cutQuoted_35 : decode cX1_cutQuoted 35 = .ok (.aload_n 0, 1) := by decide +kernel
theorem dX1_cutQuoted_36 : decode cX1_cutQuoted 36 = .ok (.getfield 19, 3) := by decide +kernel
theorem dX1_cutQuoted_39 : decode cX1_cutQuoted 39 = .ok (.getfield 37, 3) := by decide +kernel
theorem dX1_cutQuoted_42 : decode cX1_cutQuoted 42 = .ok (.if_icmp .lt 13, 3) := by decide +kernel
theorem dX1_cutQuoted_45 : decode cX1_cutQuoted 45 = .ok (.aload_n 0, 1) := by decide +kernel
theorem dX1_cutQuoted_46 : decode cX1_cutQuoted 46 = .ok (.iload_n 2, 1) := by decide +kernel
theorem dX1_cutQuoted_47 : decode cX1_cutQuoted 47 = .ok (.bipush 6, 2) := by decide +kernel
theorem dX1_cutQuoted_49 : decode cX1_cutQuoted 49 = .ok (.iload_n 1, 1) := by decide +kernel
theorem dX1_cutQuoted_50 : decode cX1_cutQuoted 50 = .ok (.iconst (-1), 1) := by decide +kernel
theorem dX1_cutQuoted_51 : decode cX1_cutQuoted 51 = .ok (.invokevirtual 74, 3) := by decide +kernel
theorem dX1_cutQuoted_54 : decode cX1_cutQuoted 54 = .ok (.ireturn, 1) := by decide +kernel
theorem dX1_cutQuoted_55 : decode cX1_cutQuoted 55 = .ok (.aload_n 0, 1) := by decide +kernel
theorem dX1_cutQuoted_56 : decode cX1_cutQuoted 56 = .ok (.iload_n 2, 1) := by decide +kernel
theorem dX1_cutQuoted_57 : decode cX1_cutQuoted 57 = .ok (.iconst 1, 1) := by decide +kernel
theorem dX1_cutQuoted_58 : decode cX1_cutQuoted 58 = .ok (.iadd, 1) := by decide +kernel
theorem dX1_cutQuoted_59 : decode cX1_cutQuoted 59 = .ok (.iconst 4, 1) := by decide +kernel
theorem dX1_cutQuoted_60 : decode cX1_cutQuoted 60 = .ok (.iload_n 1, 1) := by decide +kernel
theorem dX1_cutQuoted_61 : decode cX1_cutQuoted 61 = .ok (.iload_n 2, 1) := by decide +kernel
theorem dX1_cutQuoted_62 : decode cX1_cutQuoted 62 = .ok (.iload_n 1, 1) := by decide +kernel
theorem dX1_cutQuoted_63 : decode cX1_cutQuoted 63 = .ok (.isub, 1) := by decide +kernel
theorem dX1_cutQuoted_64 : decode cX1_cutQuoted 64 = .ok (.iconst 1, 1) := by decide +kernel
theorem dX1_cutQuoted_65 : decode cX1_cutQuoted 65 = .ok (.isub, 1) := by decide +kernel
theorem dX1_cutQuoted_66 : decode cX1_cutQuoted 66 = .ok (.invokevirtual 74, 3) := by decide +kernel
theorem dX1_cutQuoted_69 : decode cX1_cutQuoted 69 = .ok (.ireturn, 1) := by decide +kernel
set_option maxRecDepth 20000 in
theorem ggX1_cutOther_X4_byteAt : GoodIn wsX1_cutOther wsX4_byteAt := goodIn_r _ [7, 8, 9, 51, 52] (by decide +kernel) (by decide +kernel)
set_option maxRecDepth 20000 in
theorem gX1_cutOther_X4_byteAt : GoodIn wsX1_cutOther (wsV RX1 50 RX4 yX4_byteAt wsX4_byteAt) := goodIn_app (goodIn_of _ (by decide +kernel)) ggX1_cutOther_X4_byteAt
set_option maxRecDepth 20000 in
theorem ggX1_cutOther_X1_isOther : GoodIn wsX1_cutOther wsX1_isOther := goodIn_r _ [13, 14, 15, 12, 16, 17, 18, 19, 20, 21, 22, 23, 24, 25, 26, 27, 28, 29] (by decide +kernel) (by decide +kernel)
set_option maxRecDepth 20000 in
theorem gX1_cutOther_X1_isOther : GoodIn wsX1_cutOther (va_wsS RX1 123 yX1_isOther wsX1_isOther) := goodIn_app (goodIn_of _ (by decide +kernel)) ggX1_cutOther_X1_isOther
set_option maxRecDepth 20000 in
theorem ggX1_cutOther_X1_addUpTo : GoodIn wsX1_cutOther wsX1_addUpTo := goodIn_r _ [33, 34, 35, 36, 37, 38, 39, 40, 41, 42, 43, 44, 45, 46, 47, 48, 49, 50, 53, 54, 55, 56, 57, 58, 59] (by decide +kernel) (by decide +kernel)
set_option maxRecDepth 20000 in
theorem gX1_cutOther_X1_addUpTo : GoodIn wsX1_cutOther (wsV RX1 74 RX1 yX1_addUpTo wsX1_addUpTo) := goodIn_app (goodIn_of _ (by decide +kernel)) ggX1_cutOther_X1_addUpTo
theorem dX1_cutOther_0 : decode cX1_cutOther 0 = .ok (.iload_n 1, 1) := by decide +kernel
theorem dX1_cutOther_1 : decode cX1_cutOther 1 = .ok (.iconst 1, 1) := by decide +kernel
theorem dX1_cutOther_2 : decode cX1_cutOther 2 = .ok (.iadd, 1) := by decide +kernel
theorem dX1_cutOther_3 : decode cX1_cutOther 3 = .ok (.istore_n 2, 1) := by decide +kernel
theorem dX1_cutOther_4 : decode cX1_cutOther 4 = .ok (.iload_n 2, 1) := by decide +kernel
theorem dX1_cutOther_5 : decode cX1_cutOther 5 = .ok (.aload_n 0, 1) := by decide +kernel
theorem dX1_cutOther_6 : decode cX1_cutOther 6 = .ok (.getfield 19, 3) := by decide +kernel
theorem dX1_cutOther_9 : decode cX1_cutOther 9 = .ok (.getfield 37, 3) := by decide +kernel
theorem dX1_cutOther_12 : decode cX1_cutOther 12 = .ok (.if_icmp .ge 23, 3) := by decide +kernel
theorem dX1_cutOther_15 : decode cX1_cutOther 15 = .ok (.aload_n 0, 1) := by decide +kernel
theorem dX1_cutOther_16 : decode cX1_cutOther 16 = .ok (.getfield 19, 3) := by decide +kernel
theorem dX1_cutOther_19 : decode cX1_cutOther 19 = .ok (.iload_n 2, 1) := by decide +kernel
theorem dX1_cutOther_20 : decode cX1_cutOther 20 = .ok (.invokevirtual 50, 3) := by decide +kernel
theorem dX1_cutOther_23 : decode cX1_cutOther 23 = .ok (.invokestatic 123, 3) := by decide +kernel
theorem dX1_cutOther_26 : decode cX1_cutOther 26 = .ok (.ifCond .eq 9, 3) := by decide +kernel
theorem dX1_cutOther_29 : decode cX1_cutOther 29 = .ok (.iinc 2 1, 3) := by decide +kernel
theorem dX1_cutOther_32 : decode cX1_cutOther 32 = .ok (.goto (-28), 3) := by decide +kernel
theorem dX1_cutOther_35 : decode cX1_cutOther 35 = .ok (.aload_n 0, 1) := by decide +kernel
theorem dX1_cutOther_36 : decode cX1_cutOther 36 = .ok (.iload_n 2, 1) := by decide +kernel
theorem dX1_cutOther_37 : decode cX1_cutOther 37 = .ok (.bipush 6, 2) := by decide +kernel
theorem dX1_cutOther_39 : decode cX1_cutOther 39 = .ok (.iload_n 1, 1) := by decide +kernel
theorem dX1_cutOther_40 : decode cX1_cutOther 40 = .ok (.iconst (-1), 1) := by decide +kernel
theorem dX1_cutOther_41 : decode cX1_cutOther 41 = .ok (.invokevirtual 74, 3) := by decide +kernel
theorem dX1_cutOther_44 : decode cX1_cutOther 44 = .ok (.ireturn, 1) := by decide +kernel
set_option maxRecDepth 20000 in
theorem ggX1_endOfDigits_X4_byteAt : GoodIn wsX1_endOfDigits wsX4_byteAt := goodIn_r _ [7, 8, 9, 19, 20] (by decide +kernel) (by decide +kernel)
set_option maxRecDepth 20000 in
theorem gX1_endOfDigits_X4_byteAt : GoodIn wsX1_endOfDigits (wsV RX1 50 RX4 yX4_byteAt wsX4_byteAt) := goodIn_app (goodIn_of _ (by decide +kernel)) ggX1_endOfDigits_X4_byteAt
set_option maxRecDepth 20000 in
theorem ggX1_endOfDigits_X1_isDigit : GoodIn wsX1_endOfDigits wsX1_isDigit := goodIn_r _ [13] (by decide +kernel) (by decide +kernel)
set_option maxRecDepth 20000 in
theorem gX1_endOfDigits_X1_isDigit : GoodIn wsX1_endOfDigits (va_wsS RX1 62 yX1_isDigit wsX1_isDigit) := goodIn_app (goodIn_of _ (by decide +kernel)) ggX1_endOfDigits_X1_isDigit
theorem dX1_endOfDigits_0 : decode cX1_endOfDigits 0 = .ok (.iload_n 1, 1) := by decide +kernel
theorem dX1_endOfDigits_1 : decode cX1_endOfDigits 1 = .ok (.istore_n 2, 1) := by decide +kernel
theorem dX1_endOfDigits_2 : decode cX1_endOfDigits 2 = .ok (.iload_n 2, 1) := by decide +kernel
theorem dX1_endOfDigits_3 : decode cX1_endOfDigits 3 = .ok (.aload_n 0, 1) := by decide +kernel
theorem dX1_endOfDigits_4 : decode cX1_endOfDigits 4 = .ok (.getfield 19, 3) := by decide +kernel
theorem dX1_endOfDigits_7 : decode cX1_endOfDigits 7 = .ok (.getfield 37, 3) := by decide +kernel
theorem dX1_endOfDigits_10 : decode cX1_endOfDigits 10 = .ok (.if_icmp .ge 23, 3) := by decide +kernel
theorem dX1_endOfDigits_13 : decode cX1_endOfDigits 13 = .ok (.aload_n 0, 1) := by decide +kernel
theorem dX1_endOfDigits_14 : decode cX1_endOfDigits 14 = .ok (.getfield 19, 3) := by decide +kernel
theorem dX1_endOfDigits_17 : decode cX1_endOfDigits 17 = .ok (.iload_n 2, 1) := by decide +kernel
theorem dX1_endOfDigits_18 : decode cX1_endOfDigits 18 = .ok (.invokevirtual 50, 3) := by decide +kernel
theorem dX1_endOfDigits_21 : decode cX1_endOfDigits 21 = .ok (.invokestatic 62, 3) := by decide +kernel
theorem dX1_endOfDigits_24 : decode cX1_endOfDigits 24 = .ok (.ifCond .eq 9, 3) := by decide +kernel
theorem dX1_endOfDigits_27 : decode cX1_endOfDigits 27 = .ok (.iinc 2 1, 3) := by decide +kernel
theorem dX1_endOfDigits_30 : decode cX1_endOfDigits 30 = .ok (.goto (-28), 3) := by decide +kernel
theorem dX1_endOfDigits_33 : decode cX1_endOfDigits 33 = .ok (.iload_n 2, 1) := by decide +kernel
theorem dX1_endOfDigits_34 : decode cX1_endOfDigits 34 = .ok (.ireturn, 1) := by decide +kernel
set_option maxRecDepth 20000 in
theorem ggX1_numberOf_X4_byteAt : GoodIn wsX1_numberOf wsX4_byteAt := goodIn_r _ [10, 11, 12, 18, 19] (by decide +kernel) (by decide +kernel)
set_option maxRecDepth 20000 in
theorem gX1_numberOf_X4_byteAt : GoodIn wsX1_numberOf (wsV RX1 50 RX4 yX4_byteAt wsX4_byteAt) := goodIn_app (goodIn_of _ (by decide +kernel)) ggX1_numberOf_X4_byteAt
theorem dX1_numberOf_0 : decode cX1_numberOf 0 = .ok (.iconst 0, 1) := by decide +kernel
theorem dX1_numberOf_1 : decode cX1_numberOf 1 = .ok (.istore_n 3, 1) := by decide +kernel
theorem dX1_numberOf_2 : decode cX1_numberOf 2 = .ok (.iload_n 1, 1) := by decide +kernel
theorem dX1_numberOf_3 : decode cX1_numberOf 3 = .ok (.istore 4, 2) := by decide +kernel
theorem dX1_numberOf_5 : decode cX1_numberOf 5 = .ok (.iload 4, 2) := by decide +kernel
theorem dX1_numberOf_7 : decode cX1_numberOf 7 = .ok (.iload_n 2, 1) := by decide +kernel
theorem dX1_numberOf_8 : decode cX1_numberOf 8 = .ok (.if_icmp .ge 33, 3) := by decide +kernel
theorem dX1_numberOf_11 : decode cX1_numberOf 11 = .ok (.bipush 10, 2) := by decide +kernel
theorem dX1_numberOf_13 : decode cX1_numberOf 13 = .ok (.iload_n 3, 1) := by decide +kernel
theorem dX1_numberOf_14 : decode cX1_numberOf 14 = .ok (.imul, 1) := by decide +kernel
theorem dX1_numberOf_15 : decode cX1_numberOf 15 = .ok (.aload_n 0, 1) := by decide +kernel
theorem dX1_numberOf_16 : decode cX1_numberOf 16 = .ok (.getfield 19, 3) := by decide +kernel
theorem dX1_numberOf_19 : decode cX1_numberOf 19 = .ok (.iload 4, 2) := by decide +kernel
theorem dX1_numberOf_21 : decode cX1_numberOf 21 = .ok (.invokevirtual 50, 3) := by decide +kernel
theorem dX1_numberOf_24 : decode cX1_numberOf 24 = .ok (.iadd, 1) := by decide +kernel
theorem dX1_numberOf_25 : decode cX1_numberOf 25 = .ok (.bipush 48, 2) := by decide +kernel
theorem dX1_numberOf_27 : decode cX1_numberOf 27 = .ok (.isub, 1) := by decide +kernel
theorem dX1_numberOf_28 : decode cX1_numberOf 28 = .ok (.sipush 30001, 3) := by decide +kernel
theorem dX1_numberOf_31 : decode cX1_numberOf 31 = .ok (.invokestatic 126, 3) := by decide +kernel
theorem dX1_numberOf_34 : decode cX1_numberOf 34 = .ok (.istore_n 3, 1) := by decide +kernel
theorem dX1_numberOf_35 : decode cX1_numberOf 35 = .ok (.iinc 4 1, 3) := by decide +kernel
theorem dX1_numberOf_38 : decode cX1_numberOf 38 = .ok (.goto (-33), 3) := by decide +kernel
theorem dX1_numberOf_41 : decode cX1_numberOf 41 = .ok (.iload_n 3, 1) := by decide +kernel
theorem dX1_numberOf_42 : decode cX1_numberOf 42 = .ok (.ireturn, 1) := by decide +kernel
theorem dX1_isDigit_0 : decode cX1_isDigit 0 = .ok (.iload_n 0, 1) := by decide +kernel
theorem dX1_isDigit_1 : decode cX1_isDigit 1 = .ok (.bipush 48, 2) := by decide +kernel
theorem dX1_isDigit_3 : decode cX1_isDigit 3 = .ok (.if_icmp .lt 13, 3) := by decide +kernel
theorem dX1_isDigit_6 : decode cX1_isDigit 6 = .ok (.iload_n 0, 1) := by decide +kernel
theorem dX1_isDigit_7 : decode cX1_isDigit 7 = .ok (.bipush 57, 2) := by decide +kernel
theorem dX1_isDigit_9 : decode cX1_isDigit 9 = .ok (.if_icmp .gt 7, 3) := by decide +kernel
theorem dX1_isDigit_12 : decode cX1_isDigit 12 = .ok (.iconst 1, 1) := by decide +kernel
theorem dX1_isDigit_13 : decode cX1_isDigit 13 = .ok (.goto 4, 3) := by decide +kernel
theorem dX1_isDigit_16 : decode cX1_isDigit 16 = .ok (.iconst 0, 1) := by decide +kernel
theorem dX1_isDigit_17 : decode cX1_isDigit 17 = .ok (.ireturn, 1) := by decide +kernel
theorem dX1_isMark_0 : decode cX1_isMark 0 = .ok (.iload_n 0, 1) := by decide +kernel
theorem dX1_isMark_1 : decode cX1_isMark 1 = .ok (.bipush 46, 2) := by decide +kernel
theorem dX1_isMark_3 : decode cX1_isMark 3 = .ok (.if_icmp .eq 27, 3) := by decide +kernel
theorem dX1_isMark_6 : decode cX1_isMark 6 = .ok (.iload_n 0, 1) := by decide +kernel
theorem dX1_isMark_7 : decode cX1_isMark 7 = .ok (.bipush 44, 2) := by decide +kernel
theorem dX1_isMark_9 : decode cX1_isMark 9 = .ok (.if_icmp .eq 21, 3) := by decide +kernel
theorem dX1_isMark_12 : decode cX1_isMark 12 = .ok (.iload_n 0, 1) := by decide +kernel
theorem dX1_isMark_13 : decode cX1_isMark 13 = .ok (.bipush 59, 2) := by decide +kernel
theorem dX1_isMark_15 : decode cX1_isMark 15 = .ok (.if_icmp .eq 15, 3) := by decide +kernel
theorem dX1_isMark_18 : decode cX1_isMark 18 = .ok (.iload_n 0, 1) := by decide +kernel
theorem dX1_isMark_19 : decode cX1_isMark 19 = .ok (.bipush 33, 2) := by decide +kernel
theorem dX1_isMark_21 : decode cX1_isMark 21 = .ok (.if_icmp .eq 9, 3) := by decide +kernel
theorem dX1_isMark_24 : decode cX1_isMark 24 = .ok (.iload_n 0, 1) := by decide +kernel
