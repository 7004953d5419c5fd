theorem dX1_isMark_25 : decode cX1_isMark 25 = .ok (.bipush 63, 2) := by decide +kernel
theorem dX1_isMark_27 : decode cX1_isMark 27 = .ok (.if_icmp .ne 7, 3) := by decide +kernel
theorem dX1_isMark_30 : decode cX1_isMark 30 = .ok (.iconst 1, 1) := by decide +kernel
theorem dX1_isMark_31 : decode cX1_isMark 31 = .ok (.goto 4, 3) := by decide +kernel
theorem dX1_isMark_34 : decode cX1_isMark 34 = .ok (.iconst 0, 1) := by decide +kernel
theorem dX1_isMark_35 : decode cX1_isMark 35 = .ok (.ireturn, 1) := by decide +kernel
set_option maxRecDepth 20000 in
theorem ggX1_isOther_X1_isMark : GoodIn wsX1_isOther wsX1_isMark := goodIn_r _ [4] (by decide +kernel) (by decide +kernel)
set_option maxRecDepth 20000 in
theorem gX1_isOther_X1_isMark : GoodIn wsX1_isOther (va_wsS RX1 71 yX1_isMark wsX1_isMark) := goodIn_app (goodIn_of _ (by decide +kernel)) ggX1_isOther_X1_isMark
set_option maxRecDepth 20000 in
theorem ggX1_isOther_X1_isDigit : GoodIn wsX1_isOther wsX1_isDigit := goodIn_r _ [7] (by decide +kernel) (by decide +kernel)
set_option maxRecDepth 20000 in
theorem gX1_isOther_X1_isDigit : GoodIn wsX1_isOther (va_wsS RX1 62 yX1_isDigit wsX1_isDigit) := goodIn_app (goodIn_of _ (by decide +kernel)) ggX1_isOther_X1_isDigit
set_option maxRecDepth 20000 in
theorem ggX1_isOther_X3_isLetter : GoodIn wsX1_isOther wsX3_isLetter := goodIn_r _ [11, 12, 13, 10, 14, 15, 16, 17] (by decide +kernel) (by decide +kernel)
set_option maxRecDepth 20000 in
theorem gX1_isOther_X3_isLetter : GoodIn wsX1_isOther (va_wsS RX1 53 yX3_isLetter wsX3_isLetter) := goodIn_app (goodIn_of _ (by decide +kernel)) ggX1_isOther_X3_isLetter
theorem dX1_isOther_0 : decode cX1_isOther 0 = .ok (.iload_n 0, 1) := by decide +kernel
theorem dX1_isOther_1 : decode cX1_isOther 1 = .ok (.bipush 32, 2) := by decide +kernel
theorem dX1_isOther_3 : decode cX1_isOther 3 = .ok (.if_icmp .eq 34, 3) := by decide +kernel
theorem dX1_isOther_6 : decode cX1_isOther 6 = .ok (.iload_n 0, 1) := by decide +kernel
theorem dX1_isOther_7 : decode cX1_isOther 7 = .ok (.bipush 34, 2) := by decide +kernel
theorem dX1_isOther_9 : decode cX1_isOther 9 = .ok (.if_icmp .eq 28, 3) := by decide +kernel
theorem dX1_isOther_12 : decode cX1_isOther 12 = .ok (.iload_n 0, 1) := by decide +kernel
theorem dX1_isOther_13 : decode cX1_isOther 13 = .ok (.invokestatic 71, 3) := by decide +kernel
theorem dX1_isOther_16 : decode cX1_isOther 16 = .ok (.ifCond .ne 21, 3) := by decide +kernel
theorem dX1_isOther_19 : decode cX1_isOther 19 = .ok (.iload_n 0, 1) := by decide +kernel
theorem dX1_isOther_20 : decode cX1_isOther 20 = .ok (.invokestatic 62, 3) := by decide +kernel
theorem dX1_isOther_23 : decode cX1_isOther 23 = .ok (.ifCond .ne 14, 3) := by decide +kernel
theorem dX1_isOther_26 : decode cX1_isOther 26 = .ok (.iload_n 0, 1) := by decide +kernel
theorem dX1_isOther_27 : decode cX1_isOther 27 = .ok (.invokestatic 53, 3) := by decide +kernel
theorem dX1_isOther_30 : decode cX1_isOther 30 = .ok (.ifCond .ne 7, 3) := by decide +kernel
theorem dX1_isOther_33 : decode cX1_isOther 33 = .ok (.iconst 1, 1) := by decide +kernel
theorem dX1_isOther_34 : decode cX1_isOther 34 = .ok (.goto 4, 3) := by decide +kernel
theorem dX1_isOther_37 : decode cX1_isOther 37 = .ok (.iconst 0, 1) := by decide +kernel
theorem dX1_isOther_38 : decode cX1_isOther 38 = .ok (.ireturn, 1) := by decide +kernel
set_option maxRecDepth 20000 in
theorem ggX2_init_X4_init : GoodIn wsX2_init wsX4_init := goodIn_r _ [13, 14, 2, 3, 15, 16, 17, 18, 19, 20, 38, 39] (by decide +kernel) (by decide +kernel)
set_option maxRecDepth 20000 in
theorem gX2_init_X4_init : GoodIn wsX2_init (wsX4_init) := ggX2_init_X4_init
set_option maxRecDepth 20000 in
theorem ggX2_init_X4_copyFrom : GoodIn wsX2_init wsX4_copyFrom := goodIn_r _ [24, 25, 26, 27, 28, 6, 29, 30, 31, 32, 33, 20, 34, 35, 36, 37, 38, 39] (by decide +kernel) (by decide +kernel)
set_option maxRecDepth 20000 in
theorem gX2_init_X4_copyFrom : GoodIn wsX2_init (wsV RX2 22 RX4 yX4_copyFrom wsX4_copyFrom) := goodIn_app (goodIn_of _ (by decide +kernel)) ggX2_init_X4_copyFrom
theorem dX2_init_0 : decode cX2_init 0 = .ok (.aload_n 0, 1) := by decide +kernel
theorem dX2_init_1 : decode cX2_init 1 = .ok (.invokespecial 1, 3) := by decide +kernel
theorem dX2_init_4 : decode cX2_init 4 = .ok (.aload_n 0, 1) := by decide +kernel
theorem dX2_init_5 : decode cX2_init 5 = .ok (.new 7, 3) := by decide +kernel
theorem dX2_init_8 : decode cX2_init 8 = .ok (.dup, 1) := by decide +kernel
theorem dX2_init_9 : decode cX2_init 9 = .ok (.aload_n 1, 1) := by decide +kernel
theorem dX2_init_10 : decode cX2_init 10 = .ok (.getfield 9, 3) := by decide +kernel
theorem dX2_init_13 : decode cX2_init 13 = .ok (.invokespecial 13, 3) := by decide +kernel
theorem dX2_init_16 : decode cX2_init 16 = .ok (.putfield 16, 3) := by decide +kernel
theorem dX2_init_19 : decode cX2_init 19 = .ok (.aload_n 0, 1) := by decide +kernel
theorem dX2_init_20 : decode cX2_init 20 = .ok (.getfield 16, 3) := by decide +kernel
theorem dX2_init_23 : decode cX2_init 23 = .ok (.aload_n 1, 1) := by decide +kernel
theorem dX2_init_24 : decode cX2_init 24 = .ok (.invokevirtual 22, 3) := by decide +kernel
theorem dX2_init_27 : decode cX2_init 27 = .ok (.aload_n 0, 1) := by decide +kernel
theorem dX2_init_28 : decode cX2_init 28 = .ok (.iload_n 2, 1) := by decide +kernel
theorem dX2_init_29 : decode cX2_init 29 = .ok (.putfield 26, 3) := by decide +kernel
theorem dX2_init_32 : decode cX2_init 32 = .ok (.aload_n 0, 1) := by decide +kernel
theorem dX2_init_33 : decode cX2_init 33 = .ok (.iload_n 3, 1) := by decide +kernel
theorem dX2_init_34 : decode cX2_init 34 = .ok (.putfield 29, 3) := by decide +kernel
theorem dX2_init_37 : decode cX2_init 37 = .ok (.return_, 1) := by decide +kernel
theorem dX3_init_0 : decode cX3_init 0 = .ok (.aload_n 0, 1) := by decide +kernel
theorem dX3_init_1 : decode cX3_init 1 = .ok (.invokespecial 1, 3) := by decide +kernel
theorem dX3_init_4 : decode cX3_init 4 = .ok (.aload_n 0, 1) := by decide +kernel
theorem dX3_init_5 : decode cX3_init 5 = .ok (.iload_n 1, 1) := by decide +kernel
theorem dX3_init_6 : decode cX3_init 6 = .ok (.putfield 7, 3) := by decide +kernel
theorem dX3_init_9 : decode cX3_init 9 = .ok (.aload_n 0, 1) := by decide +kernel
theorem dX3_init_10 : decode cX3_init 10 = .ok (.bipush 32, 2) := by decide +kernel
theorem dX3_init_12 : decode cX3_init 12 = .ok (.newarray .int, 2) := by decide +kernel
theorem dX3_init_14 : decode cX3_init 14 = .ok (.putfield 13, 3) := by decide +kernel
theorem dX3_init_17 : decode cX3_init 17 = .ok (.iconst 0, 1) := by decide +kernel
theorem dX3_init_18 : decode cX3_init 18 = .ok (.istore_n 2, 1) := by decide +kernel
theorem dX3_init_19 : decode cX3_init 19 = .ok (.iload_n 2, 1) := by decide +kernel
theorem dX3_init_20 : decode cX3_init 20 = .ok (.aload_n 0, 1) := by decide +kernel
theorem dX3_init_21 : decode cX3_init 21 = .ok (.getfield 13, 3) := by decide +kernel
theorem dX3_init_24 : decode cX3_init 24 = .ok (.arraylength, 1) := by decide +kernel
theorem dX3_init_25 : decode cX3_init 25 = .ok (.if_icmp .ge 20, 3) := by decide +kernel
theorem dX3_init_28 : decode cX3_init 28 = .ok (.aload_n 0, 1) := by decide +kernel
theorem dX3_init_29 : decode cX3_init 29 = .ok (.getfield 13, 3) := by decide +kernel
theorem dX3_init_32 : decode cX3_init 32 = .ok (.iload_n 2, 1) := by decide +kernel
theorem dX3_init_33 : decode cX3_init 33 = .ok (.sipush 128, 3) := by decide +kernel
theorem dX3_init_36 : decode cX3_init 36 = .ok (.iload_n 2, 1) := by decide +kernel
theorem dX3_init_37 : decode cX3_init 37 = .ok (.iadd, 1) := by decide +kernel
theorem dX3_init_38 : decode cX3_init 38 = .ok (.iastore, 1) := by decide +kernel
theorem dX3_init_39 : decode cX3_init 39 = .ok (.iinc 2 1, 3) := by decide +kernel
theorem dX3_init_42 : decode cX3_init 42 = .ok (.goto (-23), 3) := by decide +kernel
theorem dX3_init_45 : decode cX3_init 45 = .ok (.return_, 1) := by decide +kernel
theorem dX3_isSmall_0 : decode cX3_isSmall 0 = .ok (.iload_n 0, 1) := by decide +kernel
theorem dX3_isSmall_1 : decode cX3_isSmall 1 = .ok (.bipush 97, 2) := by decide +kernel
theorem dX3_isSmall_3 : decode cX3_isSmall 3 = .ok (.if_icmp .lt 13, 3) := by decide +kernel
theorem dX3_isSmall_6 : decode cX3_isSmall 6 = .ok (.iload_n 0, 1) := by decide +kernel
theorem dX3_isSmall_7 : decode cX3_isSmall 7 = .ok (.bipush 122, 2) := by decide +kernel
theorem dX3_isSmall_9 : decode cX3_isSmall 9 = .ok (.if_icmp .gt 7, 3) := by decide +kernel
theorem dX3_isSmall_12 : decode cX3_isSmall 12 = .ok (.iconst 1, 1) := by decide +kernel
theorem dX3_isSmall_13 : decode cX3_isSmall 13 = .ok (.goto 4, 3) := by decide +kernel
theorem dX3_isSmall_16 : decode cX3_isSmall 16 = .ok (.iconst 0, 1) := by decide +kernel
theorem dX3_isSmall_17 : decode cX3_isSmall 17 = .ok (.ireturn, 1) := by decide +kernel
theorem dX3_isFoldable_0 : decode cX3_isFoldable 0 = .ok (.iload_n 0, 1) := by decide +kernel
theorem dX3_isFoldable_1 : decode cX3_isFoldable 1 = .ok (.sipush 128, 3) := by decide +kernel
theorem dX3_isFoldable_4 : decode cX3_isFoldable 4 = .ok (.if_icmp .lt 14, 3) := by decide +kernel
theorem dX3_isFoldable_7 : decode cX3_isFoldable 7 = .ok (.iload_n 0, 1) := by decide +kernel
theorem dX3_isFoldable_8 : decode cX3_isFoldable 8 = .ok (.sipush 159, 3) := by decide +kernel
theorem dX3_isFoldable_11 : decode cX3_isFoldable 11 = .ok (.if_icmp .gt 7, 3) := by decide +kernel
theorem dX3_isFoldable_14 : decode cX3_isFoldable 14 = .ok (.iconst 1, 1) := by decide +kernel
theorem dX3_isFoldable_15 : decode cX3_isFoldable 15 = .ok (.goto 4, 3) := by decide +kernel
theorem dX3_isFoldable_18 : decode cX3_isFoldable 18 = .ok (.iconst 0, 1) := by decide +kernel
theorem dX3_isFoldable_19 : decode cX3_isFoldable 19 = .ok (.ireturn, 1) := by decide +kernel
set_option maxRecDepth 20000 in
theorem ggX3_isLetter_X3_isSmall : GoodIn wsX3_isLetter wsX3_isSmall := goodIn_r _ [4] (by decide +kernel) (by decide +kernel)
set_option maxRecDepth 20000 in
theorem gX3_isLetter_X3_isSmall : GoodIn wsX3_isLetter (va_wsS RX3 17 yX3_isSmall wsX3_isSmall) := goodIn_app (goodIn_of _ (by decide +kernel)) ggX3_isLetter_X3_isSmall
set_option maxRecDepth 20000 in
theorem ggX3_isLetter_X3_isFoldable : GoodIn wsX3_isLetter wsX3_isFoldable := goodIn_r _ [7] (by decide +kernel) (by decide +kernel)
set_option maxRecDepth 20000 in
theorem gX3_isLetter_X3_isFoldable : GoodIn wsX3_isLetter (va_wsS RX3 21 yX3_isFoldable wsX3_isFoldable) := goodIn_app (goodIn_of _ (by decide +kernel)) ggX3_isLetter_X3_isFoldable
theorem dX3_isLetter_0 : decode cX3_isLetter 0 = .ok (.iload_n 0, 1) := by decide +kernel
theorem dX3_isLetter_1 : decode cX3_isLetter 1 = .ok (.bipush 65, 2) := by decide +kernel
theorem dX3_isLetter_3 : decode cX3_isLetter 3 = .ok (.if_icmp .lt 9, 3) := by decide +kernel
theorem dX3_isLetter_6 : decode cX3_isLetter 6 = .ok (.iload_n 0, 1) := by decide +kernel
theorem dX3_isLetter_7 : decode cX3_isLetter 7 = .ok (.bipush 90, 2) := by decide +kernel
theorem dX3_isLetter_9 : decode cX3_isLetter 9 = .ok (.if_icmp .le 17, 3) := by decide +kernel
theorem dX3_isLetter_12 : decode cX3_isLetter 12 = .ok (.iload_n 0, 1) := by decide +kernel
theorem dX3_isLetter_13 : decode cX3_isLetter 13 = .ok (.invokestatic 17, 3) := by decide +kernel
theorem dX3_isLetter_16 : decode cX3_isLetter 16 = .ok (.ifCond .ne 10, 3) := by decide +kernel
theorem dX3_isLetter_19 : decode cX3_isLetter 19 = .ok (.iload_n 0, 1) := by decide +kernel
theorem dX3_isLetter_20 : decode cX3_isLetter 20 = .ok (.invokestatic 21, 3) := by decide +kernel
theorem dX3_isLetter_23 : decode cX3_isLetter 23 = .ok (.ifCond .eq 7, 3) := by decide +kernel
theorem dX3_isLetter_26 : decode cX3_isLetter 26 = .ok (.iconst 1, 1) := by decide +kernel
theorem dX3_isLetter_27 : decode cX3_isLetter 27 = .ok (.goto 4, 3) := by decide +kernel
theorem dX3_isLetter_30 : decode cX3_isLetter 30 = .ok (.iconst 0, 1) := by decide +kernel
theorem dX3_isLetter_31 : decode cX3_isLetter 31 = .ok (.ireturn, 1) := by decide +kernel
theorem dX3_folded_0 : decode cX3_folded 0 = .ok (.iload_n 1, 1) := by decide +kernel
theorem dX3_folded_1 : decode cX3_folded 1 = .ok (.sipush 128, 3) := by decide +kernel
theorem dX3_folded_4 : decode cX3_folded 4 = .ok (.isub, 1) := by decide +kernel
theorem dX3_folded_5 : decode cX3_folded 5 = .ok (.istore_n 2, 1) := by decide +kernel
theorem dX3_folded_6 : decode cX3_folded 6 = .ok (.iload_n 2, 1) := by decide +kernel
theorem dX3_folded_7 : decode cX3_folded 7 = .ok (.ifCond .lt 19, 3) := by decide +kernel
theorem dX3_folded_10 : decode cX3_folded 10 = .ok (.iload_n 2, 1) := by decide +kernel
theorem dX3_folded_11 : decode cX3_folded 11 = .ok (.aload_n 0, 1) := by decide +kernel
theorem dX3_folded_12 : decode cX3_folded 12 = .ok (.getfield 13, 3) := by decide +kernel
theorem dX3_folded_15 : decode cX3_folded 15 = .ok (.arraylength, 1) := by decide +kernel
theorem dX3_folded_16 : decode cX3_folded 16 = .ok (.if_icmp .ge 10, 3) := by decide +kernel
theorem dX3_folded_19 : decode cX3_folded 19 = .ok (.aload_n 0, 1) := by decide +kernel
theorem dX3_folded_20 : decode cX3_folded 20 = .ok (.getfield 13, 3) := by decide +kernel
theorem dX3_folded_23 : decode cX3_folded 23 = .ok (.iload_n 2, 1) := by decide +kernel
theorem dX3_folded_24 : decode cX3_folded 24 = .ok (.iaload, 1) := by decide +kernel
theorem dX3_folded_25 : decode cX3_folded 25 = .ok (.ireturn, 1) := by decide +kernel
theorem dX3_folded_26 : decode cX3_folded 26 = .ok (.iload_n 1, 1) := by decide +kernel
theorem dX3_folded_27 : decode cX3_folded 27 = .ok (.bipush 65, 2) := by decide +kernel
theorem dX3_folded_29 : decode cX3_folded 29 = .ok (.if_icmp .lt 19, 3) := by decide +kernel
theorem dX3_folded_32 : decode cX3_folded 32 = .ok (.iload_n 1, 1) := by decide +kernel
theorem dX3_folded_33 : decode cX3_folded 33 = .ok (.bipush 90, 2) := by decide +kernel
theorem dX3_folded_35 : decode cX3_folded 35 = .ok (.if_icmp .gt 13, 3) := by decide +kernel
theorem dX3_folded_38 : decode cX3_folded 38 = .ok (.iload_n 1, 1) := by decide +kernel
theorem dX3_folded_39 : decode cX3_folded 39 = .ok (.bipush 65, 2) := by decide +kernel
theorem dX3_folded_41 : decode cX3_folded 41 = .ok (.isub, 1) := by decide +kernel
theorem dX3_folded_42 : decode cX3_folded 42 = .ok (.bipush 97, 2) := by decide +kernel
theorem dX3_folded_44 : decode cX3_folded 44 = .ok (.iadd, 1) := by decide +kernel
theorem dX3_folded_45 : decode cX3_folded 45 = .ok (.goto 4, 3) := by decide +kernel
theorem dX3_folded_48 : decode cX3_folded 48 = .ok (.iload_n 1, 1) := by decide +kernel
theorem dX3_folded_49 : decode cX3_folded 49 = .ok (.ireturn, 1) := by decide +kernel
theorem dX3_changeFold_0 : decode cX3_changeFold 0 = .ok (.iload_n 1, 1) := by decide +kernel
theorem dX3_changeFold_1 : decode cX3_changeFold 1 = .ok (.sipush 128, 3) := by decide +kernel
theorem dX3_changeFold_4 : decode cX3_changeFold 4 = .ok (.isub, 1) := by decide +kernel
theorem dX3_changeFold_5 : decode cX3_changeFold 5 = .ok (.istore_n 3, 1) := by decide +kernel
theorem dX3_changeFold_6 : decode cX3_changeFold 6 = .ok (.iload_n 3, 1) := by decide +kernel
theorem dX3_changeFold_7 : decode cX3_changeFold 7 = .ok (.ifCond .lt 19, 3) := by decide +kernel
theorem dX3_changeFold_10 : decode cX3_changeFold 10 = .ok (.iload_n 3, 1) := by decide +kernel
theorem dX3_changeFold_11 : decode cX3_changeFold 11 = .ok (.aload_n 0, 1) := by decide +kernel
theorem dX3_changeFold_12 : decode cX3_changeFold 12 = .ok (.getfield 13, 3) := by decide +kernel
theorem dX3_changeFold_15 : decode cX3_changeFold 15 = .ok (.arraylength, 1) := by decide +kernel
theorem dX3_changeFold_16 : decode cX3_changeFold 16 = .ok (.if_icmp .ge 10, 3) := by decide +kernel
theorem dX3_changeFold_19 : decode cX3_changeFold 19 = .ok (.aload_n 0, 1) := by decide +kernel
theorem dX3_changeFold_20 : decode cX3_changeFold 20 = .ok (.getfield 13, 3) := by decide +kernel
theorem dX3_changeFold_23 : decode cX3_changeFold 23 = .ok (.iload_n 3, 1) := by decide +kernel
theorem dX3_changeFold_24 : decode cX3_changeFold 24 = .ok (.iload_n 2, 1) := by decide +kernel
theorem dX3_changeFold_25 : decode cX3_changeFold 25 = .ok (.iastore, 1) := by decide +kernel
theorem dX3_changeFold_26 : decode cX3_changeFold 26 = .ok (.return_, 1) := by decide +kernel
set_option maxRecDepth 20000 in
theorem ggX3_areLike_X4_byteAt : GoodIn wsX3_areLike wsX4_byteAt := goodIn_r _ [11, 12, 13, 20, 21] (by decide +kernel) (by decide +kernel)
set_option maxRecDepth 20000 in
theorem gX3_areLike_X4_byteAt : GoodIn wsX3_areLike (wsV RX3 35 RX4 yX4_byteAt wsX4_byteAt) := goodIn_app (goodIn_of _ (by decide +kernel)) ggX3_areLike_X4_byteAt
set_option maxRecDepth 20000 in
theorem ggX3_areLike_X3_folded : GoodIn wsX3_areLike wsX3_folded := goodIn_r _ [18, 19, 22, 23] (by decide +kernel) (by decide +kernel)
set_option maxRecDepth 20000 in
theorem gX3_areLike_X3_folded : GoodIn wsX3_areLike (wsV RX3 39 RX3 yX3_folded wsX3_folded) := goodIn_app (goodIn_of _ (by decide +kernel)) ggX3_areLike_X3_folded
theorem dX3_areLike_0 : decode cX3_areLike 0 = .ok (.aload_n 1, 1) := by decide +kernel
theorem dX3_areLike_1 : decode cX3_areLike 1 = .ok (.getfield 24, 3) := by decide +kernel
theorem dX3_areLike_4 : decode cX3_areLike 4 = .ok (.aload_n 0, 1) := by decide +kernel
theorem dX3_areLike_5 : decode cX3_areLike 5 = .ok (.getfield 7, 3) := by decide +kernel
theorem dX3_areLike_8 : decode cX3_areLike 8 = .ok (.invokestatic 29, 3) := by decide +kernel
theorem dX3_areLike_11 : decode cX3_areLike 11 = .ok (.istore 5, 2) := by decide +kernel
theorem dX3_areLike_13 : decode cX3_areLike 13 = .ok (.iload 5, 2) := by decide +kernel
theorem dX3_areLike_15 : decode cX3_areLike 15 = .ok (.iload 4, 2) := by decide +kernel
theorem dX3_areLike_17 : decode cX3_areLike 17 = .ok (.aload_n 0, 1) := by decide +kernel
theorem dX3_areLike_18 : decode cX3_areLike 18 = .ok (.getfield 7, 3) := by decide +kernel
theorem dX3_areLike_21 : decode cX3_areLike 21 = .ok (.invokestatic 29, 3) := by decide +kernel
theorem dX3_areLike_24 : decode cX3_areLike 24 = .ok (.if_icmp .eq 5, 3) := by decide +kernel
theorem dX3_areLike_27 : decode cX3_areLike 27 = .ok (.iconst 0, 1) := by decide +kernel
theorem dX3_areLike_28 : decode cX3_areLike 28 = .ok (.ireturn, 1) := by decide +kernel
theorem dX3_areLike_29 : decode cX3_areLike 29 = .ok (.iconst 0, 1) := by decide +kernel
theorem dX3_areLike_30 : decode cX3_areLike 30 = .ok (.istore 6, 2) := by decide +kernel
theorem dX3_areLike_32 : decode cX3_areLike 32 = .ok (.iload 6, 2) := by decide +kernel
theorem dX3_areLike_34 : decode cX3_areLike 34 = .ok (.iload 5, 2) := by decide +kernel
theorem dX3_areLike_36 : decode cX3_areLike 36 = .ok (.if_icmp .ge 36, 3) := by decide +kernel
theorem dX3_areLike_39 : decode cX3_areLike 39 = .ok (.aload_n 0, 1) := by decide +kernel
theorem dX3_areLike_40 : decode cX3_areLike 40 = .ok (.aload_n 1, 1) := by decide +kernel
theorem dX3_areLike_41 : decode cX3_areLike 41 = .ok (.iload 6, 2) := by decide +kernel
theorem dX3_areLike_43 : decode cX3_areLike 43 = .ok (.invokevirtual 35, 3) := by decide +kernel
theorem dX3_areLike_46 : decode cX3_areLike 46 = .ok (.invokevirtual 39, 3) := by decide +kernel
theorem dX3_areLike_49 : decode cX3_areLike 49 = .ok (.aload_n 0, 1) := by decide +kernel
theorem dX3_areLike_50 : decode cX3_areLike 50 = .ok (.aload_n 2, 1) := by decide +kernel
theorem dX3_areLike_51 : decode cX3_areLike 51 = .ok (.iload_n 3, 1) := by decide +kernel
theorem dX3_areLike_52 : decode cX3_areLike 52 = .ok (.iload 6, 2) := by decide +kernel
theorem dX3_areLike_54 : decode cX3_areLike 54 = .ok (.iadd, 1) := by decide +kernel
theorem dX3_areLike_55 : decode cX3_areLike 55 = .ok (.invokevirtual 35, 3) := by decide +kernel
theorem dX3_areLike_58 : decode cX3_areLike 58 = .ok (.invokevirtual 39, 3) := by decide +kernel
theorem dX3_areLike_61 : decode cX3_areLike 61 = .ok (.if_icmp .eq 5, 3) := by decide +kernel
theorem dX3_areLike_64 : decode cX3_areLike 64 = .ok (.iconst 0, 1) := by decide +kernel
theorem dX3_areLike_65 : decode cX3_areLike 65 = .ok (.ireturn, 1) := by decide +kernel
theorem dX3_areLike_66 : decode cX3_areLike 66 = .ok (.iinc 6 1, 3) := by decide +kernel
theorem dX3_areLike_69 : decode cX3_areLike 69 = .ok (.goto (-37), 3) := by decide +kernel
theorem dX3_areLike_72 : decode cX3_areLike 72 = .ok (.iconst 1, 1) := by decide +kernel
theorem dX3_areLike_73 : decode cX3_areLike 73 = .ok (.ireturn, 1) := by decide +kernel
theorem dX4_init_0 : decode cX4_init 0 = .ok (.aload_n 0, 1) := by decide +kernel
theorem dX4_init_1 : decode cX4_init 1 = .ok (.invokespecial 3, 3) := by decide +kernel
theorem dX4_init_4 : decode cX4_init 4 = .ok (.aload_n 0, 1) := by decide +kernel
theorem dX4_init_5 : decode cX4_init 5 = .ok (.iconst 0, 1) := by decide +kernel
theorem dX4_init_6 : decode cX4_init 6 = .ok (.iload_n 1, 1) := by decide +kernel
theorem dX4_init_7 : decode cX4_init 7 = .ok (.invokestatic 9, 3) := by decide +kernel
theorem dX4_init_10 : decode cX4_init 10 = .ok (.newarray .int, 2) := by decide +kernel
theorem dX4_init_12 : decode cX4_init 12 = .ok (.putfield 15, 3) := by decide +kernel
theorem dX4_init_15 : decode cX4_init 15 = .ok (.return_, 1) := by decide +kernel
theorem dX4_isFull_0 : decode cX4_isFull 0 = .ok (.aload_n 0, 1) := by decide +kernel
theorem dX4_isFull_1 : decode cX4_isFull 1 = .ok (.getfield 21, 3) := by decide +kernel
theorem dX4_isFull_4 : decode cX4_isFull 4 = .ok (.aload_n 0, 1) := by decide +kernel
theorem dX4_isFull_5 : decode cX4_isFull 5 = .ok (.getfield 15, 3) := by decide +kernel
theorem dX4_isFull_8 : decode cX4_isFull 8 = .ok (.arraylength, 1) := by decide +kernel
theorem dX4_isFull_9 : decode cX4_isFull 9 = .ok (.if_icmp .lt 7, 3) := by decide +kernel
theorem dX4_isFull_12 : decode cX4_isFull 12 = .ok (.iconst 1, 1) := by decide +kernel
theorem dX4_isFull_13 : decode cX4_isFull 13 = .ok (.goto 4, 3) := by decide +kernel
theorem dX4_isFull_16 : decode cX4_isFull 16 = .ok (.iconst 0, 1) := by decide +kernel
theorem dX4_isFull_17 : decode cX4_isFull 17 = .ok (.ireturn, 1) := by decide +kernel
theorem dX4_put_0 : decode cX4_put 0 = .ok (.aload_n 0, 1) := by decide +kernel
theorem dX4_put_1 : decode cX4_put 1 = .ok (.getfield 21, 3) := by decide +kernel
theorem dX4_put_4 : decode cX4_put 4 = .ok (.ifCond .lt 35, 3) := by decide +kernel
theorem dX4_put_7 : decode cX4_put 7 = .ok (.aload_n 0, 1) := by decide +kernel
theorem dX4_put_8 : decode cX4_put 8 = .ok (.getfield 21, 3) := by decide +kernel
theorem dX4_put_11 : decode cX4_put 11 = .ok (.aload_n 0, 1) := by decide +kernel
theorem dX4_put_12 : decode cX4_put 12 = .ok (.getfield 15, 3) := by decide +kernel
theorem dX4_put_15 : decode cX4_put 15 = .ok (.arraylength, 1) := by decide +kernel
theorem dX4_put_16 : decode cX4_put 16 = .ok (.if_icmp .ge 23, 3) := by decide +kernel
theorem dX4_put_19 : decode cX4_put 19 = .ok (.aload_n 0, 1) := by decide +kernel
theorem dX4_put_20 : decode cX4_put 20 = .ok (.getfield 15, 3) := by decide +kernel
theorem dX4_put_23 : decode cX4_put 23 = .ok (.aload_n 0, 1) := by decide +kernel
theorem dX4_put_24 : decode cX4_put 24 = .ok (.getfield 21, 3) := by decide +kernel
theorem dX4_put_27 : decode cX4_put 27 = .ok (.iload_n 1, 1) := by decide +kernel
theorem dX4_put_28 : decode cX4_put 28 = .ok (.iastore, 1) := by decide +kernel
theorem dX4_put_29 : decode cX4_put 29 = .ok (.aload_n 0, 1) := by decide +kernel
theorem dX4_put_30 : decode cX4_put 30 = .ok (.dup, 1) := by decide +kernel
theorem dX4_put_31 : decode cX4_put 31 = .ok (.getfield 21, 3) := by decide +kernel
theorem dX4_put_34 : decode cX4_put 34 = .ok (.iconst 1, 1) := by decide +kernel
theorem dX4_put_35 : decode cX4_put 35 = .ok (.iadd, 1) := by decide +kernel
theorem dX4_put_36 : decode cX4_put 36 = .ok (.putfield 21, 3) := by decide +kernel
theorem dX4_put_39 : decode cX4_put 39 = .ok (.return_, 1) := by decide +kernel
theorem dX4_byteAt_0 : decode cX4_byteAt 0 = .ok (.iload_n 1, 1) := by decide +kernel
theorem dX4_byteAt_1 : decode cX4_byteAt 1 = .ok (.ifCond .lt 29, 3) := by decide +kernel
theorem dX4_byteAt_4 : decode cX4_byteAt 4 = .ok (.iload_n 1, 1) := by decide +kernel
theorem dX4_byteAt_5 : decode cX4_byteAt 5 = .ok (.aload_n 0, 1) := by decide +kernel
theorem dX4_byteAt_6 : decode cX4_byteAt 6 = .ok (.getfield 21, 3) := by decide +kernel
theorem dX4_byteAt_9 : decode cX4_byteAt 9 = .ok (.if_icmp .ge 21, 3) := by decide +kernel
theorem dX4_byteAt_12 : decode cX4_byteAt 12 = .ok (.iload_n 1, 1) := by decide +kernel
theorem dX4_byteAt_13 : decode cX4_byteAt 13 = .ok (.aload_n 0, 1) := by decide +kernel
theorem dX4_byteAt_14 : decode cX4_byteAt 14 = .ok (.getfield 15, 3) := by decide +kernel
theorem dX4_byteAt_17 : decode cX4_byteAt 17 = .ok (.arraylength, 1) := by decide +kernel
theorem dX4_byteAt_18 : decode cX4_byteAt 18 = .ok (.if_icmp .ge 12, 3) := by decide +kernel
theorem dX4_byteAt_21 : decode cX4_byteAt 21 = .ok (.aload_n 0, 1) := by decide +kernel
theorem dX4_byteAt_22 : decode cX4_byteAt 22 = .ok (.getfield 15, 3) := by decide +kernel
theorem dX4_byteAt_25 : decode cX4_byteAt 25 = .ok (.iload_n 1, 1) := by decide +kernel
theorem dX4_byteAt_26 : decode cX4_byteAt 26 = .ok (.iaload, 1) := by decide +kernel
theorem dX4_byteAt_27 : decode cX4_byteAt 27 = .ok (.goto 4, 3) := by decide +kernel
theorem dX4_byteAt_30 : decode cX4_byteAt 30 = .ok (.iconst (-1), 1) := by decide +kernel
theorem dX4_byteAt_31 : decode cX4_byteAt 31 = .ok (.ireturn, 1) := by decide +kernel
theorem dX4_clear_0 : decode cX4_clear 0 = .ok (.aload_n 0, 1) := by decide +kernel
theorem dX4_clear_1 : decode cX4_clear 1 = .ok (.iconst 0, 1) := by decide +kernel
theorem dX4_clear_2 : decode cX4_clear 2 = .ok (.putfield 21, 3) := by decide +kernel
theorem dX4_clear_5 : decode cX4_clear 5 = .ok (.return_, 1) := by decide +kernel
set_option maxRecDepth 20000 in
theorem ggX4_copyFrom_X4_clear : GoodIn wsX4_copyFrom wsX4_clear := goodIn_r _ [6, 1, 16, 17] (by decide +kernel) (by decide +kernel)
set_option maxRecDepth 20000 in
theorem gX4_copyFrom_X4_clear : GoodIn wsX4_copyFrom (wsV RX4 25 RX4 yX4_clear wsX4_clear) := goodIn_app (goodIn_of _ (by decide +kernel)) ggX4_copyFrom_X4_clear
set_option maxRecDepth 20000 in
theorem ggX4_copyFrom_X4_byteAt : GoodIn wsX4_copyFrom wsX4_byteAt := goodIn_r _ [10, 1, 11, 16, 17] (by decide +kernel) (by decide +kernel)
set_option maxRecDepth 20000 in
theorem gX4_copyFrom_X4_byteAt : GoodIn wsX4_copyFrom (wsV RX4 28 RX4 yX4_byteAt wsX4_byteAt) := goodIn_app (goodIn_of _ (by decide +kernel)) ggX4_copyFrom_X4_byteAt
set_option maxRecDepth 20000 in
theorem ggX4_copyFrom_X4_put : GoodIn wsX4_copyFrom wsX4_put := goodIn_r _ [15, 1, 11, 16, 17] (by decide +kernel) (by decide +kernel)
set_option maxRecDepth 20000 in
theorem gX4_copyFrom_X4_put : GoodIn wsX4_copyFrom (wsV RX4 32 RX4 yX4_put wsX4_put) := goodIn_app (goodIn_of _ (by decide +kernel)) ggX4_copyFrom_X4_put
theorem dX4_copyFrom_0 : decode cX4_copyFrom 0 = .ok (.aload_n 0, 1) := by decide +kernel
theorem dX4_copyFrom_1 : decode cX4_copyFrom 1 = .ok (.invokevirtual 25, 3) := by decide +kernel
theorem dX4_copyFrom_4 : decode cX4_copyFrom 4 = .ok (.iconst 0, 1) := by decide +kernel
theorem dX4_copyFrom_5 : decode cX4_copyFrom 5 = .ok (.istore_n 2, 1) := by decide +kernel
theorem dX4_copyFrom_6 : decode cX4_copyFrom 6 = .ok (.iload_n 2, 1) := by decide +kernel
theorem dX4_copyFrom_7 : decode cX4_copyFrom 7 = .ok (.aload_n 1, 1) := by decide +kernel
theorem dX4_copyFrom_8 : decode cX4_copyFrom 8 = .ok (.getfield 21, 3) := by decide +kernel
theorem dX4_copyFrom_11 : decode cX4_copyFrom 11 = .ok (.if_icmp .ge 18, 3) := by decide +kernel
theorem dX4_copyFrom_14 : decode cX4_copyFrom 14 = .ok (.aload_n 0, 1) := by decide +kernel
theorem dX4_copyFrom_15 : decode cX4_copyFrom 15 = .ok (.aload_n 1, 1) := by decide +kernel
theorem dX4_copyFrom_16 : decode cX4_copyFrom 16 = .ok (.iload_n 2, 1) := by decide +kernel
theorem dX4_copyFrom_17 : decode cX4_copyFrom 17 = .ok (.invokevirtual 28, 3) := by decide +kernel
theorem dX4_copyFrom_20 : decode cX4_copyFrom 20 = .ok (.invokevirtual 32, 3) := by decide +kernel
theorem dX4_copyFrom_23 : decode cX4_copyFrom 23 = .ok (.iinc 2 1, 3) := by decide +kernel
theorem dX4_copyFrom_26 : decode cX4_copyFrom 26 = .ok (.goto (-20), 3) := by decide +kernel
theorem dX4_copyFrom_29 : decode cX4_copyFrom 29 = .ok (.return_, 1) := by decide +kernel
theorem dX5_init_0 : decode cX5_init 0 = .ok (.aload_n 0, 1) := by decide +kernel
theorem dX5_init_1 : decode cX5_init 1 = .ok (.invokespecial 1, 3) := by decide +kernel
theorem dX5_init_4 : decode cX5_init 4 = .ok (.return_, 1) := by decide +kernel
theorem dX5_clear_0 : decode cX5_clear 0 = .ok (.aload_n 0, 1) := by decide +kernel
theorem dX5_clear_1 : decode cX5_clear 1 = .ok (.iconst 0, 1) := by decide +kernel
theorem dX5_clear_2 : decode cX5_clear 2 = .ok (.putfield 7, 3) := by decide +kernel
theorem dX5_clear_5 : decode cX5_clear 5 = .ok (.aload_n 0, 1) := by decide +kernel
theorem dX5_clear_6 : decode cX5_clear 6 = .ok (.iconst 0, 1) := by decide +kernel
theorem dX5_clear_7 : decode cX5_clear 7 = .ok (.putfield 13, 3) := by decide +kernel
theorem dX5_clear_10 : decode cX5_clear 10 = .ok (.aload_n 0, 1) := by decide +kernel
theorem dX5_clear_11 : decode cX5_clear 11 = .ok (.iconst 0, 1) := by decide +kernel
theorem dX5_clear_12 : decode cX5_clear 12 = .ok (.putfield 16, 3) := by decide +kernel
theorem dX5_clear_15 : decode cX5_clear 15 = .ok (.return_, 1) := by decide +kernel
theorem dX5_begin_0 : decode cX5_begin 0 = .ok (.aload_n 0, 1) := by decide +kernel
theorem dX5_begin_1 : decode cX5_begin 1 = .ok (.iconst 0, 1) := by decide +kernel
theorem dX5_begin_2 : decode cX5_begin 2 = .ok (.putfield 7, 3) := by decide +kernel
theorem dX5_begin_5 : decode cX5_begin 5 = .ok (.aload_n 0, 1) := by decide +kernel
theorem dX5_begin_6 : decode cX5_begin 6 = .ok (.iload_n 1, 1) := by decide +kernel
theorem dX5_begin_7 : decode cX5_begin 7 = .ok (.putfield 13, 3) := by decide +kernel
theorem dX5_begin_10 : decode cX5_begin 10 = .ok (.aload_n 0, 1) := by decide +kernel
theorem dX5_begin_11 : decode cX5_begin 11 = .ok (.iconst 1, 1) := by decide +kernel
theorem dX5_begin_12 : decode cX5_begin 12 = .ok (.putfield 16, 3) := by decide +kernel
theorem dX5_begin_15 : decode cX5_begin 15 = .ok (.return_, 1) := by decide +kernel
set_option maxRecDepth 20000 in
theorem ggX5_accept_X5_begin : GoodIn wsX5_accept wsX5_begin := goodIn_r _ [8, 3, 2, 1, 17, 18, 19] (by decide +kernel) (by decide +kernel)
set_option maxRecDepth 20000 in
theorem gX5_accept_X5_begin : GoodIn wsX5_accept (wsV RX5 19 RX5 yX5_begin wsX5_begin) := goodIn_app (goodIn_of _ (by decide +kernel)) ggX5_accept_X5_begin
set_option maxRecDepth 20000 in
theorem ggX5_accept_X5_fitsBelowHundred : GoodIn wsX5_accept wsX5_fitsBelowHundred := goodIn_r _ [12, 2, 3, 17, 18, 19] (by decide +kernel) (by decide +kernel)
set_option maxRecDepth 20000 in
theorem gX5_accept_X5_fitsBelowHundred : GoodIn wsX5_accept (wsV RX5 23 RX5 yX5_fitsBelowHundred wsX5_fitsBelowHundred) := goodIn_app (goodIn_of _ (by decide +kernel)) ggX5_accept_X5_fitsBelowHundred
set_option maxRecDepth 20000 in
theorem ggX5_accept_X5_fitsBelowTen : GoodIn wsX5_accept wsX5_fitsBelowTen := goodIn_r _ [16, 2, 17, 18, 19] (by decide +kernel) (by decide +kernel)
set_option maxRecDepth 20000 in
theorem gX5_accept_X5_fitsBelowTen : GoodIn wsX5_accept (wsV RX5 27 RX5 yX5_fitsBelowTen wsX5_fitsBelowTen) := goodIn_app (goodIn_of _ (by decide +kernel)) ggX5_accept_X5_fitsBelowTen
theorem dX5_accept_0 : decode cX5_accept 0 = .ok (.aload_n 0, 1) := by decide +kernel
theorem dX5_accept_1 : decode cX5_accept 1 = .ok (.getfield 16, 3) := by decide +kernel
theorem dX5_accept_4 : decode cX5_accept 4 = .ok (.ifCond .ne 10, 3) := by decide +kernel
theorem dX5_accept_7 : decode cX5_accept 7 = .ok (.aload_n 0, 1) := by decide +kernel
theorem dX5_accept_8 : decode cX5_accept 8 = .ok (.iload_n 1, 1) := by decide +kernel
theorem dX5_accept_9 : decode cX5_accept 9 = .ok (.invokevirtual 19, 3) := by decide +kernel
theorem dX5_accept_12 : decode cX5_accept 12 = .ok (.iconst 1, 1) := by decide +kernel
theorem dX5_accept_13 : decode cX5_accept 13 = .ok (.ireturn, 1) := by decide +kernel
theorem dX5_accept_14 : decode cX5_accept 14 = .ok (.iload_n 1, 1) := by decide +kernel
theorem dX5_accept_15 : decode cX5_accept 15 = .ok (.bipush 100, 2) := by decide +kernel
theorem dX5_accept_17 : decode cX5_accept 17 = .ok (.if_icmp .ne 34, 3) := by decide +kernel
theorem dX5_accept_20 : decode cX5_accept 20 = .ok (.aload_n 0, 1) := by decide +kernel
theorem dX5_accept_21 : decode cX5_accept 21 = .ok (.getfield 13, 3) := by decide +kernel
theorem dX5_accept_24 : decode cX5_accept 24 = .ok (.iconst 1, 1) := by decide +kernel
theorem dX5_accept_25 : decode cX5_accept 25 = .ok (.if_icmp .lt 26, 3) := by decide +kernel
theorem dX5_accept_28 : decode cX5_accept 28 = .ok (.aload_n 0, 1) := by decide +kernel
theorem dX5_accept_29 : decode cX5_accept 29 = .ok (.getfield 13, 3) := by decide +kernel
theorem dX5_accept_32 : decode cX5_accept 32 = .ok (.bipush 9, 2) := by decide +kernel
theorem dX5_accept_34 : decode cX5_accept 34 = .ok (.if_icmp .gt 17, 3) := by decide +kernel
theorem dX5_accept_37 : decode cX5_accept 37 = .ok (.aload_n 0, 1) := by decide +kernel
theorem dX5_accept_38 : decode cX5_accept 38 = .ok (.bipush 100, 2) := by decide +kernel
theorem dX5_accept_40 : decode cX5_accept 40 = .ok (.aload_n 0, 1) := by decide +kernel
theorem dX5_accept_41 : decode cX5_accept 41 = .ok (.getfield 13, 3) := by decide +kernel
theorem dX5_accept_44 : decode cX5_accept 44 = .ok (.imul, 1) := by decide +kernel
theorem dX5_accept_45 : decode cX5_accept 45 = .ok (.putfield 13, 3) := by decide +kernel
theorem dX5_accept_48 : decode cX5_accept 48 = .ok (.goto 86, 3) := by decide +kernel
theorem dX5_accept_51 : decode cX5_accept 51 = .ok (.iload_n 1, 1) := by decide +kernel
theorem dX5_accept_52 : decode cX5_accept 52 = .ok (.sipush 1000, 3) := by decide +kernel
theorem dX5_accept_55 : decode cX5_accept 55 = .ok (.if_icmp .ne 48, 3) := by decide +kernel
theorem dX5_accept_58 : decode cX5_accept 58 = .ok (.aload_n 0, 1) := by decide +kernel
theorem dX5_accept_59 : decode cX5_accept 59 = .ok (.getfield 13, 3) := by decide +kernel
theorem dX5_accept_62 : decode cX5_accept 62 = .ok (.iconst 1, 1) := by decide +kernel
theorem dX5_accept_63 : decode cX5_accept 63 = .ok (.if_icmp .lt 40, 3) := by decide +kernel
theorem dX5_accept_66 : decode cX5_accept 66 = .ok (.aload_n 0, 1) := by decide +kernel
theorem dX5_accept_67 : decode cX5_accept 67 = .ok (.getfield 13, 3) := by decide +kernel
theorem dX5_accept_70 : decode cX5_accept 70 = .ok (.sipush 999, 3) := by decide +kernel
theorem dX5_accept_73 : decode cX5_accept 73 = .ok (.if_icmp .gt 30, 3) := by decide +kernel
theorem dX5_accept_76 : decode cX5_accept 76 = .ok (.aload_n 0, 1) := by decide +kernel
theorem dX5_accept_77 : decode cX5_accept 77 = .ok (.getfield 7, 3) := by decide +kernel
theorem dX5_accept_80 : decode cX5_accept 80 = .ok (.ifCond .ne 23, 3) := by decide +kernel
theorem dX5_accept_83 : decode cX5_accept 83 = .ok (.aload_n 0, 1) := by decide +kernel
theorem dX5_accept_84 : decode cX5_accept 84 = .ok (.sipush 1000, 3) := by decide +kernel
theorem dX5_accept_87 : decode cX5_accept 87 = .ok (.aload_n 0, 1) := by decide +kernel
theorem dX5_accept_88 : decode cX5_accept 88 = .ok (.getfield 13, 3) := by decide +kernel
theorem dX5_accept_91 : decode cX5_accept 91 = .ok (.imul, 1) := by decide +kernel
theorem dX5_accept_92 : decode cX5_accept 92 = .ok (.putfield 7, 3) := by decide +kernel
theorem dX5_accept_95 : decode cX5_accept 95 = .ok (.aload_n 0, 1) := by decide +kernel
theorem dX5_accept_96 : decode cX5_accept 96 = .ok (.iconst 0, 1) := by decide +kernel
theorem dX5_accept_97 : decode cX5_accept 97 = .ok (.putfield 13, 3) := by decide +kernel
theorem dX5_accept_100 : decode cX5_accept 100 = .ok (.goto 34, 3) := by decide +kernel
theorem dX5_accept_103 : decode cX5_accept 103 = .ok (.aload_n 0, 1) := by decide +kernel
theorem dX5_accept_104 : decode cX5_accept 104 = .ok (.iload_n 1, 1) := by decide +kernel
theorem dX5_accept_105 : decode cX5_accept 105 = .ok (.invokevirtual 23, 3) := by decide +kernel
theorem dX5_accept_108 : decode cX5_accept 108 = .ok (.ifCond .ne 11, 3) := by decide +kernel
theorem dX5_accept_111 : decode cX5_accept 111 = .ok (.aload_n 0, 1) := by decide +kernel
theorem dX5_accept_112 : decode cX5_accept 112 = .ok (.iload_n 1, 1) := by decide +kernel
theorem dX5_accept_113 : decode cX5_accept 113 = .ok (.invokevirtual 27, 3) := by decide +kernel
theorem dX5_accept_116 : decode cX5_accept 116 = .ok (.ifCond .eq 16, 3) := by decide +kernel
theorem dX5_accept_119 : decode cX5_accept 119 = .ok (.aload_n 0, 1) := by decide +kernel
theorem dX5_accept_120 : decode cX5_accept 120 = .ok (.dup, 1) := by decide +kernel
theorem dX5_accept_121 : decode cX5_accept 121 = .ok (.getfield 13, 3) := by decide +kernel
theorem dX5_accept_124 : decode cX5_accept 124 = .ok (.iload_n 1, 1) := by decide +kernel
theorem dX5_accept_125 : decode cX5_accept 125 = .ok (.iadd, 1) := by decide +kernel
theorem dX5_accept_126 : decode cX5_accept 126 = .ok (.putfield 13, 3) := by decide +kernel
theorem dX5_accept_129 : decode cX5_accept 129 = .ok (.goto 5, 3) := by decide +kernel
theorem dX5_accept_132 : decode cX5_accept 132 = .ok (.iconst 0, 1) := by decide +kernel
theorem dX5_accept_133 : decode cX5_accept 133 = .ok (.ireturn, 1) := by decide +kernel
theorem dX5_accept_134 : decode cX5_accept 134 = .ok (.aload_n 0, 1) := by decide +kernel
theorem dX5_accept_135 : decode cX5_accept 135 = .ok (.dup, 1) := by decide +kernel
theorem dX5_accept_136 : decode cX5_accept 136 = .ok (.getfield 16, 3) := by decide +kernel
theorem dX5_accept_139 : decode cX5_accept 139 = .ok (.iconst 1, 1) := by decide +kernel
theorem dX5_accept_140 : decode cX5_accept 140 = .ok (.iadd, 1) := by decide +kernel
theorem dX5_accept_141 : decode cX5_accept 141 = .ok (.putfield 16, 3) := by decide +kernel
theorem dX5_accept_144 : decode cX5_accept 144 = .ok (.iconst 1, 1) := by decide +kernel
theorem dX5_accept_145 : decode cX5_accept 145 = .ok (.ireturn, 1) := by decide +kernel
theorem dX5_fitsBelowHundred_0 : decode cX5_fitsBelowHundred 0 = .ok (.aload_n 0, 1) := by decide +kernel
theorem dX5_fitsBelowHundred_1 : decode cX5_fitsBelowHundred 1 = .ok (.getfield 13, 3) := by decide +kernel
theorem dX5_fitsBelowHundred_4 : decode cX5_fitsBelowHundred 4 = .ok (.ifCond .le 21, 3) := by decide +kernel
theorem dX5_fitsBelowHundred_7 : decode cX5_fitsBelowHundred 7 = .ok (.aload_n 0, 1) := by decide +kernel
theorem dX5_fitsBelowHundred_8 : decode cX5_fitsBelowHundred 8 = .ok (.getfield 13, 3) := by decide +kernel
theorem dX5_fitsBelowHundred_11 : decode cX5_fitsBelowHundred 11 = .ok (.bipush 100, 2) := by decide +kernel
theorem dX5_fitsBelowHundred_13 : decode cX5_fitsBelowHundred 13 = .ok (.irem, 1) := by decide +kernel
theorem dX5_fitsBelowHundred_14 : decode cX5_fitsBelowHundred 14 = .ok (.ifCond .ne 7, 3) := by decide +kernel
theorem dX5_fitsBelowHundred_17 : decode cX5_fitsBelowHundred 17 = .ok (.iconst 1, 1) := by decide +kernel
theorem dX5_fitsBelowHundred_18 : decode cX5_fitsBelowHundred 18 = .ok (.goto 26, 3) := by decide +kernel
theorem dX5_fitsBelowHundred_21 : decode cX5_fitsBelowHundred 21 = .ok (.iconst 0, 1) := by decide +kernel
theorem dX5_fitsBelowHundred_22 : decode cX5_fitsBelowHundred 22 = .ok (.goto 22, 3) := by decide +kernel
theorem dX5_fitsBelowHundred_25 : decode cX5_fitsBelowHundred 25 = .ok (.aload_n 0, 1) := by decide +kernel
theorem dX5_fitsBelowHundred_26 : decode cX5_fitsBelowHundred 26 = .ok (.getfield 13, 3) := by decide +kernel
theorem dX5_fitsBelowHundred_29 : decode cX5_fitsBelowHundred 29 = .ok (.ifCond .ne 14, 3) := by decide +kernel
theorem dX5_fitsBelowHundred_32 : decode cX5_fitsBelowHundred 32 = .ok (.aload_n 0, 1) := by decide +kernel
theorem dX5_fitsBelowHundred_33 : decode cX5_fitsBelowHundred 33 = .ok (.getfield 7, 3) := by decide +kernel
theorem dX5_fitsBelowHundred_36 : decode cX5_fitsBelowHundred 36 = .ok (.ifCond .eq 7, 3) := by decide +kernel
theorem dX5_fitsBelowHundred_39 : decode cX5_fitsBelowHundred 39 = .ok (.iconst 1, 1) := by decide +kernel
theorem dX5_fitsBelowHundred_40 : decode cX5_fitsBelowHundred 40 = .ok (.goto 4, 3) := by decide +kernel
theorem dX5_fitsBelowHundred_43 : decode cX5_fitsBelowHundred 43 = .ok (.iconst 0, 1) := by decide +kernel
theorem dX5_fitsBelowHundred_44 : decode cX5_fitsBelowHundred 44 = .ok (.istore_n 2, 1) := by decide +kernel
theorem dX5_fitsBelowHundred_45 : decode cX5_fitsBelowHundred 45 = .ok (.iload_n 1, 1) := by decide +kernel
theorem dX5_fitsBelowHundred_46 : decode cX5_fitsBelowHundred 46 = .ok (.iconst 1, 1) := by decide +kernel
theorem dX5_fitsBelowHundred_47 : decode cX5_fitsBelowHundred 47 = .ok (.if_icmp .lt 17, 3) := by decide +kernel
theorem dX5_fitsBelowHundred_50 : decode cX5_fitsBelowHundred 50 = .ok (.iload_n 1, 1) := by decide +kernel
theorem dX5_fitsBelowHundred_51 : decode cX5_fitsBelowHundred 51 = .ok (.bipush 99, 2) := by decide +kernel
theorem dX5_fitsBelowHundred_53 : decode cX5_fitsBelowHundred 53 = .ok (.if_icmp .gt 11, 3) := by decide +kernel
theorem dX5_fitsBelowHundred_56 : decode cX5_fitsBelowHundred 56 = .ok (.iload_n 2, 1) := by decide +kernel
theorem dX5_fitsBelowHundred_57 : decode cX5_fitsBelowHundred 57 = .ok (.ifCond .eq 7, 3) := by decide +kernel
theorem dX5_fitsBelowHundred_60 : decode cX5_fitsBelowHundred 60 = .ok (.iconst 1, 1) := by decide +kernel
theorem dX5_fitsBelowHundred_61 : decode cX5_fitsBelowHundred 61 = .ok (.goto 4, 3) := by decide +kernel
theorem dX5_fitsBelowHundred_64 : decode cX5_fitsBelowHundred 64 = .ok (.iconst 0, 1) := by decide +kernel
theorem dX5_fitsBelowHundred_65 : decode cX5_fitsBelowHundred 65 = .ok (.ireturn, 1) := by decide +kernel
theorem dX5_fitsBelowTen_0 : decode cX5_fitsBelowTen 0 = .ok (.aload_n 0, 1) := by decide +kernel
theorem dX5_fitsBelowTen_1 : decode cX5_fitsBelowTen 1 = .ok (.getfield 13, 3) := by decide +kernel
theorem dX5_fitsBelowTen_4 : decode cX5_fitsBelowTen 4 = .ok (.bipush 100, 2) := by decide +kernel
theorem dX5_fitsBelowTen_6 : decode cX5_fitsBelowTen 6 = .ok (.irem, 1) := by decide +kernel
theorem dX5_fitsBelowTen_7 : decode cX5_fitsBelowTen 7 = .ok (.istore_n 2, 1) := by decide +kernel
theorem dX5_fitsBelowTen_8 : decode cX5_fitsBelowTen 8 = .ok (.iload_n 1, 1) := by decide +kernel
theorem dX5_fitsBelowTen_9 : decode cX5_fitsBelowTen 9 = .ok (.iconst 1, 1) := by decide +kernel
theorem dX5_fitsBelowTen_10 : decode cX5_fitsBelowTen 10 = .ok (.if_icmp .lt 26, 3) := by decide +kernel
theorem dX5_fitsBelowTen_13 : decode cX5_fitsBelowTen 13 = .ok (.iload_n 1, 1) := by decide +kernel
theorem dX5_fitsBelowTen_14 : decode cX5_fitsBelowTen 14 = .ok (.bipush 9, 2) := by decide +kernel
theorem dX5_fitsBelowTen_16 : decode cX5_fitsBelowTen 16 = .ok (.if_icmp .gt 20, 3) := by decide +kernel
theorem dX5_fitsBelowTen_19 : decode cX5_fitsBelowTen 19 = .ok (.iload_n 2, 1) := by decide +kernel
theorem dX5_fitsBelowTen_20 : decode cX5_fitsBelowTen 20 = .ok (.bipush 20, 2) := by decide +kernel
theorem dX5_fitsBelowTen_22 : decode cX5_fitsBelowTen 22 = .ok (.if_icmp .lt 14, 3) := by decide +kernel
theorem dX5_fitsBelowTen_25 : decode cX5_fitsBelowTen 25 = .ok (.iload_n 2, 1) := by decide +kernel
theorem dX5_fitsBelowTen_26 : decode cX5_fitsBelowTen 26 = .ok (.bipush 10, 2) := by decide +kernel
theorem dX5_fitsBelowTen_28 : decode cX5_fitsBelowTen 28 = .ok (.irem, 1) := by decide +kernel
theorem dX5_fitsBelowTen_29 : decode cX5_fitsBelowTen 29 = .ok (.ifCond .ne 7, 3) := by decide +kernel
theorem dX5_fitsBelowTen_32 : decode cX5_fitsBelowTen 32 = .ok (.iconst 1, 1) := by decide +kernel
theorem dX5_fitsBelowTen_33 : decode cX5_fitsBelowTen 33 = .ok (.goto 4, 3) := by decide +kernel
theorem dX5_fitsBelowTen_36 : decode cX5_fitsBelowTen 36 = .ok (.iconst 0, 1) := by decide +kernel
theorem dX5_fitsBelowTen_37 : decode cX5_fitsBelowTen 37 = .ok (.ireturn, 1) := by decide +kernel
theorem dX6_init_0 : decode cX6_init 0 = .ok (.aload_n 0, 1) := by decide +kernel
theorem dX6_init_1 : decode cX6_init 1 = .ok (.invokespecial 3, 3) := by decide +kernel
theorem dX6_init_4 : decode cX6_init 4 = .ok (.aload_n 0, 1) := by decide +kernel
theorem dX6_init_5 : decode cX6_init 5 = .ok (.bipush 60, 2) := by decide +kernel
theorem dX6_init_7 : decode cX6_init 7 = .ok (.newarray .int, 2) := by decide +kernel
theorem dX6_init_9 : decode cX6_init 9 = .ok (.putfield 9, 3) := by decide +kernel
theorem dX6_init_12 : decode cX6_init 12 = .ok (.aload_n 0, 1) := by decide +kernel
theorem dX6_init_13 : decode cX6_init 13 = .ok (.bipush 60, 2) := by decide +kernel
theorem dX6_init_15 : decode cX6_init 15 = .ok (.newarray .int, 2) := by decide +kernel
theorem dX6_init_17 : decode cX6_init 17 = .ok (.putfield 15, 3) := by decide +kernel
theorem dX6_init_20 : decode cX6_init 20 = .ok (.aload_n 0, 1) := by decide +kernel
theorem dX6_init_21 : decode cX6_init 21 = .ok (.bipush 60, 2) := by decide +kernel
theorem dX6_init_23 : decode cX6_init 23 = .ok (.newarray .int, 2) := by decide +kernel
theorem dX6_init_25 : decode cX6_init 25 = .ok (.putfield 18, 3) := by decide +kernel
theorem dX6_init_28 : decode cX6_init 28 = .ok (.return_, 1) := by decide +kernel
theorem dX6_has_0 : decode cX6_has 0 = .ok (.iload_n 1, 1) := by decide +kernel
theorem dX6_has_1 : decode cX6_has 1 = .ok (.ifCond .lt 15, 3) := by decide +kernel
theorem dX6_has_4 : decode cX6_has 4 = .ok (.iload_n 1, 1) := by decide +kernel
theorem dX6_has_5 : decode cX6_has 5 = .ok (.aload_n 0, 1) := by decide +kernel
theorem dX6_has_6 : decode cX6_has 6 = .ok (.getfield 21, 3) := by decide +kernel
theorem dX6_has_9 : decode cX6_has 9 = .ok (.if_icmp .ge 7, 3) := by decide +kernel
theorem dX6_has_12 : decode cX6_has 12 = .ok (.iconst 1, 1) := by decide +kernel
theorem dX6_has_13 : decode cX6_has 13 = .ok (.goto 4, 3) := by decide +kernel
theorem dX6_has_16 : decode cX6_has 16 = .ok (.iconst 0, 1) := by decide +kernel
theorem dX6_has_17 : decode cX6_has 17 = .ok (.ireturn, 1) := by decide +kernel
theorem dX6_areAll_0 : decode cX6_areAll 0 = .ok (.iload_n 1, 1) := by decide +kernel
theorem dX6_areAll_1 : decode cX6_areAll 1 = .ok (.aload_n 0, 1) := by decide +kernel
theorem dX6_areAll_2 : decode cX6_areAll 2 = .ok (.getfield 21, 3) := by decide +kernel
theorem dX6_areAll_5 : decode cX6_areAll 5 = .ok (.iushr, 1) := by decide +kernel
theorem dX6_areAll_6 : decode cX6_areAll 6 = .ok (.ifCond .ne 7, 3) := by decide +kernel
theorem dX6_areAll_9 : decode cX6_areAll 9 = .ok (.iconst 1, 1) := by decide +kernel
theorem dX6_areAll_10 : decode cX6_areAll 10 = .ok (.goto 4, 3) := by decide +kernel
theorem dX6_areAll_13 : decode cX6_areAll 13 = .ok (.iconst 0, 1) := by decide +kernel
theorem dX6_areAll_14 : decode cX6_areAll 14 = .ok (.ireturn, 1) := by decide +kernel
theorem dX6_addThing_0 : decode cX6_addThing 0 = .ok (.aload_n 0, 1) := by decide +kernel
theorem dX6_addThing_1 : decode cX6_addThing 1 = .ok (.getfield 21, 3) := by decide +kernel
theorem dX6_addThing_4 : decode cX6_addThing 4 = .ok (.bipush 12, 2) := by decide +kernel
theorem dX6_addThing_6 : decode cX6_addThing 6 = .ok (.if_icmp .lt 5, 3) := by decide +kernel
theorem dX6_addThing_9 : decode cX6_addThing 9 = .ok (.iconst 0, 1) := by decide +kernel
theorem dX6_addThing_10 : decode cX6_addThing 10 = .ok (.ireturn, 1) := by decide +kernel
theorem dX6_addThing_11 : decode cX6_addThing 11 = .ok (.aload_n 0, 1) := by decide +kernel
theorem dX6_addThing_12 : decode cX6_addThing 12 = .ok (.dup, 1) := by decide +kernel
theorem dX6_addThing_13 : decode cX6_addThing 13 = .ok (.getfield 21, 3) := by decide +kernel
theorem dX6_addThing_16 : decode cX6_addThing 16 = .ok (.iconst 1, 1) := by decide +kernel
theorem dX6_addThing_17 : decode cX6_addThing 17 = .ok (.iadd, 1) := by decide +kernel
theorem dX6_addThing_18 : decode cX6_addThing 18 = .ok (.putfield 21, 3) := by decide +kernel
theorem dX6_addThing_21 : decode cX6_addThing 21 = .ok (.iconst 1, 1) := by decide +kernel
theorem dX6_addThing_22 : decode cX6_addThing 22 = .ok (.ireturn, 1) := by decide +kernel
theorem dX6_addMeaning_0 : decode cX6_addMeaning 0 = .ok (.aload_n 0, 1) := by decide +kernel
theorem dX6_addMeaning_1 : decode cX6_addMeaning 1 = .ok (.getfield 25, 3) := by decide +kernel
theorem dX6_addMeaning_4 : decode cX6_addMeaning 4 = .ok (.ifCond .lt 12, 3) := by decide +kernel
theorem dX6_addMeaning_7 : decode cX6_addMeaning 7 = .ok (.aload_n 0, 1) := by decide +kernel
theorem dX6_addMeaning_8 : decode cX6_addMeaning 8 = .ok (.getfield 25, 3) := by decide +kernel
theorem dX6_addMeaning_11 : decode cX6_addMeaning 11 = .ok (.bipush 60, 2) := by decide +kernel
theorem dX6_addMeaning_13 : decode cX6_addMeaning 13 = .ok (.if_icmp .lt 5, 3) := by decide +kernel
theorem dX6_addMeaning_16 : decode cX6_addMeaning 16 = .ok (.iconst 0, 1) := by decide +kernel
theorem dX6_addMeaning_17 : decode cX6_addMeaning 17 = .ok (.ireturn, 1) := by decide +kernel
theorem dX6_addMeaning_18 : decode cX6_addMeaning 18 = .ok (.aload_n 0, 1) := by decide +kernel
theorem dX6_addMeaning_19 : decode cX6_addMeaning 19 = .ok (.getfield 9, 3) := by decide +kernel
theorem dX6_addMeaning_22 : decode cX6_addMeaning 22 = .ok (.aload_n 0, 1) := by decide +kernel
theorem dX6_addMeaning_23 : decode cX6_addMeaning 23 = .ok (.getfield 25, 3) := by decide +kernel
theorem dX6_addMeaning_26 : decode cX6_addMeaning 26 = .ok (.iload_n 1, 1) := by decide +kernel
theorem dX6_addMeaning_27 : decode cX6_addMeaning 27 = .ok (.iastore, 1) := by decide +kernel
theorem dX6_addMeaning_28 : decode cX6_addMeaning 28 = .ok (.aload_n 0, 1) := by decide +kernel
theorem dX6_addMeaning_29 : decode cX6_addMeaning 29 = .ok (.getfield 15, 3) := by decide +kernel
theorem dX6_addMeaning_32 : decode cX6_addMeaning 32 = .ok (.aload_n 0, 1) := by decide +kernel
theorem dX6_addMeaning_33 : decode cX6_addMeaning 33 = .ok (.getfield 25, 3) := by decide +kernel
theorem dX6_addMeaning_36 : decode cX6_addMeaning 36 = .ok (.iload_n 2, 1) := by decide +kernel
theorem dX6_addMeaning_37 : decode cX6_addMeaning 37 = .ok (.iastore, 1) := by decide +kernel
theorem dX6_addMeaning_38 : decode cX6_addMeaning 38 = .ok (.aload_n 0, 1) := by decide +kernel
theorem dX6_addMeaning_39 : decode cX6_addMeaning 39 = .ok (.getfield 18, 3) := by decide +kernel
theorem dX6_addMeaning_42 : decode cX6_addMeaning 42 = .ok (.aload_n 0, 1) := by decide +kernel
theorem dX6_addMeaning_43 : decode cX6_addMeaning 43 = .ok (.getfield 25, 3) := by decide +kernel
theorem dX6_addMeaning_46 : decode cX6_addMeaning 46 = .ok (.iload_n 3, 1) := by decide +kernel
theorem dX6_addMeaning_47 : decode cX6_addMeaning 47 = .ok (.iastore, 1) := by decide +kernel
theorem dX6_addMeaning_48 : decode cX6_addMeaning 48 = .ok (.aload_n 0, 1) := by decide +kernel
theorem dX6_addMeaning_49 : decode cX6_addMeaning 49 = .ok (.dup, 1) := by decide +kernel
theorem dX6_addMeaning_50 : decode cX6_addMeaning 50 = .ok (.getfield 25, 3) := by decide +kernel
theorem dX6_addMeaning_53 : decode cX6_addMeaning 53 = .ok (.iconst 1, 1) := by decide +kernel
theorem dX6_addMeaning_54 : decode cX6_addMeaning 54 = .ok (.iadd, 1) := by decide +kernel
theorem dX6_addMeaning_55 : decode cX6_addMeaning 55 = .ok (.putfield 25, 3) := by decide +kernel
theorem dX6_addMeaning_58 : decode cX6_addMeaning 58 = .ok (.iconst 1, 1) := by decide +kernel
theorem dX6_addMeaning_59 : decode cX6_addMeaning 59 = .ok (.ireturn, 1) := by decide +kernel
theorem dX6_isUp_0 : decode cX6_isUp 0 = .ok (.aload_n 0, 1) := by decide +kernel
theorem dX6_isUp_1 : decode cX6_isUp 1 = .ok (.getfield 28, 3) := by decide +kernel
theorem dX6_isUp_4 : decode cX6_isUp 4 = .ok (.iload_n 1, 1) := by decide +kernel
theorem dX6_isUp_5 : decode cX6_isUp 5 = .ok (.iushr, 1) := by decide +kernel
theorem dX6_isUp_6 : decode cX6_isUp 6 = .ok (.iconst 1, 1) := by decide +kernel
theorem dX6_isUp_7 : decode cX6_isUp 7 = .ok (.iand, 1) := by decide +kernel
theorem dX6_isUp_8 : decode cX6_isUp 8 = .ok (.iconst 1, 1) := by decide +kernel
theorem dX6_isUp_9 : decode cX6_isUp 9 = .ok (.if_icmp .ne 7, 3) := by decide +kernel
theorem dX6_isUp_12 : decode cX6_isUp 12 = .ok (.iconst 1, 1) := by decide +kernel
theorem dX6_isUp_13 : decode cX6_isUp 13 = .ok (.goto 4, 3) := by decide +kernel
theorem dX6_isUp_16 : decode cX6_isUp 16 = .ok (.iconst 0, 1) := by decide +kernel
theorem dX6_isUp_17 : decode cX6_isUp 17 = .ok (.ireturn, 1) := by decide +kernel
theorem dX6_setFlag_0 : decode cX6_setFlag 0 = .ok (.iconst 1, 1) := by decide +kernel
theorem dX6_setFlag_1 : decode cX6_setFlag 1 = .ok (.iload_n 1, 1) := by decide +kernel
theorem dX6_setFlag_2 : decode cX6_setFlag 2 = .ok (.ishl, 1) := by decide +kernel
theorem dX6_setFlag_3 : decode cX6_setFlag 3 = .ok (.istore_n 3, 1) := by decide +kernel
theorem dX6_setFlag_4 : decode cX6_setFlag 4 = .ok (.aload_n 0, 1) := by decide +kernel
theorem dX6_setFlag_5 : decode cX6_setFlag 5 = .ok (.iload_n 2, 1) := by decide +kernel
theorem dX6_setFlag_6 : decode cX6_setFlag 6 = .ok (.ifCond .eq 12, 3) := by decide +kernel
theorem dX6_setFlag_9 : decode cX6_setFlag 9 = .ok (.aload_n 0, 1) := by decide +kernel
theorem dX6_setFlag_10 : decode cX6_setFlag 10 = .ok (.getfield 28, 3) := by decide +kernel
theorem dX6_setFlag_13 : decode cX6_setFlag 13 = .ok (.iload_n 3, 1) := by decide +kernel
theorem dX6_setFlag_14 : decode cX6_setFlag 14 = .ok (.ior, 1) := by decide +kernel
theorem dX6_setFlag_15 : decode cX6_setFlag 15 = .ok (.goto 11, 3) := by decide +kernel
theorem dX6_setFlag_18 : decode cX6_setFlag 18 = .ok (.aload_n 0, 1) := by decide +kernel
theorem dX6_setFlag_19 : decode cX6_setFlag 19 = .ok (.getfield 28, 3) := by decide +kernel
theorem dX6_setFlag_22 : decode cX6_setFlag 22 = .ok (.iload_n 3, 1) := by decide +kernel
theorem dX6_setFlag_23 : decode cX6_setFlag 23 = .ok (.iconst (-1), 1) := by decide +kernel
theorem dX6_setFlag_24 : decode cX6_setFlag 24 = .ok (.ixor, 1) := by decide +kernel
theorem dX6_setFlag_25 : decode cX6_setFlag 25 = .ok (.iand, 1) := by decide +kernel
theorem dX6_setFlag_26 : decode cX6_setFlag 26 = .ok (.putfield 28, 3) := by decide +kernel
theorem dX6_setFlag_29 : decode cX6_setFlag 29 = .ok (.return_, 1) := by decide +kernel
set_option maxRecDepth 20000 in
theorem ggX6_meantBy_X6_isUp : GoodIn wsX6_meantBy wsX6_isUp := goodIn_r _ [9, 10, 11, 12, 13, 14, 15, 16] (by decide +kernel) (by decide +kernel)
set_option maxRecDepth 20000 in
theorem gX6_meantBy_X6_isUp : GoodIn wsX6_meantBy (wsV RX6 31 RX6 yX6_isUp wsX6_isUp) := goodIn_app (goodIn_of _ (by decide +kernel)) ggX6_meantBy_X6_isUp
theorem dX6_meantBy_0 : decode cX6_meantBy 0 = .ok (.iconst 0, 1) := by decide +kernel
theorem dX6_meantBy_1 : decode cX6_meantBy 1 = .ok (.istore_n 2, 1) := by decide +kernel
theorem dX6_meantBy_2 : decode cX6_meantBy 2 = .ok (.iconst 0, 1) := by decide +kernel
theorem dX6_meantBy_3 : decode cX6_meantBy 3 = .ok (.istore_n 3, 1) := by decide +kernel
theorem dX6_meantBy_4 : decode cX6_meantBy 4 = .ok (.iload_n 3, 1) := by decide +kernel
theorem dX6_meantBy_5 : decode cX6_meantBy 5 = .ok (.aload_n 0, 1) := by decide +kernel
theorem dX6_meantBy_6 : decode cX6_meantBy 6 = .ok (.getfield 25, 3) := by decide +kernel
theorem dX6_meantBy_9 : decode cX6_meantBy 9 = .ok (.if_icmp .ge 71, 3) := by decide +kernel
theorem dX6_meantBy_12 : decode cX6_meantBy 12 = .ok (.iload_n 3, 1) := by decide +kernel
theorem dX6_meantBy_13 : decode cX6_meantBy 13 = .ok (.bipush 60, 2) := by decide +kernel
theorem dX6_meantBy_15 : decode cX6_meantBy 15 = .ok (.if_icmp .ge 65, 3) := by decide +kernel
theorem dX6_meantBy_18 : decode cX6_meantBy 18 = .ok (.aload_n 0, 1) := by decide +kernel
theorem dX6_meantBy_19 : decode cX6_meantBy 19 = .ok (.getfield 18, 3) := by decide +kernel
theorem dX6_meantBy_22 : decode cX6_meantBy 22 = .ok (.iload_n 3, 1) := by decide +kernel
theorem dX6_meantBy_23 : decode cX6_meantBy 23 = .ok (.iaload, 1) := by decide +kernel
theorem dX6_meantBy_24 : decode cX6_meantBy 24 = .ok (.iconst (-1), 1) := by decide +kernel
theorem dX6_meantBy_25 : decode cX6_meantBy 25 = .ok (.if_icmp .eq 16, 3) := by decide +kernel
theorem dX6_meantBy_28 : decode cX6_meantBy 28 = .ok (.aload_n 0, 1) := by decide +kernel
theorem dX6_meantBy_29 : decode cX6_meantBy 29 = .ok (.aload_n 0, 1) := by decide +kernel
theorem dX6_meantBy_30 : decode cX6_meantBy 30 = .ok (.getfield 18, 3) := by decide +kernel
theorem dX6_meantBy_33 : decode cX6_meantBy 33 = .ok (.iload_n 3, 1) := by decide +kernel
theorem dX6_meantBy_34 : decode cX6_meantBy 34 = .ok (.iaload, 1) := by decide +kernel
theorem dX6_meantBy_35 : decode cX6_meantBy 35 = .ok (.invokevirtual 31, 3) := by decide +kernel
theorem dX6_meantBy_38 : decode cX6_meantBy 38 = .ok (.ifCond .eq 7, 3) := by decide +kernel
theorem dX6_meantBy_41 : decode cX6_meantBy 41 = .ok (.iconst 1, 1) := by decide +kernel
theorem dX6_meantBy_42 : decode cX6_meantBy 42 = .ok (.goto 4, 3) := by decide +kernel
theorem dX6_meantBy_45 : decode cX6_meantBy 45 = .ok (.iconst 0, 1) := by decide +kernel
theorem dX6_meantBy_46 : decode cX6_meantBy 46 = .ok (.istore 4, 2) := by decide +kernel
theorem dX6_meantBy_48 : decode cX6_meantBy 48 = .ok (.aload_n 0, 1) := by decide +kernel
theorem dX6_meantBy_49 : decode cX6_meantBy 49 = .ok (.getfield 15, 3) := by decide +kernel
theorem dX6_meantBy_52 : decode cX6_meantBy 52 = .ok (.iload_n 3, 1) := by decide +kernel
theorem dX6_meantBy_53 : decode cX6_meantBy 53 = .ok (.iaload, 1) := by decide +kernel
theorem dX6_meantBy_54 : decode cX6_meantBy 54 = .ok (.iload_n 1, 1) := by decide +kernel
theorem dX6_meantBy_55 : decode cX6_meantBy 55 = .ok (.if_icmp .ne 19, 3) := by decide +kernel
theorem dX6_meantBy_58 : decode cX6_meantBy 58 = .ok (.iload 4, 2) := by decide +kernel
theorem dX6_meantBy_60 : decode cX6_meantBy 60 = .ok (.ifCond .eq 14, 3) := by decide +kernel
theorem dX6_meantBy_63 : decode cX6_meantBy 63 = .ok (.iload_n 2, 1) := by decide +kernel
theorem dX6_meantBy_64 : decode cX6_meantBy 64 = .ok (.iconst 1, 1) := by decide +kernel
theorem dX6_meantBy_65 : decode cX6_meantBy 65 = .ok (.aload_n 0, 1) := by decide +kernel
theorem dX6_meantBy_66 : decode cX6_meantBy 66 = .ok (.getfield 9, 3) := by decide +kernel
theorem dX6_meantBy_69 : decode cX6_meantBy 69 = .ok (.iload_n 3, 1) := by decide +kernel
theorem dX6_meantBy_70 : decode cX6_meantBy 70 = .ok (.iaload, 1) := by decide +kernel
theorem dX6_meantBy_71 : decode cX6_meantBy 71 = .ok (.ishl, 1) := by decide +kernel
theorem dX6_meantBy_72 : decode cX6_meantBy 72 = .ok (.ior, 1) := by decide +kernel
theorem dX6_meantBy_73 : decode cX6_meantBy 73 = .ok (.istore_n 2, 1) := by decide +kernel
theorem dX6_meantBy_74 : decode cX6_meantBy 74 = .ok (.iinc 3 1, 3) := by decide +kernel
theorem dX6_meantBy_77 : decode cX6_meantBy 77 = .ok (.goto (-73), 3) := by decide +kernel
theorem dX6_meantBy_80 : decode cX6_meantBy 80 = .ok (.iload_n 2, 1) := by decide +kernel
theorem dX6_meantBy_81 : decode cX6_meantBy 81 = .ok (.ireturn, 1) := by decide +kernel
set_option maxRecDepth 20000 in
theorem ggX7_init_X4_init : GoodIn wsX7_init wsX4_init := goodIn_r _ [15, 16, 2, 3, 17, 18, 19, 20, 8, 21, 22, 23] (by decide +kernel) (by decide +kernel)
set_option maxRecDepth 20000 in
theorem gX7_init_X4_init : GoodIn wsX7_init (wsX4_init) := ggX7_init_X4_init
theorem dX7_init_0 : decode cX7_init 0 = .ok (.aload_n 0, 1) := by decide +kernel
theorem dX7_init_1 : decode cX7_init 1 = .ok (.invokespecial 3, 3) := by decide +kernel
theorem dX7_init_4 : decode cX7_init 4 = .ok (.aload_n 0, 1) := by decide +kernel
theorem dX7_init_5 : decode cX7_init 5 = .ok (.new 9, 3) := by decide +kernel
theorem dX7_init_8 : decode cX7_init 8 = .ok (.dup, 1) := by decide +kernel
theorem dX7_init_9 : decode cX7_init 9 = .ok (.bipush 80, 2) := by decide +kernel
theorem dX7_init_11 : decode cX7_init 11 = .ok (.invokespecial 11, 3) := by decide +kernel
theorem dX7_init_14 : decode cX7_init 14 = .ok (.putfield 14, 3) := by decide +kernel
theorem dX7_init_17 : decode cX7_init 17 = .ok (.aload_n 0, 1) := by decide +kernel
theorem dX7_init_18 : decode cX7_init 18 = .ok (.bipush 24, 2) := by decide +kernel
theorem dX7_init_20 : decode cX7_init 20 = .ok (.newarray .int, 2) := by decide +kernel
theorem dX7_init_22 : decode cX7_init 22 = .ok (.putfield 20, 3) := by decide +kernel
theorem dX7_init_25 : decode cX7_init 25 = .ok (.aload_n 0, 1) := by decide +kernel
theorem dX7_init_26 : decode cX7_init 26 = .ok (.bipush 24, 2) := by decide +kernel
theorem dX7_init_28 : decode cX7_init 28 = .ok (.newarray .int, 2) := by decide +kernel
theorem dX7_init_30 : decode cX7_init 30 = .ok (.putfield 24, 3) := by decide +kernel
theorem dX7_init_33 : decode cX7_init 33 = .ok (.aload_n 0, 1) := by decide +kernel
theorem dX7_init_34 : decode cX7_init 34 = .ok (.bipush 24, 2) := by decide +kernel
theorem dX7_init_36 : decode cX7_init 36 = .ok (.newarray .int, 2) := by decide +kernel
theorem dX7_init_38 : decode cX7_init 38 = .ok (.putfield 27, 3) := by decide +kernel
theorem dX7_init_41 : decode cX7_init 41 = .ok (.aload_n 0, 1) := by decide +kernel
theorem dX7_init_42 : decode cX7_init 42 = .ok (.bipush 24, 2) := by decide +kernel
theorem dX7_init_44 : decode cX7_init 44 = .ok (.newarray .int, 2) := by decide +kernel
theorem dX7_init_46 : decode cX7_init 46 = .ok (.putfield 30, 3) := by decide +kernel
theorem dX7_init_49 : decode cX7_init 49 = .ok (.return_, 1) := by decide +kernel
theorem dX7_has_0 : decode cX7_has 0 = .ok (.iload_n 1, 1) := by decide +kernel
theorem dX7_has_1 : decode cX7_has 1 = .ok (.ifCond .lt 21, 3) := by decide +kernel
theorem dX7_has_4 : decode cX7_has 4 = .ok (.iload_n 1, 1) := by decide +kernel
theorem dX7_has_5 : decode cX7_has 5 = .ok (.aload_n 0, 1) := by decide +kernel
theorem dX7_has_6 : decode cX7_has 6 = .ok (.getfield 33, 3) := by decide +kernel
theorem dX7_has_9 : decode cX7_has 9 = .ok (.if_icmp .ge 13, 3) := by decide +kernel
theorem dX7_has_12 : decode cX7_has 12 = .ok (.iload_n 1, 1) := by decide +kernel
theorem dX7_has_13 : decode cX7_has 13 = .ok (.bipush 24, 2) := by decide +kernel
theorem dX7_has_15 : decode cX7_has 15 = .ok (.if_icmp .ge 7, 3) := by decide +kernel
theorem dX7_has_18 : decode cX7_has 18 = .ok (.iconst 1, 1) := by decide +kernel
theorem dX7_has_19 : decode cX7_has 19 = .ok (.goto 4, 3) := by decide +kernel
theorem dX7_has_22 : decode cX7_has 22 = .ok (.iconst 0, 1) := by decide +kernel
theorem dX7_has_23 : decode cX7_has 23 = .ok (.ireturn, 1) := by decide +kernel
set_option maxRecDepth 20000 in
theorem ggX7_startOn_X4_copyFrom : GoodIn wsX7_startOn wsX4_copyFrom := goodIn_r _ [8, 9, 10, 11, 12, 7, 13, 14, 15, 16, 17, 18, 19, 20, 21, 22, 30, 31] (by decide +kernel) (by decide +kernel)
set_option maxRecDepth 20000 in
theorem gX7_startOn_X4_copyFrom : GoodIn wsX7_startOn (wsV RX7 37 RX4 yX4_copyFrom wsX4_copyFrom) := goodIn_app (goodIn_of _ (by decide +kernel)) ggX7_startOn_X4_copyFrom
theorem dX7_startOn_0 : decode cX7_startOn 0 = .ok (.aload_n 0, 1) := by decide +kernel
