theorem dX11_phraseLength_0 : decode cX11_phraseLength 0 = .ok (.aload_n 0, 1) := by decide +kernel
theorem dX11_phraseLength_1 : decode cX11_phraseLength 1 = .ok (.iload_n 1, 1) := by decide +kernel
theorem dX11_phraseLength_2 : decode cX11_phraseLength 2 = .ok (.invokevirtual 173, 3) := by decide +kernel
theorem dX11_phraseLength_5 : decode cX11_phraseLength 5 = .ok (.ifCond .eq 11, 3) := by decide +kernel
theorem dX11_phraseLength_8 : decode cX11_phraseLength 8 = .ok (.aload_n 0, 1) := by decide +kernel
theorem dX11_phraseLength_9 : decode cX11_phraseLength 9 = .ok (.iload_n 1, 1) := by decide +kernel
theorem dX11_phraseLength_10 : decode cX11_phraseLength 10 = .ok (.invokevirtual 200, 3) := by decide +kernel
theorem dX11_phraseLength_13 : decode cX11_phraseLength 13 = .ok (.goto 5, 3) := by decide +kernel
theorem dX11_phraseLength_16 : decode cX11_phraseLength 16 = .ok (.bipush (-2), 2) := by decide +kernel
theorem dX11_phraseLength_18 : decode cX11_phraseLength 18 = .ok (.ireturn, 1) := by decide +kernel
set_option maxRecDepth 20000 in
theorem ggX11_about_X11_isWord : GoodIn wsX11_about wsX11_isWord := goodIn_r _ [11, 12, 13, 14, 10, 15, 16, 17, 18, 19, 20, 21, 22, 23, 24, 25, 26, 27, 28, 29, 30, 31, 32, 33, 34, 35, 36, 37, 38, 39, 40, 41, 42, 43, 44, 45, 46, 47, 48, 49, 50, 51, 52] (by decide +kernel) (by decide +kernel)
set_option maxRecDepth 20000 in
theorem gX11_about_X11_isWord : GoodIn wsX11_about (wsV RX11 119 RX11 yX11_isWord wsX11_isWord) := goodIn_app (goodIn_of _ (by decide +kernel)) ggX11_about_X11_isWord
set_option maxRecDepth 20000 in
theorem ggX11_about_X11_in : GoodIn wsX11_about wsX11_in := goodIn_r _ [15] (by decide +kernel) (by decide +kernel)
set_option maxRecDepth 20000 in
theorem gX11_about_X11_in : GoodIn wsX11_about (va_wsS RX11 86 yX11_in wsX11_in) := goodIn_app (goodIn_of _ (by decide +kernel)) ggX11_about_X11_in
theorem dX11_about_0 : decode cX11_about 0 = .ok (.aload_n 0, 1) := by decide +kernel
theorem dX11_about_1 : decode cX11_about 1 = .ok (.iload_n 1, 1) := by decide +kernel
theorem dX11_about_2 : decode cX11_about 2 = .ok (.invokevirtual 119, 3) := by decide +kernel
theorem dX11_about_5 : decode cX11_about 5 = .ok (.ifCond .eq 12, 3) := by decide +kernel
theorem dX11_about_8 : decode cX11_about 8 = .ok (.iload_n 2, 1) := by decide +kernel
theorem dX11_about_9 : decode cX11_about 9 = .ok (.iconst 0, 1) := by decide +kernel
theorem dX11_about_10 : decode cX11_about 10 = .ok (.iconst 5, 1) := by decide +kernel
theorem dX11_about_11 : decode cX11_about 11 = .ok (.invokestatic 86, 3) := by decide +kernel
theorem dX11_about_14 : decode cX11_about 14 = .ok (.ifCond .ne 6, 3) := by decide +kernel
theorem dX11_about_17 : decode cX11_about 17 = .ok (.bipush (-2), 2) := by decide +kernel
theorem dX11_about_19 : decode cX11_about 19 = .ok (.ireturn, 1) := by decide +kernel
theorem dX11_about_20 : decode cX11_about 20 = .ok (.iload_n 2, 1) := by decide +kernel
theorem dX11_about_21 : decode cX11_about 21 = .ok (.ifCond .ne 12, 3) := by decide +kernel
theorem dX11_about_24 : decode cX11_about 24 = .ok (.aload_n 0, 1) := by decide +kernel
theorem dX11_about_25 : decode cX11_about 25 = .ok (.getfield 22, 3) := by decide +kernel
theorem dX11_about_28 : decode cX11_about 28 = .ok (.iload_n 1, 1) := by decide +kernel
theorem dX11_about_29 : decode cX11_about 29 = .ok (.iaload, 1) := by decide +kernel
theorem dX11_about_30 : decode cX11_about 30 = .ok (.goto 65, 3) := by decide +kernel
theorem dX11_about_33 : decode cX11_about 33 = .ok (.iload_n 2, 1) := by decide +kernel
theorem dX11_about_34 : decode cX11_about 34 = .ok (.iconst 1, 1) := by decide +kernel
theorem dX11_about_35 : decode cX11_about 35 = .ok (.if_icmp .ne 12, 3) := by decide +kernel
theorem dX11_about_38 : decode cX11_about 38 = .ok (.aload_n 0, 1) := by decide +kernel
theorem dX11_about_39 : decode cX11_about 39 = .ok (.getfield 25, 3) := by decide +kernel
theorem dX11_about_42 : decode cX11_about 42 = .ok (.iload_n 1, 1) := by decide +kernel
theorem dX11_about_43 : decode cX11_about 43 = .ok (.iaload, 1) := by decide +kernel
theorem dX11_about_44 : decode cX11_about 44 = .ok (.goto 51, 3) := by decide +kernel
theorem dX11_about_47 : decode cX11_about 47 = .ok (.iload_n 2, 1) := by decide +kernel
theorem dX11_about_48 : decode cX11_about 48 = .ok (.iconst 2, 1) := by decide +kernel
theorem dX11_about_49 : decode cX11_about 49 = .ok (.if_icmp .ne 12, 3) := by decide +kernel
theorem dX11_about_52 : decode cX11_about 52 = .ok (.aload_n 0, 1) := by decide +kernel
theorem dX11_about_53 : decode cX11_about 53 = .ok (.getfield 28, 3) := by decide +kernel
theorem dX11_about_56 : decode cX11_about 56 = .ok (.iload_n 1, 1) := by decide +kernel
theorem dX11_about_57 : decode cX11_about 57 = .ok (.iaload, 1) := by decide +kernel
theorem dX11_about_58 : decode cX11_about 58 = .ok (.goto 37, 3) := by decide +kernel
theorem dX11_about_61 : decode cX11_about 61 = .ok (.iload_n 2, 1) := by decide +kernel
theorem dX11_about_62 : decode cX11_about 62 = .ok (.iconst 3, 1) := by decide +kernel
theorem dX11_about_63 : decode cX11_about 63 = .ok (.if_icmp .ne 12, 3) := by decide +kernel
theorem dX11_about_66 : decode cX11_about 66 = .ok (.aload_n 0, 1) := by decide +kernel
theorem dX11_about_67 : decode cX11_about 67 = .ok (.getfield 31, 3) := by decide +kernel
theorem dX11_about_70 : decode cX11_about 70 = .ok (.iload_n 1, 1) := by decide +kernel
theorem dX11_about_71 : decode cX11_about 71 = .ok (.iaload, 1) := by decide +kernel
theorem dX11_about_72 : decode cX11_about 72 = .ok (.goto 23, 3) := by decide +kernel
theorem dX11_about_75 : decode cX11_about 75 = .ok (.iload_n 2, 1) := by decide +kernel
theorem dX11_about_76 : decode cX11_about 76 = .ok (.iconst 4, 1) := by decide +kernel
theorem dX11_about_77 : decode cX11_about 77 = .ok (.if_icmp .ne 12, 3) := by decide +kernel
theorem dX11_about_80 : decode cX11_about 80 = .ok (.aload_n 0, 1) := by decide +kernel
theorem dX11_about_81 : decode cX11_about 81 = .ok (.getfield 19, 3) := by decide +kernel
theorem dX11_about_84 : decode cX11_about 84 = .ok (.iload_n 1, 1) := by decide +kernel
theorem dX11_about_85 : decode cX11_about 85 = .ok (.iaload, 1) := by decide +kernel
theorem dX11_about_86 : decode cX11_about 86 = .ok (.goto 9, 3) := by decide +kernel
theorem dX11_about_89 : decode cX11_about 89 = .ok (.aload_n 0, 1) := by decide +kernel
theorem dX11_about_90 : decode cX11_about 90 = .ok (.getfield 34, 3) := by decide +kernel
theorem dX11_about_93 : decode cX11_about 93 = .ok (.iload_n 1, 1) := by decide +kernel
theorem dX11_about_94 : decode cX11_about 94 = .ok (.iaload, 1) := by decide +kernel
theorem dX11_about_95 : decode cX11_about 95 = .ok (.ireturn, 1) := by decide +kernel
set_option maxRecDepth 20000 in
theorem ggX11_equal_X11_isWord : GoodIn wsX11_equal wsX11_isWord := goodIn_r _ [7, 8, 9, 10, 6, 11, 22, 23, 24, 25, 26, 27, 28, 29, 30, 31, 32, 33, 34, 35, 36, 37, 38, 39, 40, 41, 42, 43, 44, 45, 46, 47, 48, 49, 50, 51, 52, 53, 54, 55, 56, 57, 58] (by decide +kernel) (by decide +kernel)
set_option maxRecDepth 20000 in
theorem gX11_equal_X11_isWord : GoodIn wsX11_equal (wsV RX11 119 RX11 yX11_isWord wsX11_isWord) := goodIn_app (goodIn_of _ (by decide +kernel)) ggX11_equal_X11_isWord
set_option maxRecDepth 20000 in
theorem ggX11_equal_X11_isLike : GoodIn wsX11_equal wsX11_isLike := goodIn_r _ [15, 16, 2, 1, 17, 18, 19, 6, 20, 21, 9, 10, 11, 22, 23, 24, 25, 26, 27, 28, 29, 30, 31, 32, 33, 34, 35, 36, 37, 38, 39, 40, 41, 42, 43, 44, 45, 46, 47, 48, 49, 50, 51, 52, 53, 54, 55, 56, 57, 58] (by decide +kernel) (by decide +kernel)
set_option maxRecDepth 20000 in
theorem gX11_equal_X11_isLike : GoodIn wsX11_equal (wsV RX11 107 RX11 yX11_isLike wsX11_isLike) := goodIn_app (goodIn_of _ (by decide +kernel)) ggX11_equal_X11_isLike
theorem dX11_equal_0 : decode cX11_equal 0 = .ok (.aload_n 0, 1) := by decide +kernel
theorem dX11_equal_1 : decode cX11_equal 1 = .ok (.iload_n 1, 1) := by decide +kernel
theorem dX11_equal_2 : decode cX11_equal 2 = .ok (.invokevirtual 119, 3) := by decide +kernel
theorem dX11_equal_5 : decode cX11_equal 5 = .ok (.ifCond .eq 11, 3) := by decide +kernel
theorem dX11_equal_8 : decode cX11_equal 8 = .ok (.aload_n 0, 1) := by decide +kernel
theorem dX11_equal_9 : decode cX11_equal 9 = .ok (.iload_n 2, 1) := by decide +kernel
theorem dX11_equal_10 : decode cX11_equal 10 = .ok (.invokevirtual 119, 3) := by decide +kernel
theorem dX11_equal_13 : decode cX11_equal 13 = .ok (.ifCond .ne 6, 3) := by decide +kernel
theorem dX11_equal_16 : decode cX11_equal 16 = .ok (.bipush (-2), 2) := by decide +kernel
theorem dX11_equal_18 : decode cX11_equal 18 = .ok (.ireturn, 1) := by decide +kernel
theorem dX11_equal_19 : decode cX11_equal 19 = .ok (.aload_n 0, 1) := by decide +kernel
theorem dX11_equal_20 : decode cX11_equal 20 = .ok (.aload_n 0, 1) := by decide +kernel
theorem dX11_equal_21 : decode cX11_equal 21 = .ok (.getfield 16, 3) := by decide +kernel
theorem dX11_equal_24 : decode cX11_equal 24 = .ok (.bipush 20, 2) := by decide +kernel
theorem dX11_equal_26 : decode cX11_equal 26 = .ok (.iload_n 1, 1) := by decide +kernel
theorem dX11_equal_27 : decode cX11_equal 27 = .ok (.imul, 1) := by decide +kernel
theorem dX11_equal_28 : decode cX11_equal 28 = .ok (.aload_n 0, 1) := by decide +kernel
theorem dX11_equal_29 : decode cX11_equal 29 = .ok (.getfield 19, 3) := by decide +kernel
theorem dX11_equal_32 : decode cX11_equal 32 = .ok (.iload_n 1, 1) := by decide +kernel
theorem dX11_equal_33 : decode cX11_equal 33 = .ok (.iaload, 1) := by decide +kernel
theorem dX11_equal_34 : decode cX11_equal 34 = .ok (.iload_n 2, 1) := by decide +kernel
theorem dX11_equal_35 : decode cX11_equal 35 = .ok (.invokevirtual 107, 3) := by decide +kernel
theorem dX11_equal_38 : decode cX11_equal 38 = .ok (.ifCond .eq 7, 3) := by decide +kernel
theorem dX11_equal_41 : decode cX11_equal 41 = .ok (.iconst 1, 1) := by decide +kernel
theorem dX11_equal_42 : decode cX11_equal 42 = .ok (.goto 4, 3) := by decide +kernel
theorem dX11_equal_45 : decode cX11_equal 45 = .ok (.iconst 0, 1) := by decide +kernel
theorem dX11_equal_46 : decode cX11_equal 46 = .ok (.ireturn, 1) := by decide +kernel
theorem dX11_told_0 : decode cX11_told 0 = .ok (.iload_n 1, 1) := by decide +kernel
theorem dX11_told_1 : decode cX11_told 1 = .ok (.ifCond .ne 10, 3) := by decide +kernel
theorem dX11_told_4 : decode cX11_told 4 = .ok (.aload_n 0, 1) := by decide +kernel
theorem dX11_told_5 : decode cX11_told 5 = .ok (.getfield 100, 3) := by decide +kernel
theorem dX11_told_8 : decode cX11_told 8 = .ok (.goto 78, 3) := by decide +kernel
theorem dX11_told_11 : decode cX11_told 11 = .ok (.iload_n 1, 1) := by decide +kernel
theorem dX11_told_12 : decode cX11_told 12 = .ok (.iconst 1, 1) := by decide +kernel
theorem dX11_told_13 : decode cX11_told 13 = .ok (.if_icmp .ne 10, 3) := by decide +kernel
theorem dX11_told_16 : decode cX11_told 16 = .ok (.aload_n 0, 1) := by decide +kernel
theorem dX11_told_17 : decode cX11_told 17 = .ok (.getfield 90, 3) := by decide +kernel
theorem dX11_told_20 : decode cX11_told 20 = .ok (.goto 66, 3) := by decide +kernel
theorem dX11_told_23 : decode cX11_told 23 = .ok (.iload_n 1, 1) := by decide +kernel
theorem dX11_told_24 : decode cX11_told 24 = .ok (.iconst 2, 1) := by decide +kernel
theorem dX11_told_25 : decode cX11_told 25 = .ok (.if_icmp .ne 10, 3) := by decide +kernel
theorem dX11_told_28 : decode cX11_told 28 = .ok (.aload_n 0, 1) := by decide +kernel
theorem dX11_told_29 : decode cX11_told 29 = .ok (.getfield 93, 3) := by decide +kernel
theorem dX11_told_32 : decode cX11_told 32 = .ok (.goto 54, 3) := by decide +kernel
theorem dX11_told_35 : decode cX11_told 35 = .ok (.iload_n 1, 1) := by decide +kernel
theorem dX11_told_36 : decode cX11_told 36 = .ok (.iconst 3, 1) := by decide +kernel
theorem dX11_told_37 : decode cX11_told 37 = .ok (.if_icmp .ne 10, 3) := by decide +kernel
theorem dX11_told_40 : decode cX11_told 40 = .ok (.aload_n 0, 1) := by decide +kernel
theorem dX11_told_41 : decode cX11_told 41 = .ok (.getfield 126, 3) := by decide +kernel
theorem dX11_told_44 : decode cX11_told 44 = .ok (.goto 42, 3) := by decide +kernel
theorem dX11_told_47 : decode cX11_told 47 = .ok (.iload_n 1, 1) := by decide +kernel
theorem dX11_told_48 : decode cX11_told 48 = .ok (.iconst 4, 1) := by decide +kernel
theorem dX11_told_49 : decode cX11_told 49 = .ok (.if_icmp .ne 10, 3) := by decide +kernel
theorem dX11_told_52 : decode cX11_told 52 = .ok (.aload_n 0, 1) := by decide +kernel
theorem dX11_told_53 : decode cX11_told 53 = .ok (.getfield 170, 3) := by decide +kernel
theorem dX11_told_56 : decode cX11_told 56 = .ok (.goto 30, 3) := by decide +kernel
theorem dX11_told_59 : decode cX11_told 59 = .ok (.iload_n 1, 1) := by decide +kernel
theorem dX11_told_60 : decode cX11_told 60 = .ok (.iconst 5, 1) := by decide +kernel
theorem dX11_told_61 : decode cX11_told 61 = .ok (.if_icmp .ne 10, 3) := by decide +kernel
theorem dX11_told_64 : decode cX11_told 64 = .ok (.aload_n 0, 1) := by decide +kernel
theorem dX11_told_65 : decode cX11_told 65 = .ok (.getfield 185, 3) := by decide +kernel
theorem dX11_told_68 : decode cX11_told 68 = .ok (.goto 18, 3) := by decide +kernel
theorem dX11_told_71 : decode cX11_told 71 = .ok (.iload_n 1, 1) := by decide +kernel
theorem dX11_told_72 : decode cX11_told 72 = .ok (.bipush 6, 2) := by decide +kernel
theorem dX11_told_74 : decode cX11_told 74 = .ok (.if_icmp .ne 10, 3) := by decide +kernel
theorem dX11_told_77 : decode cX11_told 77 = .ok (.aload_n 0, 1) := by decide +kernel
theorem dX11_told_78 : decode cX11_told 78 = .ok (.getfield 188, 3) := by decide +kernel
theorem dX11_told_81 : decode cX11_told 81 = .ok (.goto 5, 3) := by decide +kernel
theorem dX11_told_84 : decode cX11_told 84 = .ok (.bipush (-2), 2) := by decide +kernel
theorem dX11_told_86 : decode cX11_told 86 = .ok (.ireturn, 1) := by decide +kernel
theorem dJ9_max_7cf53_0 : decode cJ9_max_7cf53 0 = .ok (.iload_n 0, 1) := by decide +kernel
theorem dJ9_max_7cf53_1 : decode cJ9_max_7cf53 1 = .ok (.iload_n 1, 1) := by decide +kernel
theorem dJ9_max_7cf53_2 : decode cJ9_max_7cf53 2 = .ok (.if_icmp .lt 7, 3) := by decide +kernel
theorem dJ9_max_7cf53_5 : decode cJ9_max_7cf53 5 = .ok (.iload_n 0, 1) := by decide +kernel
theorem dJ9_max_7cf53_6 : decode cJ9_max_7cf53 6 = .ok (.goto 4, 3) := by decide +kernel
theorem dJ9_max_7cf53_9 : decode cJ9_max_7cf53 9 = .ok (.iload_n 1, 1) := by decide +kernel
theorem dJ9_max_7cf53_10 : decode cJ9_max_7cf53 10 = .ok (.ireturn, 1) := by decide +kernel
theorem dJ9_min_7cf53_0 : decode cJ9_min_7cf53 0 = .ok (.iload_n 0, 1) := by decide +kernel
theorem dJ9_min_7cf53_1 : decode cJ9_min_7cf53 1 = .ok (.iload_n 1, 1) := by decide +kernel
theorem dJ9_min_7cf53_2 : decode cJ9_min_7cf53 2 = .ok (.if_icmp .gt 7, 3) := by decide +kernel
theorem dJ9_min_7cf53_5 : decode cJ9_min_7cf53 5 = .ok (.iload_n 0, 1) := by decide +kernel
theorem dJ9_min_7cf53_6 : decode cJ9_min_7cf53 6 = .ok (.goto 4, 3) := by decide +kernel
theorem dJ9_min_7cf53_9 : decode cJ9_min_7cf53 9 = .ok (.iload_n 1, 1) := by decide +kernel
theorem dJ9_min_7cf53_10 : decode cJ9_min_7cf53 10 = .ok (.ireturn, 1) := by decide +kernel
