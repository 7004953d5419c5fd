theorem dX11_type_37 : decode cX11_type 37 = .ok (.dup, 1) := by decide +kernel
theorem dX11_type_38 : decode cX11_type 38 = .ok (.getfield 126, 3) := by decide +kernel
theorem dX11_type_41 : decode cX11_type 41 = .ok (.iconst 1, 1) := by decide +kernel
theorem dX11_type_42 : decode cX11_type 42 = .ok (.iadd, 1) := by decide +kernel
theorem dX11_type_43 : decode cX11_type 43 = .ok (.putfield 126, 3) := by decide +kernel
theorem dX11_type_46 : decode cX11_type 46 = .ok (.aload_n 0, 1) := by decide +kernel
theorem dX11_type_47 : decode cX11_type 47 = .ok (.getfield 126, 3) := by decide +kernel
theorem dX11_type_50 : decode cX11_type 50 = .ok (.ireturn, 1) := by decide +kernel
theorem dX11_byteAt_0 : decode cX11_byteAt 0 = .ok (.iload_n 1, 1) := by decide +kernel
theorem dX11_byteAt_1 : decode cX11_byteAt 1 = .ok (.aload_n 0, 1) := by decide +kernel
theorem dX11_byteAt_2 : decode cX11_byteAt 2 = .ok (.getfield 126, 3) := by decide +kernel
theorem dX11_byteAt_5 : decode cX11_byteAt 5 = .ok (.if_icmp .ge 12, 3) := by decide +kernel
theorem dX11_byteAt_8 : decode cX11_byteAt 8 = .ok (.aload_n 0, 1) := by decide +kernel
theorem dX11_byteAt_9 : decode cX11_byteAt 9 = .ok (.getfield 43, 3) := by decide +kernel
theorem dX11_byteAt_12 : decode cX11_byteAt 12 = .ok (.iload_n 1, 1) := by decide +kernel
theorem dX11_byteAt_13 : decode cX11_byteAt 13 = .ok (.iaload, 1) := by decide +kernel
theorem dX11_byteAt_14 : decode cX11_byteAt 14 = .ok (.goto 4, 3) := by decide +kernel
theorem dX11_byteAt_17 : decode cX11_byteAt 17 = .ok (.iconst (-1), 1) := by decide +kernel
theorem dX11_byteAt_18 : decode cX11_byteAt 18 = .ok (.ireturn, 1) := by decide +kernel
theorem dX11_add_0 : decode cX11_add 0 = .ok (.aload_n 0, 1) := by decide +kernel
theorem dX11_add_1 : decode cX11_add 1 = .ok (.getfield 129, 3) := by decide +kernel
theorem dX11_add_4 : decode cX11_add 4 = .ok (.bipush 24, 2) := by decide +kernel
theorem dX11_add_6 : decode cX11_add 6 = .ok (.if_icmp .ne 9, 3) := by decide +kernel
theorem dX11_add_9 : decode cX11_add 9 = .ok (.aload_n 0, 1) := by decide +kernel
theorem dX11_add_10 : decode cX11_add 10 = .ok (.iconst 1, 1) := by decide +kernel
theorem dX11_add_11 : decode cX11_add 11 = .ok (.putfield 132, 3) := by decide +kernel
theorem dX11_add_14 : decode cX11_add 14 = .ok (.return_, 1) := by decide +kernel
theorem dX11_add_15 : decode cX11_add 15 = .ok (.aload_n 0, 1) := by decide +kernel
theorem dX11_add_16 : decode cX11_add 16 = .ok (.getfield 58, 3) := by decide +kernel
theorem dX11_add_19 : decode cX11_add 19 = .ok (.aload_n 0, 1) := by decide +kernel
theorem dX11_add_20 : decode cX11_add 20 = .ok (.getfield 129, 3) := by decide +kernel
theorem dX11_add_23 : decode cX11_add 23 = .ok (.iload_n 1, 1) := by decide +kernel
theorem dX11_add_24 : decode cX11_add 24 = .ok (.iastore, 1) := by decide +kernel
theorem dX11_add_25 : decode cX11_add 25 = .ok (.aload_n 0, 1) := by decide +kernel
theorem dX11_add_26 : decode cX11_add 26 = .ok (.getfield 61, 3) := by decide +kernel
theorem dX11_add_29 : decode cX11_add 29 = .ok (.aload_n 0, 1) := by decide +kernel
theorem dX11_add_30 : decode cX11_add 30 = .ok (.getfield 129, 3) := by decide +kernel
theorem dX11_add_33 : decode cX11_add 33 = .ok (.iload_n 2, 1) := by decide +kernel
theorem dX11_add_34 : decode cX11_add 34 = .ok (.iastore, 1) := by decide +kernel
theorem dX11_add_35 : decode cX11_add 35 = .ok (.aload_n 0, 1) := by decide +kernel
theorem dX11_add_36 : decode cX11_add 36 = .ok (.getfield 64, 3) := by decide +kernel
theorem dX11_add_39 : decode cX11_add 39 = .ok (.aload_n 0, 1) := by decide +kernel
theorem dX11_add_40 : decode cX11_add 40 = .ok (.getfield 129, 3) := by decide +kernel
theorem dX11_add_43 : decode cX11_add 43 = .ok (.iload_n 3, 1) := by decide +kernel
theorem dX11_add_44 : decode cX11_add 44 = .ok (.iastore, 1) := by decide +kernel
theorem dX11_add_45 : decode cX11_add 45 = .ok (.aload_n 0, 1) := by decide +kernel
theorem dX11_add_46 : decode cX11_add 46 = .ok (.getfield 67, 3) := by decide +kernel
theorem dX11_add_49 : decode cX11_add 49 = .ok (.aload_n 0, 1) := by decide +kernel
theorem dX11_add_50 : decode cX11_add 50 = .ok (.getfield 129, 3) := by decide +kernel
theorem dX11_add_53 : decode cX11_add 53 = .ok (.iload 4, 2) := by decide +kernel
theorem dX11_add_55 : decode cX11_add 55 = .ok (.iastore, 1) := by decide +kernel
theorem dX11_add_56 : decode cX11_add 56 = .ok (.aload_n 0, 1) := by decide +kernel
theorem dX11_add_57 : decode cX11_add 57 = .ok (.dup, 1) := by decide +kernel
theorem dX11_add_58 : decode cX11_add 58 = .ok (.getfield 129, 3) := by decide +kernel
theorem dX11_add_61 : decode cX11_add 61 = .ok (.iconst 1, 1) := by decide +kernel
theorem dX11_add_62 : decode cX11_add 62 = .ok (.iadd, 1) := by decide +kernel
theorem dX11_add_63 : decode cX11_add 63 = .ok (.putfield 129, 3) := by decide +kernel
theorem dX11_add_66 : decode cX11_add 66 = .ok (.return_, 1) := by decide +kernel
set_option maxRecDepth 20000 in
theorem ggX11_readLetters_X11_byteAt : GoodIn wsX11_readLetters wsX11_byteAt := goodIn_r _ [9, 10, 1, 45, 46, 47, 48, 49, 50, 51, 52, 53, 54, 55, 56, 57, 58, 59, 60, 61, 62, 63, 64, 65, 66, 67, 68, 69, 70, 71, 72, 73, 74, 75, 76, 77, 78, 79, 80, 81] (by decide +kernel) (by decide +kernel)
set_option maxRecDepth 20000 in
theorem gX11_readLetters_X11_byteAt : GoodIn wsX11_readLetters (wsV RX11 136 RX11 yX11_byteAt wsX11_byteAt) := goodIn_app (goodIn_of _ (by decide +kernel)) ggX11_readLetters_X11_byteAt
set_option maxRecDepth 20000 in
theorem ggX11_readLetters_X11_isLetter : GoodIn wsX11_readLetters wsX11_isLetter := goodIn_r _ [13, 14, 15, 8, 16] (by decide +kernel) (by decide +kernel)
set_option maxRecDepth 20000 in
theorem gX11_readLetters_X11_isLetter : GoodIn wsX11_readLetters (va_wsS RX11 96 yX11_isLetter wsX11_isLetter) := goodIn_app (goodIn_of _ (by decide +kernel)) ggX11_readLetters_X11_isLetter
set_option maxRecDepth 20000 in
theorem ggX11_readLetters_X11_found : GoodIn wsX11_readLetters wsX11_found := goodIn_r _ [20, 21, 22, 23, 24, 25, 8, 26, 27, 28, 29, 30, 31, 32, 33, 34, 14, 15, 16, 45, 46, 47, 48, 49, 50, 51, 52, 53, 54, 55, 56, 57, 58, 59, 60, 61, 62, 63, 64, 65, 66, 67, 68, 69, 70, 71, 72, 73, 74, 75, 76, 77, 78, 79, 80, 81] (by decide +kernel) (by decide +kernel)
set_option maxRecDepth 20000 in
theorem gX11_readLetters_X11_found : GoodIn wsX11_readLetters (wsV RX11 111 RX11 yX11_found wsX11_found) := goodIn_app (goodIn_of _ (by decide +kernel)) ggX11_readLetters_X11_found
set_option maxRecDepth 20000 in
theorem ggX11_readLetters_X11_add : GoodIn wsX11_readLetters wsX11_add := goodIn_r _ [38, 39, 40, 41, 42, 43, 44, 45, 46, 47, 48, 49, 50, 51, 52, 53, 54, 55, 56, 57, 58, 59, 60, 61, 62, 63, 64, 65, 66, 67, 68, 69, 70, 71, 72, 73, 74, 75, 76, 77, 78, 79, 80, 81] (by decide +kernel) (by decide +kernel)
set_option maxRecDepth 20000 in
theorem gX11_readLetters_X11_add : GoodIn wsX11_readLetters (wsV RX11 139 RX11 yX11_add wsX11_add) := goodIn_app (goodIn_of _ (by decide +kernel)) ggX11_readLetters_X11_add
set_option maxRecDepth 20000 in
theorem ggX11_readLetters_X11_isLike : GoodIn wsX11_readLetters wsX11_isLike := goodIn_r _ [26, 27, 28, 29, 30, 31, 32, 8, 33, 34, 14, 15, 16, 45, 46, 47, 48, 49, 50, 51, 52, 53, 54, 55, 56, 57, 58, 59, 60, 61, 62, 63, 64, 65, 66, 67, 68, 69, 70, 71, 72, 73, 74, 75, 76, 77, 78, 79, 80, 81] (by decide +kernel) (by decide +kernel)
set_option maxRecDepth 20000 in
theorem gX11_readLetters_X11_isLike : GoodIn wsX11_readLetters (wsV RX11 107 RX11 yX11_isLike wsX11_isLike) := goodIn_app (goodIn_of _ (by decide +kernel)) ggX11_readLetters_X11_isLike
theorem dX11_readLetters_0 : decode cX11_readLetters 0 = .ok (.iload_n 1, 1) := by decide +kernel
theorem dX11_readLetters_1 : decode cX11_readLetters 1 = .ok (.istore_n 3, 1) := by decide +kernel
theorem dX11_readLetters_2 : decode cX11_readLetters 2 = .ok (.aload_n 0, 1) := by decide +kernel
theorem dX11_readLetters_3 : decode cX11_readLetters 3 = .ok (.iload_n 3, 1) := by decide +kernel
theorem dX11_readLetters_4 : decode cX11_readLetters 4 = .ok (.invokevirtual 136, 3) := by decide +kernel
theorem dX11_readLetters_7 : decode cX11_readLetters 7 = .ok (.invokestatic 96, 3) := by decide +kernel
theorem dX11_readLetters_10 : decode cX11_readLetters 10 = .ok (.ifCond .eq 9, 3) := by decide +kernel
theorem dX11_readLetters_13 : decode cX11_readLetters 13 = .ok (.iinc 3 1, 3) := by decide +kernel
theorem dX11_readLetters_16 : decode cX11_readLetters 16 = .ok (.goto (-14), 3) := by decide +kernel
theorem dX11_readLetters_19 : decode cX11_readLetters 19 = .ok (.aload_n 0, 1) := by decide +kernel
theorem dX11_readLetters_20 : decode cX11_readLetters 20 = .ok (.aload_n 0, 1) := by decide +kernel
theorem dX11_readLetters_21 : decode cX11_readLetters 21 = .ok (.getfield 43, 3) := by decide +kernel
theorem dX11_readLetters_24 : decode cX11_readLetters 24 = .ok (.iload_n 1, 1) := by decide +kernel
theorem dX11_readLetters_25 : decode cX11_readLetters 25 = .ok (.iload_n 3, 1) := by decide +kernel
theorem dX11_readLetters_26 : decode cX11_readLetters 26 = .ok (.iload_n 1, 1) := by decide +kernel
theorem dX11_readLetters_27 : decode cX11_readLetters 27 = .ok (.isub, 1) := by decide +kernel
theorem dX11_readLetters_28 : decode cX11_readLetters 28 = .ok (.iload_n 2, 1) := by decide +kernel
theorem dX11_readLetters_29 : decode cX11_readLetters 29 = .ok (.invokevirtual 111, 3) := by decide +kernel
theorem dX11_readLetters_32 : decode cX11_readLetters 32 = .ok (.istore 4, 2) := by decide +kernel
theorem dX11_readLetters_34 : decode cX11_readLetters 34 = .ok (.iload 4, 2) := by decide +kernel
theorem dX11_readLetters_36 : decode cX11_readLetters 36 = .ok (.ifCond .ge 18, 3) := by decide +kernel
theorem dX11_readLetters_39 : decode cX11_readLetters 39 = .ok (.aload_n 0, 1) := by decide +kernel
theorem dX11_readLetters_40 : decode cX11_readLetters 40 = .ok (.aload_n 0, 1) := by decide +kernel
theorem dX11_readLetters_41 : decode cX11_readLetters 41 = .ok (.getfield 43, 3) := by decide +kernel
theorem dX11_readLetters_44 : decode cX11_readLetters 44 = .ok (.iload_n 1, 1) := by decide +kernel
theorem dX11_readLetters_45 : decode cX11_readLetters 45 = .ok (.iload_n 3, 1) := by decide +kernel
theorem dX11_readLetters_46 : decode cX11_readLetters 46 = .ok (.iload_n 1, 1) := by decide +kernel
theorem dX11_readLetters_47 : decode cX11_readLetters 47 = .ok (.isub, 1) := by decide +kernel
theorem dX11_readLetters_48 : decode cX11_readLetters 48 = .ok (.iconst 0, 1) := by decide +kernel
theorem dX11_readLetters_49 : decode cX11_readLetters 49 = .ok (.invokevirtual 111, 3) := by decide +kernel
theorem dX11_readLetters_52 : decode cX11_readLetters 52 = .ok (.istore 4, 2) := by decide +kernel
theorem dX11_readLetters_54 : decode cX11_readLetters 54 = .ok (.iload 4, 2) := by decide +kernel
theorem dX11_readLetters_56 : decode cX11_readLetters 56 = .ok (.ifCond .lt 16, 3) := by decide +kernel
theorem dX11_readLetters_59 : decode cX11_readLetters 59 = .ok (.aload_n 0, 1) := by decide +kernel
theorem dX11_readLetters_60 : decode cX11_readLetters 60 = .ok (.iconst 0, 1) := by decide +kernel
theorem dX11_readLetters_61 : decode cX11_readLetters 61 = .ok (.iload_n 1, 1) := by decide +kernel
theorem dX11_readLetters_62 : decode cX11_readLetters 62 = .ok (.iload_n 3, 1) := by decide +kernel
theorem dX11_readLetters_63 : decode cX11_readLetters 63 = .ok (.iload_n 1, 1) := by decide +kernel
theorem dX11_readLetters_64 : decode cX11_readLetters 64 = .ok (.isub, 1) := by decide +kernel
theorem dX11_readLetters_65 : decode cX11_readLetters 65 = .ok (.iload 4, 2) := by decide +kernel
theorem dX11_readLetters_67 : decode cX11_readLetters 67 = .ok (.invokevirtual 139, 3) := by decide +kernel
theorem dX11_readLetters_70 : decode cX11_readLetters 70 = .ok (.iload_n 3, 1) := by decide +kernel
theorem dX11_readLetters_71 : decode cX11_readLetters 71 = .ok (.ireturn, 1) := by decide +kernel
theorem dX11_readLetters_72 : decode cX11_readLetters 72 = .ok (.iconst 0, 1) := by decide +kernel
theorem dX11_readLetters_73 : decode cX11_readLetters 73 = .ok (.istore 5, 2) := by decide +kernel
theorem dX11_readLetters_75 : decode cX11_readLetters 75 = .ok (.iload 5, 2) := by decide +kernel
theorem dX11_readLetters_77 : decode cX11_readLetters 77 = .ok (.aload_n 0, 1) := by decide +kernel
theorem dX11_readLetters_78 : decode cX11_readLetters 78 = .ok (.getfield 93, 3) := by decide +kernel
theorem dX11_readLetters_81 : decode cX11_readLetters 81 = .ok (.if_icmp .ge 63, 3) := by decide +kernel
theorem dX11_readLetters_84 : decode cX11_readLetters 84 = .ok (.aload_n 0, 1) := by decide +kernel
theorem dX11_readLetters_85 : decode cX11_readLetters 85 = .ok (.aload_n 0, 1) := by decide +kernel
theorem dX11_readLetters_86 : decode cX11_readLetters 86 = .ok (.getfield 43, 3) := by decide +kernel
theorem dX11_readLetters_89 : decode cX11_readLetters 89 = .ok (.iload_n 1, 1) := by decide +kernel
theorem dX11_readLetters_90 : decode cX11_readLetters 90 = .ok (.iload_n 3, 1) := by decide +kernel
theorem dX11_readLetters_91 : decode cX11_readLetters 91 = .ok (.iload_n 1, 1) := by decide +kernel
theorem dX11_readLetters_92 : decode cX11_readLetters 92 = .ok (.isub, 1) := by decide +kernel
theorem dX11_readLetters_93 : decode cX11_readLetters 93 = .ok (.bipush 40, 2) := by decide +kernel
theorem dX11_readLetters_95 : decode cX11_readLetters 95 = .ok (.iload 5, 2) := by decide +kernel
theorem dX11_readLetters_97 : decode cX11_readLetters 97 = .ok (.iadd, 1) := by decide +kernel
theorem dX11_readLetters_98 : decode cX11_readLetters 98 = .ok (.invokevirtual 107, 3) := by decide +kernel
theorem dX11_readLetters_101 : decode cX11_readLetters 101 = .ok (.ifCond .eq 37, 3) := by decide +kernel
theorem dX11_readLetters_104 : decode cX11_readLetters 104 = .ok (.aload_n 0, 1) := by decide +kernel
theorem dX11_readLetters_105 : decode cX11_readLetters 105 = .ok (.iconst 0, 1) := by decide +kernel
theorem dX11_readLetters_106 : decode cX11_readLetters 106 = .ok (.iload_n 1, 1) := by decide +kernel
theorem dX11_readLetters_107 : decode cX11_readLetters 107 = .ok (.iload_n 3, 1) := by decide +kernel
theorem dX11_readLetters_108 : decode cX11_readLetters 108 = .ok (.iload_n 1, 1) := by decide +kernel
theorem dX11_readLetters_109 : decode cX11_readLetters 109 = .ok (.isub, 1) := by decide +kernel
theorem dX11_readLetters_110 : decode cX11_readLetters 110 = .ok (.aload_n 0, 1) := by decide +kernel
theorem dX11_readLetters_111 : decode cX11_readLetters 111 = .ok (.getfield 37, 3) := by decide +kernel
theorem dX11_readLetters_114 : decode cX11_readLetters 114 = .ok (.iload 5, 2) := by decide +kernel
theorem dX11_readLetters_116 : decode cX11_readLetters 116 = .ok (.iaload, 1) := by decide +kernel
theorem dX11_readLetters_117 : decode cX11_readLetters 117 = .ok (.invokevirtual 139, 3) := by decide +kernel
theorem dX11_readLetters_120 : decode cX11_readLetters 120 = .ok (.aload_n 0, 1) := by decide +kernel
theorem dX11_readLetters_121 : decode cX11_readLetters 121 = .ok (.iconst 0, 1) := by decide +kernel
theorem dX11_readLetters_122 : decode cX11_readLetters 122 = .ok (.iload_n 1, 1) := by decide +kernel
theorem dX11_readLetters_123 : decode cX11_readLetters 123 = .ok (.iload_n 3, 1) := by decide +kernel
theorem dX11_readLetters_124 : decode cX11_readLetters 124 = .ok (.iload_n 1, 1) := by decide +kernel
theorem dX11_readLetters_125 : decode cX11_readLetters 125 = .ok (.isub, 1) := by decide +kernel
theorem dX11_readLetters_126 : decode cX11_readLetters 126 = .ok (.aload_n 0, 1) := by decide +kernel
theorem dX11_readLetters_127 : decode cX11_readLetters 127 = .ok (.getfield 40, 3) := by decide +kernel
theorem dX11_readLetters_130 : decode cX11_readLetters 130 = .ok (.iload 5, 2) := by decide +kernel
theorem dX11_readLetters_132 : decode cX11_readLetters 132 = .ok (.iaload, 1) := by decide +kernel
theorem dX11_readLetters_133 : decode cX11_readLetters 133 = .ok (.invokevirtual 139, 3) := by decide +kernel
theorem dX11_readLetters_136 : decode cX11_readLetters 136 = .ok (.iload_n 3, 1) := by decide +kernel
theorem dX11_readLetters_137 : decode cX11_readLetters 137 = .ok (.ireturn, 1) := by decide +kernel
theorem dX11_readLetters_138 : decode cX11_readLetters 138 = .ok (.iinc 5 1, 3) := by decide +kernel
theorem dX11_readLetters_141 : decode cX11_readLetters 141 = .ok (.goto (-66), 3) := by decide +kernel
theorem dX11_readLetters_144 : decode cX11_readLetters 144 = .ok (.aload_n 0, 1) := by decide +kernel
theorem dX11_readLetters_145 : decode cX11_readLetters 145 = .ok (.iconst 1, 1) := by decide +kernel
theorem dX11_readLetters_146 : decode cX11_readLetters 146 = .ok (.iload_n 1, 1) := by decide +kernel
theorem dX11_readLetters_147 : decode cX11_readLetters 147 = .ok (.iload_n 3, 1) := by decide +kernel
theorem dX11_readLetters_148 : decode cX11_readLetters 148 = .ok (.iload_n 1, 1) := by decide +kernel
theorem dX11_readLetters_149 : decode cX11_readLetters 149 = .ok (.isub, 1) := by decide +kernel
theorem dX11_readLetters_150 : decode cX11_readLetters 150 = .ok (.iconst (-1), 1) := by decide +kernel
theorem dX11_readLetters_151 : decode cX11_readLetters 151 = .ok (.invokevirtual 139, 3) := by decide +kernel
theorem dX11_readLetters_154 : decode cX11_readLetters 154 = .ok (.iload_n 3, 1) := by decide +kernel
theorem dX11_readLetters_155 : decode cX11_readLetters 155 = .ok (.ireturn, 1) := by decide +kernel
theorem dX11_numberOf_0 : decode cX11_numberOf 0 = .ok (.iconst 0, 1) := by decide +kernel
theorem dX11_numberOf_1 : decode cX11_numberOf 1 = .ok (.istore_n 3, 1) := by decide +kernel
theorem dX11_numberOf_2 : decode cX11_numberOf 2 = .ok (.iload_n 1, 1) := by decide +kernel
theorem dX11_numberOf_3 : decode cX11_numberOf 3 = .ok (.istore 4, 2) := by decide +kernel
theorem dX11_numberOf_5 : decode cX11_numberOf 5 = .ok (.iload 4, 2) := by decide +kernel
theorem dX11_numberOf_7 : decode cX11_numberOf 7 = .ok (.iload_n 2, 1) := by decide +kernel
theorem dX11_numberOf_8 : decode cX11_numberOf 8 = .ok (.if_icmp .ge 38, 3) := by decide +kernel
theorem dX11_numberOf_11 : decode cX11_numberOf 11 = .ok (.bipush 10, 2) := by decide +kernel
theorem dX11_numberOf_13 : decode cX11_numberOf 13 = .ok (.iload_n 3, 1) := by decide +kernel
theorem dX11_numberOf_14 : decode cX11_numberOf 14 = .ok (.imul, 1) := by decide +kernel
theorem dX11_numberOf_15 : decode cX11_numberOf 15 = .ok (.aload_n 0, 1) := by decide +kernel
theorem dX11_numberOf_16 : decode cX11_numberOf 16 = .ok (.getfield 43, 3) := by decide +kernel
theorem dX11_numberOf_19 : decode cX11_numberOf 19 = .ok (.iload 4, 2) := by decide +kernel
theorem dX11_numberOf_21 : decode cX11_numberOf 21 = .ok (.iaload, 1) := by decide +kernel
theorem dX11_numberOf_22 : decode cX11_numberOf 22 = .ok (.iadd, 1) := by decide +kernel
theorem dX11_numberOf_23 : decode cX11_numberOf 23 = .ok (.bipush 48, 2) := by decide +kernel
theorem dX11_numberOf_25 : decode cX11_numberOf 25 = .ok (.isub, 1) := by decide +kernel
theorem dX11_numberOf_26 : decode cX11_numberOf 26 = .ok (.istore_n 3, 1) := by decide +kernel
theorem dX11_numberOf_27 : decode cX11_numberOf 27 = .ok (.iload_n 3, 1) := by decide +kernel
theorem dX11_numberOf_28 : decode cX11_numberOf 28 = .ok (.ldc 143, 2) := by decide +kernel
theorem dX11_numberOf_30 : decode cX11_numberOf 30 = .ok (.if_icmp .le 8, 3) := by decide +kernel
theorem dX11_numberOf_33 : decode cX11_numberOf 33 = .ok (.ldc 143, 2) := by decide +kernel
theorem dX11_numberOf_35 : decode cX11_numberOf 35 = .ok (.goto 4, 3) := by decide +kernel
theorem dX11_numberOf_38 : decode cX11_numberOf 38 = .ok (.iload_n 3, 1) := by decide +kernel
theorem dX11_numberOf_39 : decode cX11_numberOf 39 = .ok (.istore_n 3, 1) := by decide +kernel
theorem dX11_numberOf_40 : decode cX11_numberOf 40 = .ok (.iinc 4 1, 3) := by decide +kernel
theorem dX11_numberOf_43 : decode cX11_numberOf 43 = .ok (.goto (-38), 3) := by decide +kernel
theorem dX11_numberOf_46 : decode cX11_numberOf 46 = .ok (.iload_n 3, 1) := by decide +kernel
theorem dX11_numberOf_47 : decode cX11_numberOf 47 = .ok (.ireturn, 1) := by decide +kernel
set_option maxRecDepth 20000 in
theorem ggX11_readDigits_X11_byteAt : GoodIn wsX11_readDigits wsX11_byteAt := goodIn_r _ [5, 6, 7, 41, 42, 43, 44, 45, 46, 47, 48, 49, 50, 51, 52, 53, 54, 55, 56, 57, 58, 59, 60, 61, 62, 63, 64, 65, 66, 67, 68, 69, 70, 71, 72, 73, 74, 75, 76, 77] (by decide +kernel) (by decide +kernel)
set_option maxRecDepth 20000 in
theorem gX11_readDigits_X11_byteAt : GoodIn wsX11_readDigits (wsV RX11 136 RX11 yX11_byteAt wsX11_byteAt) := goodIn_app (goodIn_of _ (by decide +kernel)) ggX11_readDigits_X11_byteAt
set_option maxRecDepth 20000 in
theorem ggX11_readDigits_X11_isDigit : GoodIn wsX11_readDigits wsX11_isDigit := goodIn_r _ [10, 11, 12, 4, 13] (by decide +kernel) (by decide +kernel)
set_option maxRecDepth 20000 in
theorem gX11_readDigits_X11_isDigit : GoodIn wsX11_readDigits (va_wsS RX11 144 yX11_isDigit wsX11_isDigit) := goodIn_app (goodIn_of _ (by decide +kernel)) ggX11_readDigits_X11_isDigit
set_option maxRecDepth 20000 in
theorem ggX11_readDigits_X11_numberOf : GoodIn wsX11_readDigits wsX11_numberOf := goodIn_r _ [17, 7, 18, 41, 42, 43, 44, 45, 46, 47, 48, 49, 50, 51, 52, 53, 54, 55, 56, 57, 58, 59, 60, 61, 62, 63, 64, 65, 66, 67, 68, 69, 70, 71, 72, 73, 74, 75, 76, 77] (by decide +kernel) (by decide +kernel)
set_option maxRecDepth 20000 in
theorem gX11_readDigits_X11_numberOf : GoodIn wsX11_readDigits (wsV RX11 147 RX11 yX11_numberOf wsX11_numberOf) := goodIn_app (goodIn_of _ (by decide +kernel)) ggX11_readDigits_X11_numberOf
set_option maxRecDepth 20000 in
theorem ggX11_readDigits_X11_readTime : GoodIn wsX11_readDigits wsX11_readTime := goodIn_r _ [22, 1, 2, 3, 4, 5, 6, 7, 23, 24, 25, 11, 12, 13, 26, 27, 28, 29, 30, 14, 15, 16, 17, 18, 31, 32, 33, 34, 35, 36, 37, 38, 39, 40, 41, 42, 43, 44, 45, 46, 47, 48, 49, 50, 51, 52, 53, 54, 55, 56, 57, 58, 59, 60, 61, 62, 63, 64, 65, 66, 67, 68, 69, 70, 71, 72, 73, 74, 75, 76, 77] (by decide +kernel) (by decide +kernel)
set_option maxRecDepth 20000 in
theorem gX11_readDigits_X11_readTime : GoodIn wsX11_readDigits (wsV RX11 151 RX11 yX11_readTime wsX11_readTime) := goodIn_app (goodIn_of _ (by decide +kernel)) ggX11_readDigits_X11_readTime
set_option maxRecDepth 20000 in
theorem ggX11_readDigits_X11_add : GoodIn wsX11_readDigits wsX11_add := goodIn_r _ [34, 35, 36, 37, 38, 39, 40, 41, 42, 43, 44, 45, 46, 47, 48, 49, 50, 51, 52, 53, 54, 55, 56, 57, 58, 59, 60, 61, 62, 63, 64, 65, 66, 67, 68, 69, 70, 71, 72, 73, 74, 75, 76, 77] (by decide +kernel) (by decide +kernel)
set_option maxRecDepth 20000 in
theorem gX11_readDigits_X11_add : GoodIn wsX11_readDigits (wsV RX11 139 RX11 yX11_add wsX11_add) := goodIn_app (goodIn_of _ (by decide +kernel)) ggX11_readDigits_X11_add
theorem dX11_readDigits_0 : decode cX11_readDigits 0 = .ok (.iload_n 1, 1) := by decide +kernel
theorem dX11_readDigits_1 : decode cX11_readDigits 1 = .ok (.istore_n 2, 1) := by decide +kernel
theorem dX11_readDigits_2 : decode cX11_readDigits 2 = .ok (.aload_n 0, 1) := by decide +kernel
theorem dX11_readDigits_3 : decode cX11_readDigits 3 = .ok (.iload_n 2, 1) := by decide +kernel
theorem dX11_readDigits_4 : decode cX11_readDigits 4 = .ok (.invokevirtual 136, 3) := by decide +kernel
theorem dX11_readDigits_7 : decode cX11_readDigits 7 = .ok (.invokestatic 144, 3) := by decide +kernel
theorem dX11_readDigits_10 : decode cX11_readDigits 10 = .ok (.ifCond .eq 9, 3) := by decide +kernel
theorem dX11_readDigits_13 : decode cX11_readDigits 13 = .ok (.iinc 2 1, 3) := by decide +kernel
theorem dX11_readDigits_16 : decode cX11_readDigits 16 = .ok (.goto (-14), 3) := by decide +kernel
theorem dX11_readDigits_19 : decode cX11_readDigits 19 = .ok (.aload_n 0, 1) := by decide +kernel
theorem dX11_readDigits_20 : decode cX11_readDigits 20 = .ok (.iload_n 1, 1) := by decide +kernel
theorem dX11_readDigits_21 : decode cX11_readDigits 21 = .ok (.iload_n 2, 1) := by decide +kernel
theorem dX11_readDigits_22 : decode cX11_readDigits 22 = .ok (.invokevirtual 147, 3) := by decide +kernel
theorem dX11_readDigits_25 : decode cX11_readDigits 25 = .ok (.istore_n 3, 1) := by decide +kernel
theorem dX11_readDigits_26 : decode cX11_readDigits 26 = .ok (.iload_n 2, 1) := by decide +kernel
theorem dX11_readDigits_27 : decode cX11_readDigits 27 = .ok (.iload_n 1, 1) := by decide +kernel
theorem dX11_readDigits_28 : decode cX11_readDigits 28 = .ok (.isub, 1) := by decide +kernel
theorem dX11_readDigits_29 : decode cX11_readDigits 29 = .ok (.iconst 3, 1) := by decide +kernel
theorem dX11_readDigits_30 : decode cX11_readDigits 30 = .ok (.if_icmp .ge 81, 3) := by decide +kernel
theorem dX11_readDigits_33 : decode cX11_readDigits 33 = .ok (.aload_n 0, 1) := by decide +kernel
theorem dX11_readDigits_34 : decode cX11_readDigits 34 = .ok (.iload_n 2, 1) := by decide +kernel
theorem dX11_readDigits_35 : decode cX11_readDigits 35 = .ok (.invokevirtual 136, 3) := by decide +kernel
theorem dX11_readDigits_38 : decode cX11_readDigits 38 = .ok (.bipush 58, 2) := by decide +kernel
theorem dX11_readDigits_40 : decode cX11_readDigits 40 = .ok (.if_icmp .ne 71, 3) := by decide +kernel
theorem dX11_readDigits_43 : decode cX11_readDigits 43 = .ok (.aload_n 0, 1) := by decide +kernel
theorem dX11_readDigits_44 : decode cX11_readDigits 44 = .ok (.iload_n 2, 1) := by decide +kernel
theorem dX11_readDigits_45 : decode cX11_readDigits 45 = .ok (.iconst 1, 1) := by decide +kernel
theorem dX11_readDigits_46 : decode cX11_readDigits 46 = .ok (.iadd, 1) := by decide +kernel
theorem dX11_readDigits_47 : decode cX11_readDigits 47 = .ok (.invokevirtual 136, 3) := by decide +kernel
theorem dX11_readDigits_50 : decode cX11_readDigits 50 = .ok (.invokestatic 144, 3) := by decide +kernel
theorem dX11_readDigits_53 : decode cX11_readDigits 53 = .ok (.ifCond .eq 58, 3) := by decide +kernel
theorem dX11_readDigits_56 : decode cX11_readDigits 56 = .ok (.aload_n 0, 1) := by decide +kernel
theorem dX11_readDigits_57 : decode cX11_readDigits 57 = .ok (.iload_n 2, 1) := by decide +kernel
theorem dX11_readDigits_58 : decode cX11_readDigits 58 = .ok (.iconst 2, 1) := by decide +kernel
theorem dX11_readDigits_59 : decode cX11_readDigits 59 = .ok (.iadd, 1) := by decide +kernel
theorem dX11_readDigits_60 : decode cX11_readDigits 60 = .ok (.invokevirtual 136, 3) := by decide +kernel
theorem dX11_readDigits_63 : decode cX11_readDigits 63 = .ok (.invokestatic 144, 3) := by decide +kernel
theorem dX11_readDigits_66 : decode cX11_readDigits 66 = .ok (.ifCond .eq 45, 3) := by decide +kernel
theorem dX11_readDigits_69 : decode cX11_readDigits 69 = .ok (.aload_n 0, 1) := by decide +kernel
theorem dX11_readDigits_70 : decode cX11_readDigits 70 = .ok (.iload_n 2, 1) := by decide +kernel
theorem dX11_readDigits_71 : decode cX11_readDigits 71 = .ok (.iconst 3, 1) := by decide +kernel
theorem dX11_readDigits_72 : decode cX11_readDigits 72 = .ok (.iadd, 1) := by decide +kernel
theorem dX11_readDigits_73 : decode cX11_readDigits 73 = .ok (.invokevirtual 136, 3) := by decide +kernel
theorem dX11_readDigits_76 : decode cX11_readDigits 76 = .ok (.invokestatic 144, 3) := by decide +kernel
theorem dX11_readDigits_79 : decode cX11_readDigits 79 = .ok (.ifCond .ne 32, 3) := by decide +kernel
theorem dX11_readDigits_82 : decode cX11_readDigits 82 = .ok (.iload_n 3, 1) := by decide +kernel
theorem dX11_readDigits_83 : decode cX11_readDigits 83 = .ok (.bipush 24, 2) := by decide +kernel
theorem dX11_readDigits_85 : decode cX11_readDigits 85 = .ok (.if_icmp .ge 26, 3) := by decide +kernel
theorem dX11_readDigits_88 : decode cX11_readDigits 88 = .ok (.aload_n 0, 1) := by decide +kernel
theorem dX11_readDigits_89 : decode cX11_readDigits 89 = .ok (.iload_n 2, 1) := by decide +kernel
theorem dX11_readDigits_90 : decode cX11_readDigits 90 = .ok (.iconst 1, 1) := by decide +kernel
theorem dX11_readDigits_91 : decode cX11_readDigits 91 = .ok (.iadd, 1) := by decide +kernel
theorem dX11_readDigits_92 : decode cX11_readDigits 92 = .ok (.iload_n 2, 1) := by decide +kernel
theorem dX11_readDigits_93 : decode cX11_readDigits 93 = .ok (.iconst 3, 1) := by decide +kernel
theorem dX11_readDigits_94 : decode cX11_readDigits 94 = .ok (.iadd, 1) := by decide +kernel
theorem dX11_readDigits_95 : decode cX11_readDigits 95 = .ok (.invokevirtual 147, 3) := by decide +kernel
theorem dX11_readDigits_98 : decode cX11_readDigits 98 = .ok (.bipush 60, 2) := by decide +kernel
theorem dX11_readDigits_100 : decode cX11_readDigits 100 = .ok (.if_icmp .ge 11, 3) := by decide +kernel
theorem dX11_readDigits_103 : decode cX11_readDigits 103 = .ok (.aload_n 0, 1) := by decide +kernel
theorem dX11_readDigits_104 : decode cX11_readDigits 104 = .ok (.iload_n 1, 1) := by decide +kernel
theorem dX11_readDigits_105 : decode cX11_readDigits 105 = .ok (.iload_n 2, 1) := by decide +kernel
theorem dX11_readDigits_106 : decode cX11_readDigits 106 = .ok (.iload_n 3, 1) := by decide +kernel
theorem dX11_readDigits_107 : decode cX11_readDigits 107 = .ok (.invokevirtual 151, 3) := by decide +kernel
theorem dX11_readDigits_110 : decode cX11_readDigits 110 = .ok (.ireturn, 1) := by decide +kernel
theorem dX11_readDigits_111 : decode cX11_readDigits 111 = .ok (.iload_n 3, 1) := by decide +kernel
theorem dX11_readDigits_112 : decode cX11_readDigits 112 = .ok (.sipush 30000, 3) := by decide +kernel
theorem dX11_readDigits_115 : decode cX11_readDigits 115 = .ok (.if_icmp .le 17, 3) := by decide +kernel
theorem dX11_readDigits_118 : decode cX11_readDigits 118 = .ok (.aload_n 0, 1) := by decide +kernel
theorem dX11_readDigits_119 : decode cX11_readDigits 119 = .ok (.bipush 6, 2) := by decide +kernel
theorem dX11_readDigits_121 : decode cX11_readDigits 121 = .ok (.iload_n 1, 1) := by decide +kernel
theorem dX11_readDigits_122 : decode cX11_readDigits 122 = .ok (.iload_n 2, 1) := by decide +kernel
theorem dX11_readDigits_123 : decode cX11_readDigits 123 = .ok (.iload_n 1, 1) := by decide +kernel
theorem dX11_readDigits_124 : decode cX11_readDigits 124 = .ok (.isub, 1) := by decide +kernel
theorem dX11_readDigits_125 : decode cX11_readDigits 125 = .ok (.iconst (-1), 1) := by decide +kernel
theorem dX11_readDigits_126 : decode cX11_readDigits 126 = .ok (.invokevirtual 139, 3) := by decide +kernel
theorem dX11_readDigits_129 : decode cX11_readDigits 129 = .ok (.goto 13, 3) := by decide +kernel
theorem dX11_readDigits_132 : decode cX11_readDigits 132 = .ok (.aload_n 0, 1) := by decide +kernel
theorem dX11_readDigits_133 : decode cX11_readDigits 133 = .ok (.iconst 2, 1) := by decide +kernel
theorem dX11_readDigits_134 : decode cX11_readDigits 134 = .ok (.iload_n 1, 1) := by decide +kernel
theorem dX11_readDigits_135 : decode cX11_readDigits 135 = .ok (.iload_n 2, 1) := by decide +kernel
theorem dX11_readDigits_136 : decode cX11_readDigits 136 = .ok (.iload_n 1, 1) := by decide +kernel
theorem dX11_readDigits_137 : decode cX11_readDigits 137 = .ok (.isub, 1) := by decide +kernel
theorem dX11_readDigits_138 : decode cX11_readDigits 138 = .ok (.iload_n 3, 1) := by decide +kernel
theorem dX11_readDigits_139 : decode cX11_readDigits 139 = .ok (.invokevirtual 139, 3) := by decide +kernel
theorem dX11_readDigits_142 : decode cX11_readDigits 142 = .ok (.iload_n 2, 1) := by decide +kernel
theorem dX11_readDigits_143 : decode cX11_readDigits 143 = .ok (.ireturn, 1) := by decide +kernel
set_option maxRecDepth 20000 in
theorem ggX11_readTime_X11_byteAt : GoodIn wsX11_readTime wsX11_byteAt := goodIn_r _ [5, 6, 7, 34, 35, 36, 37, 38, 39, 40, 41, 42, 43, 44, 45, 46, 47, 48, 49, 50, 51, 52, 53, 54, 55, 56, 57, 58, 59, 60, 61, 62, 63, 64, 65, 66, 67, 68, 69, 70] (by decide +kernel) (by decide +kernel)
set_option maxRecDepth 20000 in
theorem gX11_readTime_X11_byteAt : GoodIn wsX11_readTime (wsV RX11 136 RX11 yX11_byteAt wsX11_byteAt) := goodIn_app (goodIn_of _ (by decide +kernel)) ggX11_readTime_X11_byteAt
set_option maxRecDepth 20000 in
theorem ggX11_readTime_X11_isLetter : GoodIn wsX11_readTime wsX11_isLetter := goodIn_r _ [10, 11, 12, 4, 13] (by decide +kernel) (by decide +kernel)
set_option maxRecDepth 20000 in
theorem gX11_readTime_X11_isLetter : GoodIn wsX11_readTime (va_wsS RX11 96 yX11_isLetter wsX11_isLetter) := goodIn_app (goodIn_of _ (by decide +kernel)) ggX11_readTime_X11_isLetter
set_option maxRecDepth 20000 in
theorem ggX11_readTime_X11_folded : GoodIn wsX11_readTime wsX11_folded := goodIn_r _ [17, 18, 11, 12, 4, 13, 34, 35, 36, 37, 38, 39, 40, 41, 42, 43, 44, 45, 46, 47, 48, 49, 50, 51, 52, 53, 54, 55, 56, 57, 58, 59, 60, 61, 62, 63, 64, 65, 66, 67, 68, 69, 70] (by decide +kernel) (by decide +kernel)
set_option maxRecDepth 20000 in
theorem gX11_readTime_X11_folded : GoodIn wsX11_readTime (wsV RX11 103 RX11 yX11_folded wsX11_folded) := goodIn_app (goodIn_of _ (by decide +kernel)) ggX11_readTime_X11_folded
set_option maxRecDepth 20000 in
theorem ggX11_readTime_X11_in : GoodIn wsX11_readTime wsX11_in := goodIn_r _ [13] (by decide +kernel) (by decide +kernel)
set_option maxRecDepth 20000 in
theorem gX11_readTime_X11_in : GoodIn wsX11_readTime (va_wsS RX11 86 yX11_in wsX11_in) := goodIn_app (goodIn_of _ (by decide +kernel)) ggX11_readTime_X11_in
set_option maxRecDepth 20000 in
theorem ggX11_readTime_X11_numberOf : GoodIn wsX11_readTime wsX11_numberOf := goodIn_r _ [22, 7, 23, 34, 35, 36, 37, 38, 39, 40, 41, 42, 43, 44, 45, 46, 47, 48, 49, 50, 51, 52, 53, 54, 55, 56, 57, 58, 59, 60, 61, 62, 63, 64, 65, 66, 67, 68, 69, 70] (by decide +kernel) (by decide +kernel)
set_option maxRecDepth 20000 in
theorem gX11_readTime_X11_numberOf : GoodIn wsX11_readTime (wsV RX11 147 RX11 yX11_numberOf wsX11_numberOf) := goodIn_app (goodIn_of _ (by decide +kernel)) ggX11_readTime_X11_numberOf
set_option maxRecDepth 20000 in
theorem ggX11_readTime_X11_add : GoodIn wsX11_readTime wsX11_add := goodIn_r _ [27, 28, 29, 30, 31, 32, 33, 34, 35, 36, 37, 38, 39, 40, 41, 42, 43, 44, 45, 46, 47, 48, 49, 50, 51, 52, 53, 54, 55, 56, 57, 58, 59, 60, 61, 62, 63, 64, 65, 66, 67, 68, 69, 70] (by decide +kernel) (by decide +kernel)
set_option maxRecDepth 20000 in
theorem gX11_readTime_X11_add : GoodIn wsX11_readTime (wsV RX11 139 RX11 yX11_add wsX11_add) := goodIn_app (goodIn_of _ (by decide +kernel)) ggX11_readTime_X11_add
theorem dX11_readTime_0 : decode cX11_readTime 0 = .ok (.iload_n 2, 1) := by decide +kernel
theorem dX11_readTime_1 : decode cX11_readTime 1 = .ok (.iconst 3, 1) := by decide +kernel
theorem dX11_readTime_2 : decode cX11_readTime 2 = .ok (.iadd, 1) := by decide +kernel
theorem dX11_readTime_3 : decode cX11_readTime 3 = .ok (.istore 4, 2) := by decide +kernel
theorem dX11_readTime_5 : decode cX11_readTime 5 = .ok (.iload_n 3, 1) := by decide +kernel
theorem dX11_readTime_6 : decode cX11_readTime 6 = .ok (.istore 5, 2) := by decide +kernel
theorem dX11_readTime_8 : decode cX11_readTime 8 = .ok (.aload_n 0, 1) := by decide +kernel
theorem dX11_readTime_9 : decode cX11_readTime 9 = .ok (.iload 4, 2) := by decide +kernel
theorem dX11_readTime_11 : decode cX11_readTime 11 = .ok (.invokevirtual 136, 3) := by decide +kernel
theorem dX11_readTime_14 : decode cX11_readTime 14 = .ok (.invokestatic 96, 3) := by decide +kernel
theorem dX11_readTime_17 : decode cX11_readTime 17 = .ok (.ifCond .eq 16, 3) := by decide +kernel
theorem dX11_readTime_20 : decode cX11_readTime 20 = .ok (.aload_n 0, 1) := by decide +kernel
theorem dX11_readTime_21 : decode cX11_readTime 21 = .ok (.aload_n 0, 1) := by decide +kernel
theorem dX11_readTime_22 : decode cX11_readTime 22 = .ok (.iload 4, 2) := by decide +kernel
theorem dX11_readTime_24 : decode cX11_readTime 24 = .ok (.invokevirtual 136, 3) := by decide +kernel
theorem dX11_readTime_27 : decode cX11_readTime 27 = .ok (.invokevirtual 103, 3) := by decide +kernel
theorem dX11_readTime_30 : decode cX11_readTime 30 = .ok (.goto 4, 3) := by decide +kernel
theorem dX11_readTime_33 : decode cX11_readTime 33 = .ok (.iconst 0, 1) := by decide +kernel
theorem dX11_readTime_34 : decode cX11_readTime 34 = .ok (.istore 6, 2) := by decide +kernel
theorem dX11_readTime_36 : decode cX11_readTime 36 = .ok (.aload_n 0, 1) := by decide +kernel
theorem dX11_readTime_37 : decode cX11_readTime 37 = .ok (.iload 4, 2) := by decide +kernel
theorem dX11_readTime_39 : decode cX11_readTime 39 = .ok (.iconst 1, 1) := by decide +kernel
theorem dX11_readTime_40 : decode cX11_readTime 40 = .ok (.iadd, 1) := by decide +kernel
theorem dX11_readTime_41 : decode cX11_readTime 41 = .ok (.invokevirtual 136, 3) := by decide +kernel
theorem dX11_readTime_44 : decode cX11_readTime 44 = .ok (.invokestatic 96, 3) := by decide +kernel
theorem dX11_readTime_47 : decode cX11_readTime 47 = .ok (.ifCond .eq 18, 3) := by decide +kernel
theorem dX11_readTime_50 : decode cX11_readTime 50 = .ok (.aload_n 0, 1) := by decide +kernel
theorem dX11_readTime_51 : decode cX11_readTime 51 = .ok (.aload_n 0, 1) := by decide +kernel
theorem dX11_readTime_52 : decode cX11_readTime 52 = .ok (.iload 4, 2) := by decide +kernel
theorem dX11_readTime_54 : decode cX11_readTime 54 = .ok (.iconst 1, 1) := by decide +kernel
theorem dX11_readTime_55 : decode cX11_readTime 55 = .ok (.iadd, 1) := by decide +kernel
theorem dX11_readTime_56 : decode cX11_readTime 56 = .ok (.invokevirtual 136, 3) := by decide +kernel
theorem dX11_readTime_59 : decode cX11_readTime 59 = .ok (.invokevirtual 103, 3) := by decide +kernel
theorem dX11_readTime_62 : decode cX11_readTime 62 = .ok (.goto 4, 3) := by decide +kernel
theorem dX11_readTime_65 : decode cX11_readTime 65 = .ok (.iconst 0, 1) := by decide +kernel
theorem dX11_readTime_66 : decode cX11_readTime 66 = .ok (.istore 7, 2) := by decide +kernel
theorem dX11_readTime_68 : decode cX11_readTime 68 = .ok (.iload 6, 2) := by decide +kernel
theorem dX11_readTime_70 : decode cX11_readTime 70 = .ok (.bipush 97, 2) := by decide +kernel
theorem dX11_readTime_72 : decode cX11_readTime 72 = .ok (.if_icmp .eq 10, 3) := by decide +kernel
theorem dX11_readTime_75 : decode cX11_readTime 75 = .ok (.iload 6, 2) := by decide +kernel
theorem dX11_readTime_77 : decode cX11_readTime 77 = .ok (.bipush 112, 2) := by decide +kernel
theorem dX11_readTime_79 : decode cX11_readTime 79 = .ok (.if_icmp .ne 57, 3) := by decide +kernel
theorem dX11_readTime_82 : decode cX11_readTime 82 = .ok (.iload 7, 2) := by decide +kernel
theorem dX11_readTime_84 : decode cX11_readTime 84 = .ok (.bipush 109, 2) := by decide +kernel
theorem dX11_readTime_86 : decode cX11_readTime 86 = .ok (.if_icmp .ne 50, 3) := by decide +kernel
theorem dX11_readTime_89 : decode cX11_readTime 89 = .ok (.aload_n 0, 1) := by decide +kernel
theorem dX11_readTime_90 : decode cX11_readTime 90 = .ok (.iload 4, 2) := by decide +kernel
theorem dX11_readTime_92 : decode cX11_readTime 92 = .ok (.iconst 2, 1) := by decide +kernel
theorem dX11_readTime_93 : decode cX11_readTime 93 = .ok (.iadd, 1) := by decide +kernel
theorem dX11_readTime_94 : decode cX11_readTime 94 = .ok (.invokevirtual 136, 3) := by decide +kernel
theorem dX11_readTime_97 : decode cX11_readTime 97 = .ok (.invokestatic 96, 3) := by decide +kernel
theorem dX11_readTime_100 : decode cX11_readTime 100 = .ok (.ifCond .ne 36, 3) := by decide +kernel
theorem dX11_readTime_103 : decode cX11_readTime 103 = .ok (.iload_n 3, 1) := by decide +kernel
theorem dX11_readTime_104 : decode cX11_readTime 104 = .ok (.iconst 1, 1) := by decide +kernel
theorem dX11_readTime_105 : decode cX11_readTime 105 = .ok (.bipush 12, 2) := by decide +kernel
theorem dX11_readTime_107 : decode cX11_readTime 107 = .ok (.invokestatic 86, 3) := by decide +kernel
theorem dX11_readTime_110 : decode cX11_readTime 110 = .ok (.ifCond .eq 26, 3) := by decide +kernel
theorem dX11_readTime_113 : decode cX11_readTime 113 = .ok (.iload_n 3, 1) := by decide +kernel
theorem dX11_readTime_114 : decode cX11_readTime 114 = .ok (.bipush 12, 2) := by decide +kernel
theorem dX11_readTime_116 : decode cX11_readTime 116 = .ok (.irem, 1) := by decide +kernel
theorem dX11_readTime_117 : decode cX11_readTime 117 = .ok (.iload 6, 2) := by decide +kernel
theorem dX11_readTime_119 : decode cX11_readTime 119 = .ok (.bipush 112, 2) := by decide +kernel
theorem dX11_readTime_121 : decode cX11_readTime 121 = .ok (.if_icmp .ne 8, 3) := by decide +kernel
theorem dX11_readTime_124 : decode cX11_readTime 124 = .ok (.bipush 12, 2) := by decide +kernel
theorem dX11_readTime_126 : decode cX11_readTime 126 = .ok (.goto 4, 3) := by decide +kernel
theorem dX11_readTime_129 : decode cX11_readTime 129 = .ok (.iconst 0, 1) := by decide +kernel
theorem dX11_readTime_130 : decode cX11_readTime 130 = .ok (.iadd, 1) := by decide +kernel
theorem dX11_readTime_131 : decode cX11_readTime 131 = .ok (.istore 5, 2) := by decide +kernel
theorem dX11_readTime_133 : decode cX11_readTime 133 = .ok (.iinc 4 2, 3) := by decide +kernel
theorem dX11_readTime_136 : decode cX11_readTime 136 = .ok (.aload_n 0, 1) := by decide +kernel
theorem dX11_readTime_137 : decode cX11_readTime 137 = .ok (.iconst 3, 1) := by decide +kernel
theorem dX11_readTime_138 : decode cX11_readTime 138 = .ok (.iload_n 1, 1) := by decide +kernel
theorem dX11_readTime_139 : decode cX11_readTime 139 = .ok (.iload 4, 2) := by decide +kernel
theorem dX11_readTime_141 : decode cX11_readTime 141 = .ok (.iload_n 1, 1) := by decide +kernel
theorem dX11_readTime_142 : decode cX11_readTime 142 = .ok (.isub, 1) := by decide +kernel
theorem dX11_readTime_143 : decode cX11_readTime 143 = .ok (.bipush 60, 2) := by decide +kernel
theorem dX11_readTime_145 : decode cX11_readTime 145 = .ok (.iload 5, 2) := by decide +kernel
theorem dX11_readTime_147 : decode cX11_readTime 147 = .ok (.imul, 1) := by decide +kernel
theorem dX11_readTime_148 : decode cX11_readTime 148 = .ok (.aload_n 0, 1) := by decide +kernel
theorem dX11_readTime_149 : decode cX11_readTime 149 = .ok (.iload_n 2, 1) := by decide +kernel
theorem dX11_readTime_150 : decode cX11_readTime 150 = .ok (.iconst 1, 1) := by decide +kernel
theorem dX11_readTime_151 : decode cX11_readTime 151 = .ok (.iadd, 1) := by decide +kernel
theorem dX11_readTime_152 : decode cX11_readTime 152 = .ok (.iload_n 2, 1) := by decide +kernel
theorem dX11_readTime_153 : decode cX11_readTime 153 = .ok (.iconst 3, 1) := by decide +kernel
theorem dX11_readTime_154 : decode cX11_readTime 154 = .ok (.iadd, 1) := by decide +kernel
theorem dX11_readTime_155 : decode cX11_readTime 155 = .ok (.invokevirtual 147, 3) := by decide +kernel
theorem dX11_readTime_158 : decode cX11_readTime 158 = .ok (.iadd, 1) := by decide +kernel
theorem dX11_readTime_159 : decode cX11_readTime 159 = .ok (.invokevirtual 139, 3) := by decide +kernel
theorem dX11_readTime_162 : decode cX11_readTime 162 = .ok (.iload 4, 2) := by decide +kernel
theorem dX11_readTime_164 : decode cX11_readTime 164 = .ok (.ireturn, 1) := by decide +kernel
set_option maxRecDepth 20000 in
theorem ggX11_readQuoted_X11_add : GoodIn wsX11_readQuoted wsX11_add := goodIn_r _ [7, 8, 9, 10, 11, 12, 13, 14, 15, 16, 17, 18, 19, 20, 21, 22, 23, 24, 25, 26, 27, 28, 29, 30, 31, 32, 33, 34, 35, 36, 37, 38, 39, 40, 41, 42, 43, 44, 45, 46, 47, 48, 49, 50] (by decide +kernel) (by decide +kernel)
set_option maxRecDepth 20000 in
theorem gX11_readQuoted_X11_add : GoodIn wsX11_readQuoted (wsV RX11 139 RX11 yX11_add wsX11_add) := goodIn_app (goodIn_of _ (by decide +kernel)) ggX11_readQuoted_X11_add
theorem dX11_readQuoted_0 : decode cX11_readQuoted 0 = .ok (.iload_n 1, 1) := by decide +kernel
theorem dX11_readQuoted_1 : decode cX11_readQuoted 1 = .ok (.iconst 1, 1) := by decide +kernel
theorem dX11_readQuoted_2 : decode cX11_readQuoted 2 = .ok (.iadd, 1) := by decide +kernel
theorem dX11_readQuoted_3 : decode cX11_readQuoted 3 = .ok (.istore_n 2, 1) := by decide +kernel
theorem dX11_readQuoted_4 : decode cX11_readQuoted 4 = .ok (.iload_n 2, 1) := by decide +kernel
theorem dX11_readQuoted_5 : decode cX11_readQuoted 5 = .ok (.aload_n 0, 1) := by decide +kernel
theorem dX11_readQuoted_6 : decode cX11_readQuoted 6 = .ok (.getfield 126, 3) := by decide +kernel
theorem dX11_readQuoted_9 : decode cX11_readQuoted 9 = .ok (.if_icmp .ge 20, 3) := by decide +kernel
theorem dX11_readQuoted_12 : decode cX11_readQuoted 12 = .ok (.aload_n 0, 1) := by decide +kernel
theorem dX11_readQuoted_13 : decode cX11_readQuoted 13 = .ok (.getfield 43, 3) := by decide +kernel
theorem dX11_readQuoted_16 : decode cX11_readQuoted 16 = .ok (.iload_n 2, 1) := by decide +kernel
theorem dX11_readQuoted_17 : decode cX11_readQuoted 17 = .ok (.iaload, 1) := by decide +kernel
theorem dX11_readQuoted_18 : decode cX11_readQuoted 18 = .ok (.bipush 34, 2) := by decide +kernel
theorem dX11_readQuoted_20 : decode cX11_readQuoted 20 = .ok (.if_icmp .eq 9, 3) := by decide +kernel
theorem dX11_readQuoted_23 : decode cX11_readQuoted 23 = .ok (.iinc 2 1, 3) := by decide +kernel
theorem dX11_readQuoted_26 : decode cX11_readQuoted 26 = .ok (.goto (-22), 3) := by decide +kernel
theorem dX11_readQuoted_29 : decode cX11_readQuoted 29 = .ok (.iload_n 2, 1) := by decide +kernel
theorem dX11_readQuoted_30 : decode cX11_readQuoted 30 = .ok (.aload_n 0, 1) := by decide +kernel
theorem dX11_readQuoted_31 : decode cX11_readQuoted 31 = .ok (.getfield 126, 3) := by decide +kernel
theorem dX11_readQuoted_34 : decode cX11_readQuoted 34 = .ok (.if_icmp .ge 23, 3) := by decide +kernel
theorem dX11_readQuoted_37 : decode cX11_readQuoted 37 = .ok (.aload_n 0, 1) := by decide +kernel
theorem dX11_readQuoted_38 : decode cX11_readQuoted 38 = .ok (.iconst 4, 1) := by decide +kernel
theorem dX11_readQuoted_39 : decode cX11_readQuoted 39 = .ok (.iload_n 1, 1) := by decide +kernel
theorem dX11_readQuoted_40 : decode cX11_readQuoted 40 = .ok (.iload_n 2, 1) := by decide +kernel
theorem dX11_readQuoted_41 : decode cX11_readQuoted 41 = .ok (.iconst 1, 1) := by decide +kernel
theorem dX11_readQuoted_42 : decode cX11_readQuoted 42 = .ok (.iadd, 1) := by decide +kernel
theorem dX11_readQuoted_43 : decode cX11_readQuoted 43 = .ok (.iload_n 1, 1) := by decide +kernel
theorem dX11_readQuoted_44 : decode cX11_readQuoted 44 = .ok (.isub, 1) := by decide +kernel
theorem dX11_readQuoted_45 : decode cX11_readQuoted 45 = .ok (.iload_n 2, 1) := by decide +kernel
theorem dX11_readQuoted_46 : decode cX11_readQuoted 46 = .ok (.iload_n 1, 1) := by decide +kernel
theorem dX11_readQuoted_47 : decode cX11_readQuoted 47 = .ok (.isub, 1) := by decide +kernel
theorem dX11_readQuoted_48 : decode cX11_readQuoted 48 = .ok (.iconst 1, 1) := by decide +kernel
theorem dX11_readQuoted_49 : decode cX11_readQuoted 49 = .ok (.isub, 1) := by decide +kernel
theorem dX11_readQuoted_50 : decode cX11_readQuoted 50 = .ok (.invokevirtual 139, 3) := by decide +kernel
theorem dX11_readQuoted_53 : decode cX11_readQuoted 53 = .ok (.iload_n 2, 1) := by decide +kernel
theorem dX11_readQuoted_54 : decode cX11_readQuoted 54 = .ok (.iconst 1, 1) := by decide +kernel
theorem dX11_readQuoted_55 : decode cX11_readQuoted 55 = .ok (.iadd, 1) := by decide +kernel
theorem dX11_readQuoted_56 : decode cX11_readQuoted 56 = .ok (.ireturn, 1) := by decide +kernel
theorem dX11_readQuoted_57 : decode cX11_readQuoted 57 = .ok (.aload_n 0, 1) := by decide +kernel
theorem dX11_readQuoted_58 : decode cX11_readQuoted 58 = .ok (.bipush 6, 2) := by decide +kernel
theorem dX11_readQuoted_60 : decode cX11_readQuoted 60 = .ok (.iload_n 1, 1) := by decide +kernel
theorem dX11_readQuoted_61 : decode cX11_readQuoted 61 = .ok (.aload_n 0, 1) := by decide +kernel
theorem dX11_readQuoted_62 : decode cX11_readQuoted 62 = .ok (.getfield 126, 3) := by decide +kernel
theorem dX11_readQuoted_65 : decode cX11_readQuoted 65 = .ok (.iload_n 1, 1) := by decide +kernel
theorem dX11_readQuoted_66 : decode cX11_readQuoted 66 = .ok (.isub, 1) := by decide +kernel
theorem dX11_readQuoted_67 : decode cX11_readQuoted 67 = .ok (.iconst (-1), 1) := by decide +kernel
theorem dX11_readQuoted_68 : decode cX11_readQuoted 68 = .ok (.invokevirtual 139, 3) := by decide +kernel
theorem dX11_readQuoted_71 : decode cX11_readQuoted 71 = .ok (.aload_n 0, 1) := by decide +kernel
theorem dX11_readQuoted_72 : decode cX11_readQuoted 72 = .ok (.getfield 126, 3) := by decide +kernel
theorem dX11_readQuoted_75 : decode cX11_readQuoted 75 = .ok (.ireturn, 1) := by decide +kernel
theorem dX11_isStop_0 : decode cX11_isStop 0 = .ok (.iload_n 0, 1) := by decide +kernel
theorem dX11_isStop_1 : decode cX11_isStop 1 = .ok (.bipush 46, 2) := by decide +kernel
theorem dX11_isStop_3 : decode cX11_isStop 3 = .ok (.if_icmp .eq 27, 3) := by decide +kernel
theorem dX11_isStop_6 : decode cX11_isStop 6 = .ok (.iload_n 0, 1) := by decide +kernel
theorem dX11_isStop_7 : decode cX11_isStop 7 = .ok (.bipush 44, 2) := by decide +kernel
theorem dX11_isStop_9 : decode cX11_isStop 9 = .ok (.if_icmp .eq 21, 3) := by decide +kernel
theorem dX11_isStop_12 : decode cX11_isStop 12 = .ok (.iload_n 0, 1) := by decide +kernel
theorem dX11_isStop_13 : decode cX11_isStop 13 = .ok (.bipush 59, 2) := by decide +kernel
theorem dX11_isStop_15 : decode cX11_isStop 15 = .ok (.if_icmp .eq 15, 3) := by decide +kernel
theorem dX11_isStop_18 : decode cX11_isStop 18 = .ok (.iload_n 0, 1) := by decide +kernel
theorem dX11_isStop_19 : decode cX11_isStop 19 = .ok (.bipush 33, 2) := by decide +kernel
theorem dX11_isStop_21 : decode cX11_isStop 21 = .ok (.if_icmp .eq 9, 3) := by decide +kernel
theorem dX11_isStop_24 : decode cX11_isStop 24 = .ok (.iload_n 0, 1) := by decide +kernel
theorem dX11_isStop_25 : decode cX11_isStop 25 = .ok (.bipush 63, 2) := by decide +kernel
theorem dX11_isStop_27 : decode cX11_isStop 27 = .ok (.if_icmp .ne 7, 3) := by decide +kernel
theorem dX11_isStop_30 : decode cX11_isStop 30 = .ok (.iconst 1, 1) := by decide +kernel
theorem dX11_isStop_31 : decode cX11_isStop 31 = .ok (.goto 4, 3) := by decide +kernel
theorem dX11_isStop_34 : decode cX11_isStop 34 = .ok (.iconst 0, 1) := by decide +kernel
theorem dX11_isStop_35 : decode cX11_isStop 35 = .ok (.ireturn, 1) := by decide +kernel
set_option maxRecDepth 20000 in
theorem ggX11_isOther_X11_isLetter : GoodIn wsX11_isOther wsX11_isLetter := goodIn_r _ [4, 5, 6, 3, 7] (by decide +kernel) (by decide +kernel)
set_option maxRecDepth 20000 in
theorem gX11_isOther_X11_isLetter : GoodIn wsX11_isOther (va_wsS RX11 96 yX11_isLetter wsX11_isLetter) := goodIn_app (goodIn_of _ (by decide +kernel)) ggX11_isOther_X11_isLetter
set_option maxRecDepth 20000 in
theorem ggX11_isOther_X11_isDigit : GoodIn wsX11_isOther wsX11_isDigit := goodIn_r _ [10, 5, 6, 3, 7] (by decide +kernel) (by decide +kernel)
set_option maxRecDepth 20000 in
theorem gX11_isOther_X11_isDigit : GoodIn wsX11_isOther (va_wsS RX11 144 yX11_isDigit wsX11_isDigit) := goodIn_app (goodIn_of _ (by decide +kernel)) ggX11_isOther_X11_isDigit
set_option maxRecDepth 20000 in
theorem ggX11_isOther_X11_isStop : GoodIn wsX11_isOther wsX11_isStop := goodIn_r _ [13] (by decide +kernel) (by decide +kernel)
set_option maxRecDepth 20000 in
theorem gX11_isOther_X11_isStop : GoodIn wsX11_isOther (va_wsS RX11 155 yX11_isStop wsX11_isStop) := goodIn_app (goodIn_of _ (by decide +kernel)) ggX11_isOther_X11_isStop
theorem dX11_isOther_0 : decode cX11_isOther 0 = .ok (.iload_n 0, 1) := by decide +kernel
theorem dX11_isOther_1 : decode cX11_isOther 1 = .ok (.ifCond .lt 40, 3) := by decide +kernel
theorem dX11_isOther_4 : decode cX11_isOther 4 = .ok (.iload_n 0, 1) := by decide +kernel
theorem dX11_isOther_5 : decode cX11_isOther 5 = .ok (.invokestatic 96, 3) := by decide +kernel
theorem dX11_isOther_8 : decode cX11_isOther 8 = .ok (.ifCond .ne 33, 3) := by decide +kernel
theorem dX11_isOther_11 : decode cX11_isOther 11 = .ok (.iload_n 0, 1) := by decide +kernel
theorem dX11_isOther_12 : decode cX11_isOther 12 = .ok (.invokestatic 144, 3) := by decide +kernel
theorem dX11_isOther_15 : decode cX11_isOther 15 = .ok (.ifCond .ne 26, 3) := by decide +kernel
theorem dX11_isOther_18 : decode cX11_isOther 18 = .ok (.iload_n 0, 1) := by decide +kernel
theorem dX11_isOther_19 : decode cX11_isOther 19 = .ok (.bipush 32, 2) := by decide +kernel
theorem dX11_isOther_21 : decode cX11_isOther 21 = .ok (.if_icmp .eq 20, 3) := by decide +kernel
theorem dX11_isOther_24 : decode cX11_isOther 24 = .ok (.iload_n 0, 1) := by decide +kernel
theorem dX11_isOther_25 : decode cX11_isOther 25 = .ok (.bipush 34, 2) := by decide +kernel
theorem dX11_isOther_27 : decode cX11_isOther 27 = .ok (.if_icmp .eq 14, 3) := by decide +kernel
theorem dX11_isOther_30 : decode cX11_isOther 30 = .ok (.iload_n 0, 1) := by decide +kernel
theorem dX11_isOther_31 : decode cX11_isOther 31 = .ok (.invokestatic 155, 3) := by decide +kernel
theorem dX11_isOther_34 : decode cX11_isOther 34 = .ok (.ifCond .ne 7, 3) := by decide +kernel
theorem dX11_isOther_37 : decode cX11_isOther 37 = .ok (.iconst 1, 1) := by decide +kernel
theorem dX11_isOther_38 : decode cX11_isOther 38 = .ok (.goto 4, 3) := by decide +kernel
theorem dX11_isOther_41 : decode cX11_isOther 41 = .ok (.iconst 0, 1) := by decide +kernel
theorem dX11_isOther_42 : decode cX11_isOther 42 = .ok (.ireturn, 1) := by decide +kernel
set_option maxRecDepth 20000 in
theorem ggX11_read_X11_in : GoodIn wsX11_read wsX11_in := goodIn_r _ [18] (by decide +kernel) (by decide +kernel)
set_option maxRecDepth 20000 in
theorem gX11_read_X11_in : GoodIn wsX11_read (va_wsS RX11 86 yX11_in wsX11_in) := goodIn_app (goodIn_of _ (by decide +kernel)) ggX11_read_X11_in
set_option maxRecDepth 20000 in
theorem ggX11_read_X11_isLetter : GoodIn wsX11_read wsX11_isLetter := goodIn_r _ [21, 15, 16, 17, 18] (by decide +kernel) (by decide +kernel)
set_option maxRecDepth 20000 in
theorem gX11_read_X11_isLetter : GoodIn wsX11_read (va_wsS RX11 96 yX11_isLetter wsX11_isLetter) := goodIn_app (goodIn_of _ (by decide +kernel)) ggX11_read_X11_isLetter
set_option maxRecDepth 20000 in
theorem ggX11_read_X11_readLetters : GoodIn wsX11_read wsX11_readLetters := goodIn_r _ [25, 4, 26, 27, 28, 29, 30, 31, 17, 32, 1, 19, 20, 21, 15, 16, 18, 33, 34, 35, 36, 37, 38, 39, 40, 41, 42, 43, 44, 45, 46, 47, 48, 49, 50, 51, 52, 53, 54, 2, 3, 7, 9, 11, 13, 81, 82, 83, 84, 85, 86, 87, 88, 89, 90, 91, 92, 93, 94, 95, 96, 97, 98, 99, 100, 101, 102, 103, 104, 105, 106, 107, 108, 109, 110, 111, 112, 113, 114, 115, 116, 117] (by decide +kernel) (by decide +kernel)
set_option maxRecDepth 20000 in
theorem gX11_read_X11_readLetters : GoodIn wsX11_read (wsV RX11 158 RX11 yX11_readLetters wsX11_readLetters) := goodIn_app (goodIn_of _ (by decide +kernel)) ggX11_read_X11_readLetters
set_option maxRecDepth 20000 in
theorem ggX11_read_X11_isDigit : GoodIn wsX11_read wsX11_isDigit := goodIn_r _ [57, 15, 16, 17, 18] (by decide +kernel) (by decide +kernel)
set_option maxRecDepth 20000 in
theorem gX11_read_X11_isDigit : GoodIn wsX11_read (va_wsS RX11 144 yX11_isDigit wsX11_isDigit) := goodIn_app (goodIn_of _ (by decide +kernel)) ggX11_read_X11_isDigit
set_option maxRecDepth 20000 in
theorem ggX11_read_X11_readDigits : GoodIn wsX11_read wsX11_readDigits := goodIn_r _ [61, 29, 30, 31, 17, 32, 1, 4, 55, 56, 57, 15, 16, 18, 62, 63, 64, 65, 66, 67, 68, 69, 70, 19, 20, 21, 46, 47, 48, 49, 50, 51, 52, 53, 54, 2, 3, 7, 9, 11, 13, 81, 82, 83, 84, 85, 86, 87, 88, 89, 90, 91, 92, 93, 94, 95, 96, 97, 98, 99, 100, 101, 102, 103, 104, 105, 106, 107, 108, 109, 110, 111, 112, 113, 114, 115, 116, 117] (by decide +kernel) (by decide +kernel)
set_option maxRecDepth 20000 in
theorem gX11_read_X11_readDigits : GoodIn wsX11_read (wsV RX11 161 RX11 yX11_readDigits wsX11_readDigits) := goodIn_app (goodIn_of _ (by decide +kernel)) ggX11_read_X11_readDigits
set_option maxRecDepth 20000 in
theorem ggX11_read_X11_readQuoted : GoodIn wsX11_read wsX11_readQuoted := goodIn_r _ [74, 1, 4, 51, 52, 53, 17, 54, 2, 3, 7, 9, 11, 13, 81, 82, 83, 84, 85, 86, 87, 88, 89, 90, 91, 92, 93, 94, 95, 96, 97, 98, 99, 100, 101, 102, 103, 104, 105, 106, 107, 108, 109, 110, 111, 112, 113, 114, 115, 116, 117] (by decide +kernel) (by decide +kernel)
set_option maxRecDepth 20000 in
theorem gX11_read_X11_readQuoted : GoodIn wsX11_read (wsV RX11 164 RX11 yX11_readQuoted wsX11_readQuoted) := goodIn_app (goodIn_of _ (by decide +kernel)) ggX11_read_X11_readQuoted
set_option maxRecDepth 20000 in
theorem ggX11_read_X11_isStop : GoodIn wsX11_read wsX11_isStop := goodIn_r _ [77] (by decide +kernel) (by decide +kernel)
set_option maxRecDepth 20000 in
theorem gX11_read_X11_isStop : GoodIn wsX11_read (va_wsS RX11 155 yX11_isStop wsX11_isStop) := goodIn_app (goodIn_of _ (by decide +kernel)) ggX11_read_X11_isStop
set_option maxRecDepth 20000 in
theorem ggX11_read_X11_add : GoodIn wsX11_read wsX11_add := goodIn_r _ [54, 2, 3, 7, 9, 11, 13, 81, 82, 83, 84, 85, 86, 87, 88, 89, 90, 91, 92, 93, 94, 95, 96, 97, 98, 99, 100, 101, 102, 103, 104, 105, 106, 107, 108, 109, 110, 111, 112, 113, 114, 115, 116, 117] (by decide +kernel) (by decide +kernel)
set_option maxRecDepth 20000 in
theorem gX11_read_X11_add : GoodIn wsX11_read (wsV RX11 139 RX11 yX11_add wsX11_add) := goodIn_app (goodIn_of _ (by decide +kernel)) ggX11_read_X11_add
set_option maxRecDepth 20000 in
theorem ggX11_read_X11_byteAt : GoodIn wsX11_read wsX11_byteAt := goodIn_r _ [32, 1, 4, 81, 82, 83, 84, 85, 86, 87, 88, 89, 90, 91, 92, 93, 94, 95, 96, 97, 98, 99, 100, 101, 102, 103, 104, 105, 106, 107, 108, 109, 110, 111, 112, 113, 114, 115, 116, 117] (by decide +kernel) (by decide +kernel)
set_option maxRecDepth 20000 in
theorem gX11_read_X11_byteAt : GoodIn wsX11_read (wsV RX11 136 RX11 yX11_byteAt wsX11_byteAt) := goodIn_app (goodIn_of _ (by decide +kernel)) ggX11_read_X11_byteAt
set_option maxRecDepth 20000 in
theorem ggX11_read_X11_isOther : GoodIn wsX11_read wsX11_isOther := goodIn_r _ [80, 19, 20, 17, 21, 15, 16, 18, 55, 56, 57, 75, 76, 77] (by decide +kernel) (by decide +kernel)
set_option maxRecDepth 20000 in
theorem gX11_read_X11_isOther : GoodIn wsX11_read (va_wsS RX11 167 yX11_isOther wsX11_isOther) := goodIn_app (goodIn_of _ (by decide +kernel)) ggX11_read_X11_isOther
theorem dX11_read_0 : decode cX11_read 0 = .ok (.iload_n 1, 1) := by decide +kernel
theorem dX11_read_1 : decode cX11_read 1 = .ok (.iconst 0, 1) := by decide +kernel
theorem dX11_read_2 : decode cX11_read 2 = .ok (.iconst 2, 1) := by decide +kernel
theorem dX11_read_3 : decode cX11_read 3 = .ok (.invokestatic 86, 3) := by decide +kernel
theorem dX11_read_6 : decode cX11_read 6 = .ok (.ifCond .ne 11, 3) := by decide +kernel
theorem dX11_read_9 : decode cX11_read 9 = .ok (.aload_n 0, 1) := by decide +kernel
theorem dX11_read_10 : decode cX11_read 10 = .ok (.iconst 0, 1) := by decide +kernel
theorem dX11_read_11 : decode cX11_read 11 = .ok (.putfield 126, 3) := by decide +kernel
theorem dX11_read_14 : decode cX11_read 14 = .ok (.bipush (-3), 2) := by decide +kernel
theorem dX11_read_16 : decode cX11_read 16 = .ok (.ireturn, 1) := by decide +kernel
theorem dX11_read_17 : decode cX11_read 17 = .ok (.aload_n 0, 1) := by decide +kernel
theorem dX11_read_18 : decode cX11_read 18 = .ok (.iconst 0, 1) := by decide +kernel
theorem dX11_read_19 : decode cX11_read 19 = .ok (.putfield 129, 3) := by decide +kernel
theorem dX11_read_22 : decode cX11_read 22 = .ok (.aload_n 0, 1) := by decide +kernel
theorem dX11_read_23 : decode cX11_read 23 = .ok (.iconst 0, 1) := by decide +kernel
theorem dX11_read_24 : decode cX11_read 24 = .ok (.putfield 132, 3) := by decide +kernel
theorem dX11_read_27 : decode cX11_read 27 = .ok (.iconst 0, 1) := by decide +kernel
theorem dX11_read_28 : decode cX11_read 28 = .ok (.istore_n 2, 1) := by decide +kernel
theorem dX11_read_29 : decode cX11_read 29 = .ok (.iload_n 2, 1) := by decide +kernel
theorem dX11_read_30 : decode cX11_read 30 = .ok (.aload_n 0, 1) := by decide +kernel
theorem dX11_read_31 : decode cX11_read 31 = .ok (.getfield 126, 3) := by decide +kernel
theorem dX11_read_34 : decode cX11_read 34 = .ok (.if_icmp .ge 137, 3) := by decide +kernel
theorem dX11_read_37 : decode cX11_read 37 = .ok (.aload_n 0, 1) := by decide +kernel
theorem dX11_read_38 : decode cX11_read 38 = .ok (.getfield 132, 3) := by decide +kernel
theorem dX11_read_41 : decode cX11_read 41 = .ok (.ifCond .ne 130, 3) := by decide +kernel
theorem dX11_read_44 : decode cX11_read 44 = .ok (.aload_n 0, 1) := by decide +kernel
theorem dX11_read_45 : decode cX11_read 45 = .ok (.getfield 43, 3) := by decide +kernel
theorem dX11_read_48 : decode cX11_read 48 = .ok (.iload_n 2, 1) := by decide +kernel
theorem dX11_read_49 : decode cX11_read 49 = .ok (.iaload, 1) := by decide +kernel
theorem dX11_read_50 : decode cX11_read 50 = .ok (.istore_n 3, 1) := by decide +kernel
theorem dX11_read_51 : decode cX11_read 51 = .ok (.iload_n 3, 1) := by decide +kernel
theorem dX11_read_52 : decode cX11_read 52 = .ok (.bipush 32, 2) := by decide +kernel
theorem dX11_read_54 : decode cX11_read 54 = .ok (.if_icmp .ne 9, 3) := by decide +kernel
theorem dX11_read_57 : decode cX11_read 57 = .ok (.iinc 2 1, 3) := by decide +kernel
theorem dX11_read_60 : decode cX11_read 60 = .ok (.goto 108, 3) := by decide +kernel
theorem dX11_read_63 : decode cX11_read 63 = .ok (.iload_n 3, 1) := by decide +kernel
theorem dX11_read_64 : decode cX11_read 64 = .ok (.invokestatic 96, 3) := by decide +kernel
theorem dX11_read_67 : decode cX11_read 67 = .ok (.ifCond .eq 13, 3) := by decide +kernel
theorem dX11_read_70 : decode cX11_read 70 = .ok (.aload_n 0, 1) := by decide +kernel
theorem dX11_read_71 : decode cX11_read 71 = .ok (.iload_n 2, 1) := by decide +kernel
theorem dX11_read_72 : decode cX11_read 72 = .ok (.iload_n 1, 1) := by decide +kernel
theorem dX11_read_73 : decode cX11_read 73 = .ok (.invokevirtual 158, 3) := by decide +kernel
theorem dX11_read_76 : decode cX11_read 76 = .ok (.istore_n 2, 1) := by decide +kernel
theorem dX11_read_77 : decode cX11_read 77 = .ok (.goto 91, 3) := by decide +kernel
theorem dX11_read_80 : decode cX11_read 80 = .ok (.iload_n 3, 1) := by decide +kernel
theorem dX11_read_81 : decode cX11_read 81 = .ok (.invokestatic 144, 3) := by decide +kernel
theorem dX11_read_84 : decode cX11_read 84 = .ok (.ifCond .eq 12, 3) := by decide +kernel
theorem dX11_read_87 : decode cX11_read 87 = .ok (.aload_n 0, 1) := by decide +kernel
theorem dX11_read_88 : decode cX11_read 88 = .ok (.iload_n 2, 1) := by decide +kernel
theorem dX11_read_89 : decode cX11_read 89 = .ok (.invokevirtual 161, 3) := by decide +kernel
theorem dX11_read_92 : decode cX11_read 92 = .ok (.istore_n 2, 1) := by decide +kernel
theorem dX11_read_93 : decode cX11_read 93 = .ok (.goto 75, 3) := by decide +kernel
theorem dX11_read_96 : decode cX11_read 96 = .ok (.iload_n 3, 1) := by decide +kernel
theorem dX11_read_97 : decode cX11_read 97 = .ok (.bipush 34, 2) := by decide +kernel
theorem dX11_read_99 : decode cX11_read 99 = .ok (.if_icmp .ne 12, 3) := by decide +kernel
theorem dX11_read_102 : decode cX11_read 102 = .ok (.aload_n 0, 1) := by decide +kernel
theorem dX11_read_103 : decode cX11_read 103 = .ok (.iload_n 2, 1) := by decide +kernel
theorem dX11_read_104 : decode cX11_read 104 = .ok (.invokevirtual 164, 3) := by decide +kernel
theorem dX11_read_107 : decode cX11_read 107 = .ok (.istore_n 2, 1) := by decide +kernel
theorem dX11_read_108 : decode cX11_read 108 = .ok (.goto 60, 3) := by decide +kernel
theorem dX11_read_111 : decode cX11_read 111 = .ok (.iload_n 3, 1) := by decide +kernel
theorem dX11_read_112 : decode cX11_read 112 = .ok (.invokestatic 155, 3) := by decide +kernel
theorem dX11_read_115 : decode cX11_read 115 = .ok (.ifCond .eq 17, 3) := by decide +kernel
theorem dX11_read_118 : decode cX11_read 118 = .ok (.aload_n 0, 1) := by decide +kernel
theorem dX11_read_119 : decode cX11_read 119 = .ok (.iconst 5, 1) := by decide +kernel
theorem dX11_read_120 : decode cX11_read 120 = .ok (.iload_n 2, 1) := by decide +kernel
theorem dX11_read_121 : decode cX11_read 121 = .ok (.iconst 1, 1) := by decide +kernel
theorem dX11_read_122 : decode cX11_read 122 = .ok (.iload_n 3, 1) := by decide +kernel
theorem dX11_read_123 : decode cX11_read 123 = .ok (.invokevirtual 139, 3) := by decide +kernel
theorem dX11_read_126 : decode cX11_read 126 = .ok (.iinc 2 1, 3) := by decide +kernel
theorem dX11_read_129 : decode cX11_read 129 = .ok (.goto 39, 3) := by decide +kernel
theorem dX11_read_132 : decode cX11_read 132 = .ok (.iload_n 2, 1) := by decide +kernel
theorem dX11_read_133 : decode cX11_read 133 = .ok (.istore 4, 2) := by decide +kernel
theorem dX11_read_135 : decode cX11_read 135 = .ok (.aload_n 0, 1) := by decide +kernel
theorem dX11_read_136 : decode cX11_read 136 = .ok (.iload 4, 2) := by decide +kernel
theorem dX11_read_138 : decode cX11_read 138 = .ok (.invokevirtual 136, 3) := by decide +kernel
theorem dX11_read_141 : decode cX11_read 141 = .ok (.invokestatic 167, 3) := by decide +kernel
theorem dX11_read_144 : decode cX11_read 144 = .ok (.ifCond .eq 9, 3) := by decide +kernel
theorem dX11_read_147 : decode cX11_read 147 = .ok (.iinc 4 1, 3) := by decide +kernel
theorem dX11_read_150 : decode cX11_read 150 = .ok (.goto (-15), 3) := by decide +kernel
theorem dX11_read_153 : decode cX11_read 153 = .ok (.aload_n 0, 1) := by decide +kernel
theorem dX11_read_154 : decode cX11_read 154 = .ok (.bipush 6, 2) := by decide +kernel
theorem dX11_read_156 : decode cX11_read 156 = .ok (.iload_n 2, 1) := by decide +kernel
theorem dX11_read_157 : decode cX11_read 157 = .ok (.iload 4, 2) := by decide +kernel
theorem dX11_read_159 : decode cX11_read 159 = .ok (.iload_n 2, 1) := by decide +kernel
theorem dX11_read_160 : decode cX11_read 160 = .ok (.isub, 1) := by decide +kernel
theorem dX11_read_161 : decode cX11_read 161 = .ok (.iconst (-1), 1) := by decide +kernel
theorem dX11_read_162 : decode cX11_read 162 = .ok (.invokevirtual 139, 3) := by decide +kernel
theorem dX11_read_165 : decode cX11_read 165 = .ok (.iload 4, 2) := by decide +kernel
theorem dX11_read_167 : decode cX11_read 167 = .ok (.istore_n 2, 1) := by decide +kernel
theorem dX11_read_168 : decode cX11_read 168 = .ok (.goto (-139), 3) := by decide +kernel
theorem dX11_read_171 : decode cX11_read 171 = .ok (.aload_n 0, 1) := by decide +kernel
theorem dX11_read_172 : decode cX11_read 172 = .ok (.getfield 132, 3) := by decide +kernel
theorem dX11_read_175 : decode cX11_read 175 = .ok (.ifCond .eq 11, 3) := by decide +kernel
theorem dX11_read_178 : decode cX11_read 178 = .ok (.aload_n 0, 1) := by decide +kernel
theorem dX11_read_179 : decode cX11_read 179 = .ok (.iconst 0, 1) := by decide +kernel
theorem dX11_read_180 : decode cX11_read 180 = .ok (.putfield 126, 3) := by decide +kernel
theorem dX11_read_183 : decode cX11_read 183 = .ok (.bipush (-5), 2) := by decide +kernel
theorem dX11_read_185 : decode cX11_read 185 = .ok (.ireturn, 1) := by decide +kernel
theorem dX11_read_186 : decode cX11_read 186 = .ok (.aload_n 0, 1) := by decide +kernel
theorem dX11_read_187 : decode cX11_read 187 = .ok (.aload_n 0, 1) := by decide +kernel
theorem dX11_read_188 : decode cX11_read 188 = .ok (.getfield 129, 3) := by decide +kernel
theorem dX11_read_191 : decode cX11_read 191 = .ok (.putfield 170, 3) := by decide +kernel
theorem dX11_read_194 : decode cX11_read 194 = .ok (.iconst 0, 1) := by decide +kernel
theorem dX11_read_195 : decode cX11_read 195 = .ok (.istore_n 3, 1) := by decide +kernel
theorem dX11_read_196 : decode cX11_read 196 = .ok (.iload_n 3, 1) := by decide +kernel
theorem dX11_read_197 : decode cX11_read 197 = .ok (.aload_n 0, 1) := by decide +kernel
theorem dX11_read_198 : decode cX11_read 198 = .ok (.getfield 129, 3) := by decide +kernel
theorem dX11_read_201 : decode cX11_read 201 = .ok (.if_icmp .ge 57, 3) := by decide +kernel
theorem dX11_read_204 : decode cX11_read 204 = .ok (.aload_n 0, 1) := by decide +kernel
theorem dX11_read_205 : decode cX11_read 205 = .ok (.getfield 46, 3) := by decide +kernel
theorem dX11_read_208 : decode cX11_read 208 = .ok (.iload_n 3, 1) := by decide +kernel
theorem dX11_read_209 : decode cX11_read 209 = .ok (.aload_n 0, 1) := by decide +kernel
theorem dX11_read_210 : decode cX11_read 210 = .ok (.getfield 58, 3) := by decide +kernel
theorem dX11_read_213 : decode cX11_read 213 = .ok (.iload_n 3, 1) := by decide +kernel
theorem dX11_read_214 : decode cX11_read 214 = .ok (.iaload, 1) := by decide +kernel
theorem dX11_read_215 : decode cX11_read 215 = .ok (.iastore, 1) := by decide +kernel
theorem dX11_read_216 : decode cX11_read 216 = .ok (.aload_n 0, 1) := by decide +kernel
theorem dX11_read_217 : decode cX11_read 217 = .ok (.getfield 49, 3) := by decide +kernel
theorem dX11_read_220 : decode cX11_read 220 = .ok (.iload_n 3, 1) := by decide +kernel
theorem dX11_read_221 : decode cX11_read 221 = .ok (.aload_n 0, 1) := by decide +kernel
theorem dX11_read_222 : decode cX11_read 222 = .ok (.getfield 61, 3) := by decide +kernel
theorem dX11_read_225 : decode cX11_read 225 = .ok (.iload_n 3, 1) := by decide +kernel
theorem dX11_read_226 : decode cX11_read 226 = .ok (.iaload, 1) := by decide +kernel
theorem dX11_read_227 : decode cX11_read 227 = .ok (.iastore, 1) := by decide +kernel
theorem dX11_read_228 : decode cX11_read 228 = .ok (.aload_n 0, 1) := by decide +kernel
theorem dX11_read_229 : decode cX11_read 229 = .ok (.getfield 52, 3) := by decide +kernel
theorem dX11_read_232 : decode cX11_read 232 = .ok (.iload_n 3, 1) := by decide +kernel
theorem dX11_read_233 : decode cX11_read 233 = .ok (.aload_n 0, 1) := by decide +kernel
theorem dX11_read_234 : decode cX11_read 234 = .ok (.getfield 64, 3) := by decide +kernel
