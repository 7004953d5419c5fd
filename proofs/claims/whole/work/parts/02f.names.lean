theorem dX10_followPhraseFrom_28 : decode cX10_followPhraseFrom 28 = .ok (.invokevirtual 181, 3) := by decide +kernel
theorem dX10_followPhraseFrom_31 : decode cX10_followPhraseFrom 31 = .ok (.astore 4, 2) := by decide +kernel
theorem dX10_followPhraseFrom_33 : decode cX10_followPhraseFrom 33 = .ok (.aload 4, 2) := by decide +kernel
theorem dX10_followPhraseFrom_35 : decode cX10_followPhraseFrom 35 = .ok (.ifnull 32, 3) := by decide +kernel
theorem dX10_followPhraseFrom_38 : decode cX10_followPhraseFrom 38 = .ok (.aload 4, 2) := by decide +kernel
theorem dX10_followPhraseFrom_40 : decode cX10_followPhraseFrom 40 = .ok (.bipush 22, 2) := by decide +kernel
theorem dX10_followPhraseFrom_42 : decode cX10_followPhraseFrom 42 = .ok (.invokevirtual 144, 3) := by decide +kernel
theorem dX10_followPhraseFrom_45 : decode cX10_followPhraseFrom 45 = .ok (.ifCond .eq 22, 3) := by decide +kernel
theorem dX10_followPhraseFrom_48 : decode cX10_followPhraseFrom 48 = .ok (.aload_n 0, 1) := by decide +kernel
theorem dX10_followPhraseFrom_49 : decode cX10_followPhraseFrom 49 = .ok (.getfield 72, 3) := by decide +kernel
theorem dX10_followPhraseFrom_52 : decode cX10_followPhraseFrom 52 = .ok (.aload_n 0, 1) := by decide +kernel
theorem dX10_followPhraseFrom_53 : decode cX10_followPhraseFrom 53 = .ok (.iload_n 3, 1) := by decide +kernel
theorem dX10_followPhraseFrom_54 : decode cX10_followPhraseFrom 54 = .ok (.invokevirtual 234, 3) := by decide +kernel
theorem dX10_followPhraseFrom_57 : decode cX10_followPhraseFrom 57 = .ok (.invokevirtual 266, 3) := by decide +kernel
theorem dX10_followPhraseFrom_60 : decode cX10_followPhraseFrom 60 = .ok (.ifCond .eq 7, 3) := by decide +kernel
theorem dX10_followPhraseFrom_63 : decode cX10_followPhraseFrom 63 = .ok (.iconst 1, 1) := by decide +kernel
theorem dX10_followPhraseFrom_64 : decode cX10_followPhraseFrom 64 = .ok (.goto 4, 3) := by decide +kernel
theorem dX10_followPhraseFrom_67 : decode cX10_followPhraseFrom 67 = .ok (.iconst 0, 1) := by decide +kernel
theorem dX10_followPhraseFrom_68 : decode cX10_followPhraseFrom 68 = .ok (.istore_n 2, 1) := by decide +kernel
theorem dX10_followPhraseFrom_69 : decode cX10_followPhraseFrom 69 = .ok (.iinc 3 1, 3) := by decide +kernel
theorem dX10_followPhraseFrom_72 : decode cX10_followPhraseFrom 72 = .ok (.goto (-61), 3) := by decide +kernel
theorem dX10_followPhraseFrom_75 : decode cX10_followPhraseFrom 75 = .ok (.return_, 1) := by decide +kernel
theorem dX11_init_0 : decode cX11_init 0 = .ok (.aload_n 0, 1) := by decide +kernel
theorem dX11_init_1 : decode cX11_init 1 = .ok (.invokespecial 1, 3) := by decide +kernel
theorem dX11_init_4 : decode cX11_init 4 = .ok (.aload_n 0, 1) := by decide +kernel
theorem dX11_init_5 : decode cX11_init 5 = .ok (.bipush 32, 2) := by decide +kernel
theorem dX11_init_7 : decode cX11_init 7 = .ok (.newarray .int, 2) := by decide +kernel
theorem dX11_init_9 : decode cX11_init 9 = .ok (.putfield 7, 3) := by decide +kernel
theorem dX11_init_12 : decode cX11_init 12 = .ok (.aload_n 0, 1) := by decide +kernel
theorem dX11_init_13 : decode cX11_init 13 = .ok (.bipush 20, 2) := by decide +kernel
theorem dX11_init_15 : decode cX11_init 15 = .ok (.newarray .int, 2) := by decide +kernel
theorem dX11_init_17 : decode cX11_init 17 = .ok (.putfield 13, 3) := by decide +kernel
theorem dX11_init_20 : decode cX11_init 20 = .ok (.aload_n 0, 1) := by decide +kernel
theorem dX11_init_21 : decode cX11_init 21 = .ok (.sipush 960, 3) := by decide +kernel
theorem dX11_init_24 : decode cX11_init 24 = .ok (.newarray .int, 2) := by decide +kernel
theorem dX11_init_26 : decode cX11_init 26 = .ok (.putfield 16, 3) := by decide +kernel
theorem dX11_init_29 : decode cX11_init 29 = .ok (.aload_n 0, 1) := by decide +kernel
theorem dX11_init_30 : decode cX11_init 30 = .ok (.bipush 48, 2) := by decide +kernel
theorem dX11_init_32 : decode cX11_init 32 = .ok (.newarray .int, 2) := by decide +kernel
theorem dX11_init_34 : decode cX11_init 34 = .ok (.putfield 19, 3) := by decide +kernel
theorem dX11_init_37 : decode cX11_init 37 = .ok (.aload_n 0, 1) := by decide +kernel
theorem dX11_init_38 : decode cX11_init 38 = .ok (.bipush 40, 2) := by decide +kernel
theorem dX11_init_40 : decode cX11_init 40 = .ok (.newarray .int, 2) := by decide +kernel
theorem dX11_init_42 : decode cX11_init 42 = .ok (.putfield 22, 3) := by decide +kernel
theorem dX11_init_45 : decode cX11_init 45 = .ok (.aload_n 0, 1) := by decide +kernel
theorem dX11_init_46 : decode cX11_init 46 = .ok (.bipush 40, 2) := by decide +kernel
theorem dX11_init_48 : decode cX11_init 48 = .ok (.newarray .int, 2) := by decide +kernel
theorem dX11_init_50 : decode cX11_init 50 = .ok (.putfield 25, 3) := by decide +kernel
theorem dX11_init_53 : decode cX11_init 53 = .ok (.aload_n 0, 1) := by decide +kernel
theorem dX11_init_54 : decode cX11_init 54 = .ok (.bipush 40, 2) := by decide +kernel
theorem dX11_init_56 : decode cX11_init 56 = .ok (.newarray .int, 2) := by decide +kernel
theorem dX11_init_58 : decode cX11_init 58 = .ok (.putfield 28, 3) := by decide +kernel
theorem dX11_init_61 : decode cX11_init 61 = .ok (.aload_n 0, 1) := by decide +kernel
theorem dX11_init_62 : decode cX11_init 62 = .ok (.bipush 40, 2) := by decide +kernel
theorem dX11_init_64 : decode cX11_init 64 = .ok (.newarray .int, 2) := by decide +kernel
theorem dX11_init_66 : decode cX11_init 66 = .ok (.putfield 31, 3) := by decide +kernel
theorem dX11_init_69 : decode cX11_init 69 = .ok (.aload_n 0, 1) := by decide +kernel
theorem dX11_init_70 : decode cX11_init 70 = .ok (.bipush 40, 2) := by decide +kernel
theorem dX11_init_72 : decode cX11_init 72 = .ok (.newarray .int, 2) := by decide +kernel
theorem dX11_init_74 : decode cX11_init 74 = .ok (.putfield 34, 3) := by decide +kernel
theorem dX11_init_77 : decode cX11_init 77 = .ok (.aload_n 0, 1) := by decide +kernel
theorem dX11_init_78 : decode cX11_init 78 = .ok (.bipush 8, 2) := by decide +kernel
theorem dX11_init_80 : decode cX11_init 80 = .ok (.newarray .int, 2) := by decide +kernel
theorem dX11_init_82 : decode cX11_init 82 = .ok (.putfield 37, 3) := by decide +kernel
theorem dX11_init_85 : decode cX11_init 85 = .ok (.aload_n 0, 1) := by decide +kernel
theorem dX11_init_86 : decode cX11_init 86 = .ok (.bipush 8, 2) := by decide +kernel
theorem dX11_init_88 : decode cX11_init 88 = .ok (.newarray .int, 2) := by decide +kernel
theorem dX11_init_90 : decode cX11_init 90 = .ok (.putfield 40, 3) := by decide +kernel
theorem dX11_init_93 : decode cX11_init 93 = .ok (.aload_n 0, 1) := by decide +kernel
theorem dX11_init_94 : decode cX11_init 94 = .ok (.bipush 80, 2) := by decide +kernel
theorem dX11_init_96 : decode cX11_init 96 = .ok (.newarray .int, 2) := by decide +kernel
theorem dX11_init_98 : decode cX11_init 98 = .ok (.putfield 43, 3) := by decide +kernel
theorem dX11_init_101 : decode cX11_init 101 = .ok (.aload_n 0, 1) := by decide +kernel
theorem dX11_init_102 : decode cX11_init 102 = .ok (.bipush 24, 2) := by decide +kernel
theorem dX11_init_104 : decode cX11_init 104 = .ok (.newarray .int, 2) := by decide +kernel
theorem dX11_init_106 : decode cX11_init 106 = .ok (.putfield 46, 3) := by decide +kernel
theorem dX11_init_109 : decode cX11_init 109 = .ok (.aload_n 0, 1) := by decide +kernel
theorem dX11_init_110 : decode cX11_init 110 = .ok (.bipush 24, 2) := by decide +kernel
theorem dX11_init_112 : decode cX11_init 112 = .ok (.newarray .int, 2) := by decide +kernel
theorem dX11_init_114 : decode cX11_init 114 = .ok (.putfield 49, 3) := by decide +kernel
theorem dX11_init_117 : decode cX11_init 117 = .ok (.aload_n 0, 1) := by decide +kernel
theorem dX11_init_118 : decode cX11_init 118 = .ok (.bipush 24, 2) := by decide +kernel
theorem dX11_init_120 : decode cX11_init 120 = .ok (.newarray .int, 2) := by decide +kernel
theorem dX11_init_122 : decode cX11_init 122 = .ok (.putfield 52, 3) := by decide +kernel
theorem dX11_init_125 : decode cX11_init 125 = .ok (.aload_n 0, 1) := by decide +kernel
theorem dX11_init_126 : decode cX11_init 126 = .ok (.bipush 24, 2) := by decide +kernel
theorem dX11_init_128 : decode cX11_init 128 = .ok (.newarray .int, 2) := by decide +kernel
theorem dX11_init_130 : decode cX11_init 130 = .ok (.putfield 55, 3) := by decide +kernel
theorem dX11_init_133 : decode cX11_init 133 = .ok (.aload_n 0, 1) := by decide +kernel
theorem dX11_init_134 : decode cX11_init 134 = .ok (.bipush 24, 2) := by decide +kernel
theorem dX11_init_136 : decode cX11_init 136 = .ok (.newarray .int, 2) := by decide +kernel
theorem dX11_init_138 : decode cX11_init 138 = .ok (.putfield 58, 3) := by decide +kernel
theorem dX11_init_141 : decode cX11_init 141 = .ok (.aload_n 0, 1) := by decide +kernel
theorem dX11_init_142 : decode cX11_init 142 = .ok (.bipush 24, 2) := by decide +kernel
theorem dX11_init_144 : decode cX11_init 144 = .ok (.newarray .int, 2) := by decide +kernel
theorem dX11_init_146 : decode cX11_init 146 = .ok (.putfield 61, 3) := by decide +kernel
theorem dX11_init_149 : decode cX11_init 149 = .ok (.aload_n 0, 1) := by decide +kernel
theorem dX11_init_150 : decode cX11_init 150 = .ok (.bipush 24, 2) := by decide +kernel
theorem dX11_init_152 : decode cX11_init 152 = .ok (.newarray .int, 2) := by decide +kernel
theorem dX11_init_154 : decode cX11_init 154 = .ok (.putfield 64, 3) := by decide +kernel
theorem dX11_init_157 : decode cX11_init 157 = .ok (.aload_n 0, 1) := by decide +kernel
theorem dX11_init_158 : decode cX11_init 158 = .ok (.bipush 24, 2) := by decide +kernel
theorem dX11_init_160 : decode cX11_init 160 = .ok (.newarray .int, 2) := by decide +kernel
theorem dX11_init_162 : decode cX11_init 162 = .ok (.putfield 67, 3) := by decide +kernel
theorem dX11_init_165 : decode cX11_init 165 = .ok (.aload_n 0, 1) := by decide +kernel
theorem dX11_init_166 : decode cX11_init 166 = .ok (.bipush 80, 2) := by decide +kernel
theorem dX11_init_168 : decode cX11_init 168 = .ok (.newarray .int, 2) := by decide +kernel
theorem dX11_init_170 : decode cX11_init 170 = .ok (.putfield 70, 3) := by decide +kernel
theorem dX11_init_173 : decode cX11_init 173 = .ok (.aload_n 0, 1) := by decide +kernel
theorem dX11_init_174 : decode cX11_init 174 = .ok (.bipush 60, 2) := by decide +kernel
theorem dX11_init_176 : decode cX11_init 176 = .ok (.newarray .int, 2) := by decide +kernel
theorem dX11_init_178 : decode cX11_init 178 = .ok (.putfield 73, 3) := by decide +kernel
theorem dX11_init_181 : decode cX11_init 181 = .ok (.aload_n 0, 1) := by decide +kernel
theorem dX11_init_182 : decode cX11_init 182 = .ok (.bipush 60, 2) := by decide +kernel
theorem dX11_init_184 : decode cX11_init 184 = .ok (.newarray .int, 2) := by decide +kernel
theorem dX11_init_186 : decode cX11_init 186 = .ok (.putfield 76, 3) := by decide +kernel
theorem dX11_init_189 : decode cX11_init 189 = .ok (.aload_n 0, 1) := by decide +kernel
theorem dX11_init_190 : decode cX11_init 190 = .ok (.bipush 60, 2) := by decide +kernel
theorem dX11_init_192 : decode cX11_init 192 = .ok (.newarray .int, 2) := by decide +kernel
theorem dX11_init_194 : decode cX11_init 194 = .ok (.putfield 79, 3) := by decide +kernel
theorem dX11_init_197 : decode cX11_init 197 = .ok (.aload_n 0, 1) := by decide +kernel
theorem dX11_init_198 : decode cX11_init 198 = .ok (.iload_n 1, 1) := by decide +kernel
theorem dX11_init_199 : decode cX11_init 199 = .ok (.iconst 1, 1) := by decide +kernel
theorem dX11_init_200 : decode cX11_init 200 = .ok (.if_icmp .ge 7, 3) := by decide +kernel
theorem dX11_init_203 : decode cX11_init 203 = .ok (.iconst 1, 1) := by decide +kernel
theorem dX11_init_204 : decode cX11_init 204 = .ok (.goto 15, 3) := by decide +kernel
theorem dX11_init_207 : decode cX11_init 207 = .ok (.iload_n 1, 1) := by decide +kernel
theorem dX11_init_208 : decode cX11_init 208 = .ok (.bipush 12, 2) := by decide +kernel
theorem dX11_init_210 : decode cX11_init 210 = .ok (.if_icmp .le 8, 3) := by decide +kernel
theorem dX11_init_213 : decode cX11_init 213 = .ok (.bipush 12, 2) := by decide +kernel
theorem dX11_init_215 : decode cX11_init 215 = .ok (.goto 4, 3) := by decide +kernel
theorem dX11_init_218 : decode cX11_init 218 = .ok (.iload_n 1, 1) := by decide +kernel
theorem dX11_init_219 : decode cX11_init 219 = .ok (.putfield 82, 3) := by decide +kernel
theorem dX11_init_222 : decode cX11_init 222 = .ok (.iconst 0, 1) := by decide +kernel
theorem dX11_init_223 : decode cX11_init 223 = .ok (.istore_n 2, 1) := by decide +kernel
theorem dX11_init_224 : decode cX11_init 224 = .ok (.iload_n 2, 1) := by decide +kernel
theorem dX11_init_225 : decode cX11_init 225 = .ok (.bipush 32, 2) := by decide +kernel
theorem dX11_init_227 : decode cX11_init 227 = .ok (.if_icmp .ge 20, 3) := by decide +kernel
theorem dX11_init_230 : decode cX11_init 230 = .ok (.aload_n 0, 1) := by decide +kernel
theorem dX11_init_231 : decode cX11_init 231 = .ok (.getfield 7, 3) := by decide +kernel
theorem dX11_init_234 : decode cX11_init 234 = .ok (.iload_n 2, 1) := by decide +kernel
theorem dX11_init_235 : decode cX11_init 235 = .ok (.sipush 128, 3) := by decide +kernel
theorem dX11_init_238 : decode cX11_init 238 = .ok (.iload_n 2, 1) := by decide +kernel
theorem dX11_init_239 : decode cX11_init 239 = .ok (.iadd, 1) := by decide +kernel
theorem dX11_init_240 : decode cX11_init 240 = .ok (.iastore, 1) := by decide +kernel
theorem dX11_init_241 : decode cX11_init 241 = .ok (.iinc 2 1, 3) := by decide +kernel
theorem dX11_init_244 : decode cX11_init 244 = .ok (.goto (-20), 3) := by decide +kernel
theorem dX11_init_247 : decode cX11_init 247 = .ok (.return_, 1) := by decide +kernel
theorem dX11_in_0 : decode cX11_in 0 = .ok (.iload_n 0, 1) := by decide +kernel
theorem dX11_in_1 : decode cX11_in 1 = .ok (.iload_n 1, 1) := by decide +kernel
theorem dX11_in_2 : decode cX11_in 2 = .ok (.if_icmp .lt 12, 3) := by decide +kernel
theorem dX11_in_5 : decode cX11_in 5 = .ok (.iload_n 0, 1) := by decide +kernel
theorem dX11_in_6 : decode cX11_in 6 = .ok (.iload_n 2, 1) := by decide +kernel
theorem dX11_in_7 : decode cX11_in 7 = .ok (.if_icmp .gt 7, 3) := by decide +kernel
theorem dX11_in_10 : decode cX11_in 10 = .ok (.iconst 1, 1) := by decide +kernel
theorem dX11_in_11 : decode cX11_in 11 = .ok (.goto 4, 3) := by decide +kernel
theorem dX11_in_14 : decode cX11_in 14 = .ok (.iconst 0, 1) := by decide +kernel
theorem dX11_in_15 : decode cX11_in 15 = .ok (.ireturn, 1) := by decide +kernel
set_option maxRecDepth 20000 in
theorem ggX11_isLetter_X11_in : GoodIn wsX11_isLetter wsX11_in := goodIn_r _ [4] (by decide +kernel) (by decide +kernel)
set_option maxRecDepth 20000 in
theorem gX11_isLetter_X11_in : GoodIn wsX11_isLetter (va_wsS RX11 86 yX11_in wsX11_in) := goodIn_app (goodIn_of _ (by decide +kernel)) ggX11_isLetter_X11_in
theorem dX11_isLetter_0 : decode cX11_isLetter 0 = .ok (.iload_n 0, 1) := by decide +kernel
theorem dX11_isLetter_1 : decode cX11_isLetter 1 = .ok (.bipush 65, 2) := by decide +kernel
theorem dX11_isLetter_3 : decode cX11_isLetter 3 = .ok (.bipush 90, 2) := by decide +kernel
theorem dX11_isLetter_5 : decode cX11_isLetter 5 = .ok (.invokestatic 86, 3) := by decide +kernel
theorem dX11_isLetter_8 : decode cX11_isLetter 8 = .ok (.ifCond .ne 27, 3) := by decide +kernel
theorem dX11_isLetter_11 : decode cX11_isLetter 11 = .ok (.iload_n 0, 1) := by decide +kernel
theorem dX11_isLetter_12 : decode cX11_isLetter 12 = .ok (.bipush 97, 2) := by decide +kernel
theorem dX11_isLetter_14 : decode cX11_isLetter 14 = .ok (.bipush 122, 2) := by decide +kernel
theorem dX11_isLetter_16 : decode cX11_isLetter 16 = .ok (.invokestatic 86, 3) := by decide +kernel
theorem dX11_isLetter_19 : decode cX11_isLetter 19 = .ok (.ifCond .ne 16, 3) := by decide +kernel
theorem dX11_isLetter_22 : decode cX11_isLetter 22 = .ok (.iload_n 0, 1) := by decide +kernel
theorem dX11_isLetter_23 : decode cX11_isLetter 23 = .ok (.sipush 128, 3) := by decide +kernel
theorem dX11_isLetter_26 : decode cX11_isLetter 26 = .ok (.sipush 159, 3) := by decide +kernel
theorem dX11_isLetter_29 : decode cX11_isLetter 29 = .ok (.invokestatic 86, 3) := by decide +kernel
theorem dX11_isLetter_32 : decode cX11_isLetter 32 = .ok (.ifCond .eq 7, 3) := by decide +kernel
theorem dX11_isLetter_35 : decode cX11_isLetter 35 = .ok (.iconst 1, 1) := by decide +kernel
theorem dX11_isLetter_36 : decode cX11_isLetter 36 = .ok (.goto 4, 3) := by decide +kernel
theorem dX11_isLetter_39 : decode cX11_isLetter 39 = .ok (.iconst 0, 1) := by decide +kernel
theorem dX11_isLetter_40 : decode cX11_isLetter 40 = .ok (.ireturn, 1) := by decide +kernel
set_option maxRecDepth 20000 in
theorem ggX11_isDigit_X11_in : GoodIn wsX11_isDigit wsX11_in := goodIn_r _ [4] (by decide +kernel) (by decide +kernel)
set_option maxRecDepth 20000 in
theorem gX11_isDigit_X11_in : GoodIn wsX11_isDigit (va_wsS RX11 86 yX11_in wsX11_in) := goodIn_app (goodIn_of _ (by decide +kernel)) ggX11_isDigit_X11_in
theorem dX11_isDigit_0 : decode cX11_isDigit 0 = .ok (.iload_n 0, 1) := by decide +kernel
theorem dX11_isDigit_1 : decode cX11_isDigit 1 = .ok (.bipush 48, 2) := by decide +kernel
theorem dX11_isDigit_3 : decode cX11_isDigit 3 = .ok (.bipush 57, 2) := by decide +kernel
theorem dX11_isDigit_5 : decode cX11_isDigit 5 = .ok (.invokestatic 86, 3) := by decide +kernel
theorem dX11_isDigit_8 : decode cX11_isDigit 8 = .ok (.ireturn, 1) := by decide +kernel
set_option maxRecDepth 20000 in
theorem ggX11_folded_X11_in : GoodIn wsX11_folded wsX11_in := goodIn_r _ [5] (by decide +kernel) (by decide +kernel)
set_option maxRecDepth 20000 in
theorem gX11_folded_X11_in : GoodIn wsX11_folded (va_wsS RX11 86 yX11_in wsX11_in) := goodIn_app (goodIn_of _ (by decide +kernel)) ggX11_folded_X11_in
theorem dX11_folded_0 : decode cX11_folded 0 = .ok (.iload_n 1, 1) := by decide +kernel
theorem dX11_folded_1 : decode cX11_folded 1 = .ok (.bipush 65, 2) := by decide +kernel
theorem dX11_folded_3 : decode cX11_folded 3 = .ok (.bipush 90, 2) := by decide +kernel
theorem dX11_folded_5 : decode cX11_folded 5 = .ok (.invokestatic 86, 3) := by decide +kernel
theorem dX11_folded_8 : decode cX11_folded 8 = .ok (.ifCond .eq 10, 3) := by decide +kernel
theorem dX11_folded_11 : decode cX11_folded 11 = .ok (.iload_n 1, 1) := by decide +kernel
theorem dX11_folded_12 : decode cX11_folded 12 = .ok (.bipush 32, 2) := by decide +kernel
theorem dX11_folded_14 : decode cX11_folded 14 = .ok (.iadd, 1) := by decide +kernel
theorem dX11_folded_15 : decode cX11_folded 15 = .ok (.goto 23, 3) := by decide +kernel
theorem dX11_folded_18 : decode cX11_folded 18 = .ok (.iload_n 1, 1) := by decide +kernel
theorem dX11_folded_19 : decode cX11_folded 19 = .ok (.bipush 127, 2) := by decide +kernel
theorem dX11_folded_21 : decode cX11_folded 21 = .ok (.if_icmp .le 16, 3) := by decide +kernel
theorem dX11_folded_24 : decode cX11_folded 24 = .ok (.aload_n 0, 1) := by decide +kernel
theorem dX11_folded_25 : decode cX11_folded 25 = .ok (.getfield 7, 3) := by decide +kernel
theorem dX11_folded_28 : decode cX11_folded 28 = .ok (.iload_n 1, 1) := by decide +kernel
theorem dX11_folded_29 : decode cX11_folded 29 = .ok (.sipush 128, 3) := by decide +kernel
theorem dX11_folded_32 : decode cX11_folded 32 = .ok (.isub, 1) := by decide +kernel
theorem dX11_folded_33 : decode cX11_folded 33 = .ok (.iaload, 1) := by decide +kernel
theorem dX11_folded_34 : decode cX11_folded 34 = .ok (.goto 4, 3) := by decide +kernel
theorem dX11_folded_37 : decode cX11_folded 37 = .ok (.iload_n 1, 1) := by decide +kernel
theorem dX11_folded_38 : decode cX11_folded 38 = .ok (.ireturn, 1) := by decide +kernel
set_option maxRecDepth 20000 in
theorem ggX11_isWord_X11_in : GoodIn wsX11_isWord wsX11_in := goodIn_r _ [5] (by decide +kernel) (by decide +kernel)
set_option maxRecDepth 20000 in
theorem gX11_isWord_X11_in : GoodIn wsX11_isWord (va_wsS RX11 86 yX11_in wsX11_in) := goodIn_app (goodIn_of _ (by decide +kernel)) ggX11_isWord_X11_in
theorem dX11_isWord_0 : decode cX11_isWord 0 = .ok (.iload_n 1, 1) := by decide +kernel
theorem dX11_isWord_1 : decode cX11_isWord 1 = .ok (.iconst 0, 1) := by decide +kernel
theorem dX11_isWord_2 : decode cX11_isWord 2 = .ok (.aload_n 0, 1) := by decide +kernel
theorem dX11_isWord_3 : decode cX11_isWord 3 = .ok (.getfield 90, 3) := by decide +kernel
theorem dX11_isWord_6 : decode cX11_isWord 6 = .ok (.iconst 1, 1) := by decide +kernel
theorem dX11_isWord_7 : decode cX11_isWord 7 = .ok (.isub, 1) := by decide +kernel
theorem dX11_isWord_8 : decode cX11_isWord 8 = .ok (.invokestatic 86, 3) := by decide +kernel
theorem dX11_isWord_11 : decode cX11_isWord 11 = .ok (.ireturn, 1) := by decide +kernel
set_option maxRecDepth 20000 in
theorem ggX11_fold_X11_in : GoodIn wsX11_fold wsX11_in := goodIn_r _ [7] (by decide +kernel) (by decide +kernel)
set_option maxRecDepth 20000 in
theorem gX11_fold_X11_in : GoodIn wsX11_fold (va_wsS RX11 86 yX11_in wsX11_in) := goodIn_app (goodIn_of _ (by decide +kernel)) ggX11_fold_X11_in
theorem dX11_fold_0 : decode cX11_fold 0 = .ok (.iload_n 1, 1) := by decide +kernel
theorem dX11_fold_1 : decode cX11_fold 1 = .ok (.sipush 128, 3) := by decide +kernel
theorem dX11_fold_4 : decode cX11_fold 4 = .ok (.sipush 159, 3) := by decide +kernel
theorem dX11_fold_7 : decode cX11_fold 7 = .ok (.invokestatic 86, 3) := by decide +kernel
theorem dX11_fold_10 : decode cX11_fold 10 = .ok (.ifCond .eq 14, 3) := by decide +kernel
theorem dX11_fold_13 : decode cX11_fold 13 = .ok (.iload_n 2, 1) := by decide +kernel
theorem dX11_fold_14 : decode cX11_fold 14 = .ok (.bipush 97, 2) := by decide +kernel
theorem dX11_fold_16 : decode cX11_fold 16 = .ok (.bipush 122, 2) := by decide +kernel
theorem dX11_fold_18 : decode cX11_fold 18 = .ok (.invokestatic 86, 3) := by decide +kernel
theorem dX11_fold_21 : decode cX11_fold 21 = .ok (.ifCond .ne 6, 3) := by decide +kernel
theorem dX11_fold_24 : decode cX11_fold 24 = .ok (.bipush (-3), 2) := by decide +kernel
theorem dX11_fold_26 : decode cX11_fold 26 = .ok (.ireturn, 1) := by decide +kernel
theorem dX11_fold_27 : decode cX11_fold 27 = .ok (.aload_n 0, 1) := by decide +kernel
theorem dX11_fold_28 : decode cX11_fold 28 = .ok (.getfield 90, 3) := by decide +kernel
theorem dX11_fold_31 : decode cX11_fold 31 = .ok (.ifCond .gt 10, 3) := by decide +kernel
theorem dX11_fold_34 : decode cX11_fold 34 = .ok (.aload_n 0, 1) := by decide +kernel
theorem dX11_fold_35 : decode cX11_fold 35 = .ok (.getfield 93, 3) := by decide +kernel
theorem dX11_fold_38 : decode cX11_fold 38 = .ok (.ifCond .le 6, 3) := by decide +kernel
theorem dX11_fold_41 : decode cX11_fold 41 = .ok (.bipush (-4), 2) := by decide +kernel
theorem dX11_fold_43 : decode cX11_fold 43 = .ok (.ireturn, 1) := by decide +kernel
theorem dX11_fold_44 : decode cX11_fold 44 = .ok (.aload_n 0, 1) := by decide +kernel
theorem dX11_fold_45 : decode cX11_fold 45 = .ok (.getfield 7, 3) := by decide +kernel
theorem dX11_fold_48 : decode cX11_fold 48 = .ok (.iload_n 1, 1) := by decide +kernel
theorem dX11_fold_49 : decode cX11_fold 49 = .ok (.sipush 128, 3) := by decide +kernel
theorem dX11_fold_52 : decode cX11_fold 52 = .ok (.isub, 1) := by decide +kernel
theorem dX11_fold_53 : decode cX11_fold 53 = .ok (.iaload, 1) := by decide +kernel
theorem dX11_fold_54 : decode cX11_fold 54 = .ok (.istore_n 3, 1) := by decide +kernel
theorem dX11_fold_55 : decode cX11_fold 55 = .ok (.aload_n 0, 1) := by decide +kernel
theorem dX11_fold_56 : decode cX11_fold 56 = .ok (.getfield 7, 3) := by decide +kernel
theorem dX11_fold_59 : decode cX11_fold 59 = .ok (.iload_n 1, 1) := by decide +kernel
theorem dX11_fold_60 : decode cX11_fold 60 = .ok (.sipush 128, 3) := by decide +kernel
theorem dX11_fold_63 : decode cX11_fold 63 = .ok (.isub, 1) := by decide +kernel
theorem dX11_fold_64 : decode cX11_fold 64 = .ok (.iload_n 2, 1) := by decide +kernel
theorem dX11_fold_65 : decode cX11_fold 65 = .ok (.iastore, 1) := by decide +kernel
theorem dX11_fold_66 : decode cX11_fold 66 = .ok (.iload_n 3, 1) := by decide +kernel
theorem dX11_fold_67 : decode cX11_fold 67 = .ok (.ireturn, 1) := by decide +kernel
set_option maxRecDepth 20000 in
theorem ggX11_letter_X11_isLetter : GoodIn wsX11_letter wsX11_isLetter := goodIn_r _ [6, 7, 8, 5, 9] (by decide +kernel) (by decide +kernel)
set_option maxRecDepth 20000 in
theorem gX11_letter_X11_isLetter : GoodIn wsX11_letter (va_wsS RX11 96 yX11_isLetter wsX11_isLetter) := goodIn_app (goodIn_of _ (by decide +kernel)) ggX11_letter_X11_isLetter
theorem dX11_letter_0 : decode cX11_letter 0 = .ok (.iload_n 1, 1) := by decide +kernel
theorem dX11_letter_1 : decode cX11_letter 1 = .ok (.invokestatic 96, 3) := by decide +kernel
theorem dX11_letter_4 : decode cX11_letter 4 = .ok (.ifCond .ne 6, 3) := by decide +kernel
theorem dX11_letter_7 : decode cX11_letter 7 = .ok (.bipush (-3), 2) := by decide +kernel
theorem dX11_letter_9 : decode cX11_letter 9 = .ok (.ireturn, 1) := by decide +kernel
theorem dX11_letter_10 : decode cX11_letter 10 = .ok (.aload_n 0, 1) := by decide +kernel
theorem dX11_letter_11 : decode cX11_letter 11 = .ok (.getfield 100, 3) := by decide +kernel
theorem dX11_letter_14 : decode cX11_letter 14 = .ok (.bipush 20, 2) := by decide +kernel
theorem dX11_letter_16 : decode cX11_letter 16 = .ok (.if_icmp .ne 6, 3) := by decide +kernel
theorem dX11_letter_19 : decode cX11_letter 19 = .ok (.bipush (-5), 2) := by decide +kernel
theorem dX11_letter_21 : decode cX11_letter 21 = .ok (.ireturn, 1) := by decide +kernel
theorem dX11_letter_22 : decode cX11_letter 22 = .ok (.aload_n 0, 1) := by decide +kernel
theorem dX11_letter_23 : decode cX11_letter 23 = .ok (.getfield 13, 3) := by decide +kernel
theorem dX11_letter_26 : decode cX11_letter 26 = .ok (.aload_n 0, 1) := by decide +kernel
theorem dX11_letter_27 : decode cX11_letter 27 = .ok (.getfield 100, 3) := by decide +kernel
theorem dX11_letter_30 : decode cX11_letter 30 = .ok (.iload_n 1, 1) := by decide +kernel
theorem dX11_letter_31 : decode cX11_letter 31 = .ok (.iastore, 1) := by decide +kernel
theorem dX11_letter_32 : decode cX11_letter 32 = .ok (.aload_n 0, 1) := by decide +kernel
theorem dX11_letter_33 : decode cX11_letter 33 = .ok (.dup, 1) := by decide +kernel
theorem dX11_letter_34 : decode cX11_letter 34 = .ok (.getfield 100, 3) := by decide +kernel
theorem dX11_letter_37 : decode cX11_letter 37 = .ok (.iconst 1, 1) := by decide +kernel
theorem dX11_letter_38 : decode cX11_letter 38 = .ok (.iadd, 1) := by decide +kernel
theorem dX11_letter_39 : decode cX11_letter 39 = .ok (.putfield 100, 3) := by decide +kernel
theorem dX11_letter_42 : decode cX11_letter 42 = .ok (.aload_n 0, 1) := by decide +kernel
theorem dX11_letter_43 : decode cX11_letter 43 = .ok (.getfield 100, 3) := by decide +kernel
theorem dX11_letter_46 : decode cX11_letter 46 = .ok (.ireturn, 1) := by decide +kernel
set_option maxRecDepth 20000 in
theorem ggX11_isLike_X11_folded : GoodIn wsX11_isLike wsX11_folded := goodIn_r _ [8, 9, 10, 11, 7, 12, 13, 14, 15, 16, 17, 18, 19, 20, 21, 22, 23, 24, 25, 26, 27, 28, 29, 30, 31, 32, 33, 34, 35, 36, 37, 38, 39, 40, 41, 42, 43, 44, 45, 46, 47, 48, 49] (by decide +kernel) (by decide +kernel)
set_option maxRecDepth 20000 in
theorem gX11_isLike_X11_folded : GoodIn wsX11_isLike (wsV RX11 103 RX11 yX11_folded wsX11_folded) := goodIn_app (goodIn_of _ (by decide +kernel)) ggX11_isLike_X11_folded
theorem dX11_isLike_0 : decode cX11_isLike 0 = .ok (.iload_n 3, 1) := by decide +kernel
theorem dX11_isLike_1 : decode cX11_isLike 1 = .ok (.aload_n 0, 1) := by decide +kernel
theorem dX11_isLike_2 : decode cX11_isLike 2 = .ok (.getfield 82, 3) := by decide +kernel
theorem dX11_isLike_5 : decode cX11_isLike 5 = .ok (.if_icmp .ge 7, 3) := by decide +kernel
theorem dX11_isLike_8 : decode cX11_isLike 8 = .ok (.iload_n 3, 1) := by decide +kernel
theorem dX11_isLike_9 : decode cX11_isLike 9 = .ok (.goto 7, 3) := by decide +kernel
theorem dX11_isLike_12 : decode cX11_isLike 12 = .ok (.aload_n 0, 1) := by decide +kernel
theorem dX11_isLike_13 : decode cX11_isLike 13 = .ok (.getfield 82, 3) := by decide +kernel
theorem dX11_isLike_16 : decode cX11_isLike 16 = .ok (.istore 5, 2) := by decide +kernel
theorem dX11_isLike_18 : decode cX11_isLike 18 = .ok (.aload_n 0, 1) := by decide +kernel
theorem dX11_isLike_19 : decode cX11_isLike 19 = .ok (.getfield 19, 3) := by decide +kernel
theorem dX11_isLike_22 : decode cX11_isLike 22 = .ok (.iload 4, 2) := by decide +kernel
theorem dX11_isLike_24 : decode cX11_isLike 24 = .ok (.iaload, 1) := by decide +kernel
theorem dX11_isLike_25 : decode cX11_isLike 25 = .ok (.aload_n 0, 1) := by decide +kernel
theorem dX11_isLike_26 : decode cX11_isLike 26 = .ok (.getfield 82, 3) := by decide +kernel
theorem dX11_isLike_29 : decode cX11_isLike 29 = .ok (.if_icmp .ge 13, 3) := by decide +kernel
theorem dX11_isLike_32 : decode cX11_isLike 32 = .ok (.aload_n 0, 1) := by decide +kernel
theorem dX11_isLike_33 : decode cX11_isLike 33 = .ok (.getfield 19, 3) := by decide +kernel
theorem dX11_isLike_36 : decode cX11_isLike 36 = .ok (.iload 4, 2) := by decide +kernel
theorem dX11_isLike_38 : decode cX11_isLike 38 = .ok (.iaload, 1) := by decide +kernel
theorem dX11_isLike_39 : decode cX11_isLike 39 = .ok (.goto 7, 3) := by decide +kernel
theorem dX11_isLike_42 : decode cX11_isLike 42 = .ok (.aload_n 0, 1) := by decide +kernel
theorem dX11_isLike_43 : decode cX11_isLike 43 = .ok (.getfield 82, 3) := by decide +kernel
theorem dX11_isLike_46 : decode cX11_isLike 46 = .ok (.istore 6, 2) := by decide +kernel
theorem dX11_isLike_48 : decode cX11_isLike 48 = .ok (.iload 5, 2) := by decide +kernel
theorem dX11_isLike_50 : decode cX11_isLike 50 = .ok (.iload 6, 2) := by decide +kernel
theorem dX11_isLike_52 : decode cX11_isLike 52 = .ok (.if_icmp .ne 7, 3) := by decide +kernel
theorem dX11_isLike_55 : decode cX11_isLike 55 = .ok (.iconst 1, 1) := by decide +kernel
theorem dX11_isLike_56 : decode cX11_isLike 56 = .ok (.goto 4, 3) := by decide +kernel
theorem dX11_isLike_59 : decode cX11_isLike 59 = .ok (.iconst 0, 1) := by decide +kernel
theorem dX11_isLike_60 : decode cX11_isLike 60 = .ok (.istore 7, 2) := by decide +kernel
theorem dX11_isLike_62 : decode cX11_isLike 62 = .ok (.iconst 0, 1) := by decide +kernel
theorem dX11_isLike_63 : decode cX11_isLike 63 = .ok (.istore 8, 2) := by decide +kernel
theorem dX11_isLike_65 : decode cX11_isLike 65 = .ok (.iload 8, 2) := by decide +kernel
theorem dX11_isLike_67 : decode cX11_isLike 67 = .ok (.iload 5, 2) := by decide +kernel
theorem dX11_isLike_69 : decode cX11_isLike 69 = .ok (.if_icmp .ge 51, 3) := by decide +kernel
theorem dX11_isLike_72 : decode cX11_isLike 72 = .ok (.iload 7, 2) := by decide +kernel
theorem dX11_isLike_74 : decode cX11_isLike 74 = .ok (.ifCond .eq 46, 3) := by decide +kernel
theorem dX11_isLike_77 : decode cX11_isLike 77 = .ok (.aload_n 0, 1) := by decide +kernel
theorem dX11_isLike_78 : decode cX11_isLike 78 = .ok (.aload_n 1, 1) := by decide +kernel
theorem dX11_isLike_79 : decode cX11_isLike 79 = .ok (.iload_n 2, 1) := by decide +kernel
theorem dX11_isLike_80 : decode cX11_isLike 80 = .ok (.iload 8, 2) := by decide +kernel
theorem dX11_isLike_82 : decode cX11_isLike 82 = .ok (.iadd, 1) := by decide +kernel
theorem dX11_isLike_83 : decode cX11_isLike 83 = .ok (.iaload, 1) := by decide +kernel
theorem dX11_isLike_84 : decode cX11_isLike 84 = .ok (.invokevirtual 103, 3) := by decide +kernel
theorem dX11_isLike_87 : decode cX11_isLike 87 = .ok (.aload_n 0, 1) := by decide +kernel
theorem dX11_isLike_88 : decode cX11_isLike 88 = .ok (.aload_n 0, 1) := by decide +kernel
theorem dX11_isLike_89 : decode cX11_isLike 89 = .ok (.getfield 16, 3) := by decide +kernel
theorem dX11_isLike_92 : decode cX11_isLike 92 = .ok (.bipush 20, 2) := by decide +kernel
theorem dX11_isLike_94 : decode cX11_isLike 94 = .ok (.iload 4, 2) := by decide +kernel
theorem dX11_isLike_96 : decode cX11_isLike 96 = .ok (.imul, 1) := by decide +kernel
theorem dX11_isLike_97 : decode cX11_isLike 97 = .ok (.iload 8, 2) := by decide +kernel
theorem dX11_isLike_99 : decode cX11_isLike 99 = .ok (.iadd, 1) := by decide +kernel
theorem dX11_isLike_100 : decode cX11_isLike 100 = .ok (.iaload, 1) := by decide +kernel
theorem dX11_isLike_101 : decode cX11_isLike 101 = .ok (.invokevirtual 103, 3) := by decide +kernel
theorem dX11_isLike_104 : decode cX11_isLike 104 = .ok (.if_icmp .ne 7, 3) := by decide +kernel
theorem dX11_isLike_107 : decode cX11_isLike 107 = .ok (.iconst 1, 1) := by decide +kernel
theorem dX11_isLike_108 : decode cX11_isLike 108 = .ok (.goto 4, 3) := by decide +kernel
theorem dX11_isLike_111 : decode cX11_isLike 111 = .ok (.iconst 0, 1) := by decide +kernel
theorem dX11_isLike_112 : decode cX11_isLike 112 = .ok (.istore 7, 2) := by decide +kernel
theorem dX11_isLike_114 : decode cX11_isLike 114 = .ok (.iinc 8 1, 3) := by decide +kernel
theorem dX11_isLike_117 : decode cX11_isLike 117 = .ok (.goto (-52), 3) := by decide +kernel
theorem dX11_isLike_120 : decode cX11_isLike 120 = .ok (.iload 7, 2) := by decide +kernel
theorem dX11_isLike_122 : decode cX11_isLike 122 = .ok (.ireturn, 1) := by decide +kernel
set_option maxRecDepth 20000 in
theorem ggX11_found_X11_isLike : GoodIn wsX11_found wsX11_isLike := goodIn_r _ [7, 8, 9, 10, 11, 12, 13, 6, 14, 15, 16, 17, 18, 19, 20, 21, 22, 23, 24, 25, 26, 27, 28, 29, 30, 31, 32, 33, 34, 35, 36, 37, 38, 39, 40, 41, 42, 43, 44, 45, 46, 47, 48, 49, 50, 51, 52, 53, 54, 55] (by decide +kernel) (by decide +kernel)
set_option maxRecDepth 20000 in
theorem gX11_found_X11_isLike : GoodIn wsX11_found (wsV RX11 107 RX11 yX11_isLike wsX11_isLike) := goodIn_app (goodIn_of _ (by decide +kernel)) ggX11_found_X11_isLike
theorem dX11_found_0 : decode cX11_found 0 = .ok (.iconst 0, 1) := by decide +kernel
theorem dX11_found_1 : decode cX11_found 1 = .ok (.istore 5, 2) := by decide +kernel
theorem dX11_found_3 : decode cX11_found 3 = .ok (.iload 5, 2) := by decide +kernel
theorem dX11_found_5 : decode cX11_found 5 = .ok (.aload_n 0, 1) := by decide +kernel
theorem dX11_found_6 : decode cX11_found 6 = .ok (.getfield 90, 3) := by decide +kernel
theorem dX11_found_9 : decode cX11_found 9 = .ok (.if_icmp .ge 36, 3) := by decide +kernel
theorem dX11_found_12 : decode cX11_found 12 = .ok (.aload_n 0, 1) := by decide +kernel
theorem dX11_found_13 : decode cX11_found 13 = .ok (.getfield 22, 3) := by decide +kernel
theorem dX11_found_16 : decode cX11_found 16 = .ok (.iload 5, 2) := by decide +kernel
theorem dX11_found_18 : decode cX11_found 18 = .ok (.iaload, 1) := by decide +kernel
theorem dX11_found_19 : decode cX11_found 19 = .ok (.iload 4, 2) := by decide +kernel
theorem dX11_found_21 : decode cX11_found 21 = .ok (.if_icmp .ne 18, 3) := by decide +kernel
theorem dX11_found_24 : decode cX11_found 24 = .ok (.aload_n 0, 1) := by decide +kernel
theorem dX11_found_25 : decode cX11_found 25 = .ok (.aload_n 1, 1) := by decide +kernel
theorem dX11_found_26 : decode cX11_found 26 = .ok (.iload_n 2, 1) := by decide +kernel
theorem dX11_found_27 : decode cX11_found 27 = .ok (.iload_n 3, 1) := by decide +kernel
theorem dX11_found_28 : decode cX11_found 28 = .ok (.iload 5, 2) := by decide +kernel
theorem dX11_found_30 : decode cX11_found 30 = .ok (.invokevirtual 107, 3) := by decide +kernel
theorem dX11_found_33 : decode cX11_found 33 = .ok (.ifCond .eq 6, 3) := by decide +kernel
theorem dX11_found_36 : decode cX11_found 36 = .ok (.iload 5, 2) := by decide +kernel
theorem dX11_found_38 : decode cX11_found 38 = .ok (.ireturn, 1) := by decide +kernel
theorem dX11_found_39 : decode cX11_found 39 = .ok (.iinc 5 1, 3) := by decide +kernel
theorem dX11_found_42 : decode cX11_found 42 = .ok (.goto (-39), 3) := by decide +kernel
theorem dX11_found_45 : decode cX11_found 45 = .ok (.iconst (-1), 1) := by decide +kernel
theorem dX11_found_46 : decode cX11_found 46 = .ok (.ireturn, 1) := by decide +kernel
theorem dX11_lay_0 : decode cX11_lay 0 = .ok (.iconst 0, 1) := by decide +kernel
theorem dX11_lay_1 : decode cX11_lay 1 = .ok (.istore_n 2, 1) := by decide +kernel
theorem dX11_lay_2 : decode cX11_lay 2 = .ok (.iload_n 2, 1) := by decide +kernel
theorem dX11_lay_3 : decode cX11_lay 3 = .ok (.aload_n 0, 1) := by decide +kernel
theorem dX11_lay_4 : decode cX11_lay 4 = .ok (.getfield 100, 3) := by decide +kernel
theorem dX11_lay_7 : decode cX11_lay 7 = .ok (.if_icmp .ge 26, 3) := by decide +kernel
theorem dX11_lay_10 : decode cX11_lay 10 = .ok (.aload_n 0, 1) := by decide +kernel
theorem dX11_lay_11 : decode cX11_lay 11 = .ok (.getfield 16, 3) := by decide +kernel
theorem dX11_lay_14 : decode cX11_lay 14 = .ok (.bipush 20, 2) := by decide +kernel
theorem dX11_lay_16 : decode cX11_lay 16 = .ok (.iload_n 1, 1) := by decide +kernel
theorem dX11_lay_17 : decode cX11_lay 17 = .ok (.imul, 1) := by decide +kernel
theorem dX11_lay_18 : decode cX11_lay 18 = .ok (.iload_n 2, 1) := by decide +kernel
theorem dX11_lay_19 : decode cX11_lay 19 = .ok (.iadd, 1) := by decide +kernel
theorem dX11_lay_20 : decode cX11_lay 20 = .ok (.aload_n 0, 1) := by decide +kernel
theorem dX11_lay_21 : decode cX11_lay 21 = .ok (.getfield 13, 3) := by decide +kernel
theorem dX11_lay_24 : decode cX11_lay 24 = .ok (.iload_n 2, 1) := by decide +kernel
theorem dX11_lay_25 : decode cX11_lay 25 = .ok (.iaload, 1) := by decide +kernel
theorem dX11_lay_26 : decode cX11_lay 26 = .ok (.iastore, 1) := by decide +kernel
theorem dX11_lay_27 : decode cX11_lay 27 = .ok (.iinc 2 1, 3) := by decide +kernel
theorem dX11_lay_30 : decode cX11_lay 30 = .ok (.goto (-28), 3) := by decide +kernel
theorem dX11_lay_33 : decode cX11_lay 33 = .ok (.aload_n 0, 1) := by decide +kernel
theorem dX11_lay_34 : decode cX11_lay 34 = .ok (.getfield 19, 3) := by decide +kernel
theorem dX11_lay_37 : decode cX11_lay 37 = .ok (.iload_n 1, 1) := by decide +kernel
theorem dX11_lay_38 : decode cX11_lay 38 = .ok (.aload_n 0, 1) := by decide +kernel
theorem dX11_lay_39 : decode cX11_lay 39 = .ok (.getfield 100, 3) := by decide +kernel
theorem dX11_lay_42 : decode cX11_lay 42 = .ok (.iastore, 1) := by decide +kernel
theorem dX11_lay_43 : decode cX11_lay 43 = .ok (.aload_n 0, 1) := by decide +kernel
theorem dX11_lay_44 : decode cX11_lay 44 = .ok (.iconst 0, 1) := by decide +kernel
theorem dX11_lay_45 : decode cX11_lay 45 = .ok (.putfield 100, 3) := by decide +kernel
theorem dX11_lay_48 : decode cX11_lay 48 = .ok (.return_, 1) := by decide +kernel
set_option maxRecDepth 20000 in
theorem ggX11_word_X11_in : GoodIn wsX11_word wsX11_in := goodIn_r _ [12] (by decide +kernel) (by decide +kernel)
set_option maxRecDepth 20000 in
theorem gX11_word_X11_in : GoodIn wsX11_word (va_wsS RX11 86 yX11_in wsX11_in) := goodIn_app (goodIn_of _ (by decide +kernel)) ggX11_word_X11_in
set_option maxRecDepth 20000 in
theorem ggX11_word_X11_found : GoodIn wsX11_word wsX11_found := goodIn_r _ [16, 4, 5, 17, 18, 19, 11, 20, 21, 22, 23, 24, 25, 26, 27, 28, 9, 10, 12, 33, 34, 35, 36, 37, 38, 39, 40, 41, 42, 43, 44, 45, 46, 47, 48, 49, 50, 51, 52, 53, 54, 55, 56, 57, 58, 59, 60, 61, 62, 63, 64, 65, 66, 67, 68, 69] (by decide +kernel) (by decide +kernel)
set_option maxRecDepth 20000 in
theorem gX11_word_X11_found : GoodIn wsX11_word (wsV RX11 111 RX11 yX11_found wsX11_found) := goodIn_app (goodIn_of _ (by decide +kernel)) ggX11_word_X11_found
set_option maxRecDepth 20000 in
theorem ggX11_word_X11_lay : GoodIn wsX11_word wsX11_lay := goodIn_r _ [32, 1, 23, 2, 22, 33, 34, 35, 36, 37, 38, 39, 40, 41, 42, 43, 44, 45, 46, 47, 48, 49, 50, 51, 52, 53, 54, 55, 56, 57, 58, 59, 60, 61, 62, 63, 64, 65, 66, 67, 68, 69] (by decide +kernel) (by decide +kernel)
set_option maxRecDepth 20000 in
theorem gX11_word_X11_lay : GoodIn wsX11_word (wsV RX11 115 RX11 yX11_lay wsX11_lay) := goodIn_app (goodIn_of _ (by decide +kernel)) ggX11_word_X11_lay
theorem dX11_word_0 : decode cX11_word 0 = .ok (.iload_n 1, 1) := by decide +kernel
theorem dX11_word_1 : decode cX11_word 1 = .ok (.iconst 0, 1) := by decide +kernel
theorem dX11_word_2 : decode cX11_word 2 = .ok (.iconst 2, 1) := by decide +kernel
theorem dX11_word_3 : decode cX11_word 3 = .ok (.invokestatic 86, 3) := by decide +kernel
theorem dX11_word_6 : decode cX11_word 6 = .ok (.ifCond .eq 13, 3) := by decide +kernel
theorem dX11_word_9 : decode cX11_word 9 = .ok (.iload_n 2, 1) := by decide +kernel
theorem dX11_word_10 : decode cX11_word 10 = .ok (.iconst 0, 1) := by decide +kernel
theorem dX11_word_11 : decode cX11_word 11 = .ok (.bipush 63, 2) := by decide +kernel
theorem dX11_word_13 : decode cX11_word 13 = .ok (.invokestatic 86, 3) := by decide +kernel
theorem dX11_word_16 : decode cX11_word 16 = .ok (.ifCond .ne 6, 3) := by decide +kernel
theorem dX11_word_19 : decode cX11_word 19 = .ok (.bipush (-3), 2) := by decide +kernel
theorem dX11_word_21 : decode cX11_word 21 = .ok (.ireturn, 1) := by decide +kernel
theorem dX11_word_22 : decode cX11_word 22 = .ok (.aload_n 0, 1) := by decide +kernel
theorem dX11_word_23 : decode cX11_word 23 = .ok (.getfield 100, 3) := by decide +kernel
theorem dX11_word_26 : decode cX11_word 26 = .ok (.ifCond .ne 6, 3) := by decide +kernel
theorem dX11_word_29 : decode cX11_word 29 = .ok (.bipush (-4), 2) := by decide +kernel
theorem dX11_word_31 : decode cX11_word 31 = .ok (.ireturn, 1) := by decide +kernel
theorem dX11_word_32 : decode cX11_word 32 = .ok (.aload_n 0, 1) := by decide +kernel
theorem dX11_word_33 : decode cX11_word 33 = .ok (.aload_n 0, 1) := by decide +kernel
theorem dX11_word_34 : decode cX11_word 34 = .ok (.getfield 13, 3) := by decide +kernel
theorem dX11_word_37 : decode cX11_word 37 = .ok (.iconst 0, 1) := by decide +kernel
theorem dX11_word_38 : decode cX11_word 38 = .ok (.aload_n 0, 1) := by decide +kernel
theorem dX11_word_39 : decode cX11_word 39 = .ok (.getfield 100, 3) := by decide +kernel
theorem dX11_word_42 : decode cX11_word 42 = .ok (.iload_n 1, 1) := by decide +kernel
theorem dX11_word_43 : decode cX11_word 43 = .ok (.invokevirtual 111, 3) := by decide +kernel
theorem dX11_word_46 : decode cX11_word 46 = .ok (.istore_n 3, 1) := by decide +kernel
theorem dX11_word_47 : decode cX11_word 47 = .ok (.iload_n 3, 1) := by decide +kernel
theorem dX11_word_48 : decode cX11_word 48 = .ok (.ifCond .lt 20, 3) := by decide +kernel
theorem dX11_word_51 : decode cX11_word 51 = .ok (.aload_n 0, 1) := by decide +kernel
theorem dX11_word_52 : decode cX11_word 52 = .ok (.getfield 25, 3) := by decide +kernel
theorem dX11_word_55 : decode cX11_word 55 = .ok (.iload_n 3, 1) := by decide +kernel
theorem dX11_word_56 : decode cX11_word 56 = .ok (.dup2, 1) := by decide +kernel
theorem dX11_word_57 : decode cX11_word 57 = .ok (.iaload, 1) := by decide +kernel
theorem dX11_word_58 : decode cX11_word 58 = .ok (.iload_n 2, 1) := by decide +kernel
theorem dX11_word_59 : decode cX11_word 59 = .ok (.ior, 1) := by decide +kernel
theorem dX11_word_60 : decode cX11_word 60 = .ok (.iastore, 1) := by decide +kernel
theorem dX11_word_61 : decode cX11_word 61 = .ok (.aload_n 0, 1) := by decide +kernel
theorem dX11_word_62 : decode cX11_word 62 = .ok (.iconst 0, 1) := by decide +kernel
theorem dX11_word_63 : decode cX11_word 63 = .ok (.putfield 100, 3) := by decide +kernel
theorem dX11_word_66 : decode cX11_word 66 = .ok (.iload_n 3, 1) := by decide +kernel
theorem dX11_word_67 : decode cX11_word 67 = .ok (.ireturn, 1) := by decide +kernel
theorem dX11_word_68 : decode cX11_word 68 = .ok (.aload_n 0, 1) := by decide +kernel
theorem dX11_word_69 : decode cX11_word 69 = .ok (.getfield 90, 3) := by decide +kernel
theorem dX11_word_72 : decode cX11_word 72 = .ok (.bipush 40, 2) := by decide +kernel
theorem dX11_word_74 : decode cX11_word 74 = .ok (.if_icmp .ne 6, 3) := by decide +kernel
theorem dX11_word_77 : decode cX11_word 77 = .ok (.bipush (-5), 2) := by decide +kernel
theorem dX11_word_79 : decode cX11_word 79 = .ok (.ireturn, 1) := by decide +kernel
theorem dX11_word_80 : decode cX11_word 80 = .ok (.aload_n 0, 1) := by decide +kernel
theorem dX11_word_81 : decode cX11_word 81 = .ok (.aload_n 0, 1) := by decide +kernel
theorem dX11_word_82 : decode cX11_word 82 = .ok (.getfield 90, 3) := by decide +kernel
theorem dX11_word_85 : decode cX11_word 85 = .ok (.invokevirtual 115, 3) := by decide +kernel
theorem dX11_word_88 : decode cX11_word 88 = .ok (.aload_n 0, 1) := by decide +kernel
theorem dX11_word_89 : decode cX11_word 89 = .ok (.getfield 22, 3) := by decide +kernel
theorem dX11_word_92 : decode cX11_word 92 = .ok (.aload_n 0, 1) := by decide +kernel
theorem dX11_word_93 : decode cX11_word 93 = .ok (.getfield 90, 3) := by decide +kernel
theorem dX11_word_96 : decode cX11_word 96 = .ok (.iload_n 1, 1) := by decide +kernel
theorem dX11_word_97 : decode cX11_word 97 = .ok (.iastore, 1) := by decide +kernel
theorem dX11_word_98 : decode cX11_word 98 = .ok (.aload_n 0, 1) := by decide +kernel
theorem dX11_word_99 : decode cX11_word 99 = .ok (.getfield 25, 3) := by decide +kernel
theorem dX11_word_102 : decode cX11_word 102 = .ok (.aload_n 0, 1) := by decide +kernel
theorem dX11_word_103 : decode cX11_word 103 = .ok (.getfield 90, 3) := by decide +kernel
theorem dX11_word_106 : decode cX11_word 106 = .ok (.iload_n 2, 1) := by decide +kernel
theorem dX11_word_107 : decode cX11_word 107 = .ok (.iastore, 1) := by decide +kernel
theorem dX11_word_108 : decode cX11_word 108 = .ok (.aload_n 0, 1) := by decide +kernel
theorem dX11_word_109 : decode cX11_word 109 = .ok (.getfield 28, 3) := by decide +kernel
theorem dX11_word_112 : decode cX11_word 112 = .ok (.aload_n 0, 1) := by decide +kernel
theorem dX11_word_113 : decode cX11_word 113 = .ok (.getfield 90, 3) := by decide +kernel
theorem dX11_word_116 : decode cX11_word 116 = .ok (.iconst 0, 1) := by decide +kernel
theorem dX11_word_117 : decode cX11_word 117 = .ok (.iastore, 1) := by decide +kernel
theorem dX11_word_118 : decode cX11_word 118 = .ok (.aload_n 0, 1) := by decide +kernel
theorem dX11_word_119 : decode cX11_word 119 = .ok (.getfield 31, 3) := by decide +kernel
theorem dX11_word_122 : decode cX11_word 122 = .ok (.aload_n 0, 1) := by decide +kernel
theorem dX11_word_123 : decode cX11_word 123 = .ok (.getfield 90, 3) := by decide +kernel
theorem dX11_word_126 : decode cX11_word 126 = .ok (.iconst (-1), 1) := by decide +kernel
theorem dX11_word_127 : decode cX11_word 127 = .ok (.iastore, 1) := by decide +kernel
theorem dX11_word_128 : decode cX11_word 128 = .ok (.aload_n 0, 1) := by decide +kernel
theorem dX11_word_129 : decode cX11_word 129 = .ok (.getfield 34, 3) := by decide +kernel
theorem dX11_word_132 : decode cX11_word 132 = .ok (.aload_n 0, 1) := by decide +kernel
theorem dX11_word_133 : decode cX11_word 133 = .ok (.getfield 90, 3) := by decide +kernel
theorem dX11_word_136 : decode cX11_word 136 = .ok (.iconst 0, 1) := by decide +kernel
theorem dX11_word_137 : decode cX11_word 137 = .ok (.iastore, 1) := by decide +kernel
theorem dX11_word_138 : decode cX11_word 138 = .ok (.aload_n 0, 1) := by decide +kernel
theorem dX11_word_139 : decode cX11_word 139 = .ok (.dup, 1) := by decide +kernel
theorem dX11_word_140 : decode cX11_word 140 = .ok (.getfield 90, 3) := by decide +kernel
theorem dX11_word_143 : decode cX11_word 143 = .ok (.iconst 1, 1) := by decide +kernel
theorem dX11_word_144 : decode cX11_word 144 = .ok (.iadd, 1) := by decide +kernel
theorem dX11_word_145 : decode cX11_word 145 = .ok (.putfield 90, 3) := by decide +kernel
theorem dX11_word_148 : decode cX11_word 148 = .ok (.aload_n 0, 1) := by decide +kernel
theorem dX11_word_149 : decode cX11_word 149 = .ok (.getfield 90, 3) := by decide +kernel
theorem dX11_word_152 : decode cX11_word 152 = .ok (.iconst 1, 1) := by decide +kernel
theorem dX11_word_153 : decode cX11_word 153 = .ok (.isub, 1) := by decide +kernel
theorem dX11_word_154 : decode cX11_word 154 = .ok (.ireturn, 1) := by decide +kernel
theorem dX11_isKind_0 : decode cX11_isKind 0 = .ok (.aload_n 0, 1) := by decide +kernel
theorem dX11_isKind_1 : decode cX11_isKind 1 = .ok (.getfield 25, 3) := by decide +kernel
theorem dX11_isKind_4 : decode cX11_isKind 4 = .ok (.iload_n 1, 1) := by decide +kernel
theorem dX11_isKind_5 : decode cX11_isKind 5 = .ok (.iaload, 1) := by decide +kernel
theorem dX11_isKind_6 : decode cX11_isKind 6 = .ok (.iload_n 2, 1) := by decide +kernel
theorem dX11_isKind_7 : decode cX11_isKind 7 = .ok (.ishr, 1) := by decide +kernel
theorem dX11_isKind_8 : decode cX11_isKind 8 = .ok (.iconst 1, 1) := by decide +kernel
theorem dX11_isKind_9 : decode cX11_isKind 9 = .ok (.iand, 1) := by decide +kernel
theorem dX11_isKind_10 : decode cX11_isKind 10 = .ok (.iconst 1, 1) := by decide +kernel
theorem dX11_isKind_11 : decode cX11_isKind 11 = .ok (.if_icmp .ne 7, 3) := by decide +kernel
theorem dX11_isKind_14 : decode cX11_isKind 14 = .ok (.iconst 1, 1) := by decide +kernel
theorem dX11_isKind_15 : decode cX11_isKind 15 = .ok (.goto 4, 3) := by decide +kernel
theorem dX11_isKind_18 : decode cX11_isKind 18 = .ok (.iconst 0, 1) := by decide +kernel
theorem dX11_isKind_19 : decode cX11_isKind 19 = .ok (.ireturn, 1) := by decide +kernel
set_option maxRecDepth 20000 in
theorem ggX11_value_X11_isWord : GoodIn wsX11_value wsX11_isWord := goodIn_r _ [6, 7, 8, 9, 5, 10, 16, 17, 18, 19, 20, 21, 22, 23, 24, 25, 26, 27, 28, 29, 30, 31, 32, 33, 34, 35, 36, 37, 38, 39, 40, 41, 42, 43, 44, 45, 46, 47, 48, 49, 50, 51, 52] (by decide +kernel) (by decide +kernel)
set_option maxRecDepth 20000 in
theorem gX11_value_X11_isWord : GoodIn wsX11_value (wsV RX11 119 RX11 yX11_isWord wsX11_isWord) := goodIn_app (goodIn_of _ (by decide +kernel)) ggX11_value_X11_isWord
set_option maxRecDepth 20000 in
theorem ggX11_value_X11_in : GoodIn wsX11_value wsX11_in := goodIn_r _ [10] (by decide +kernel) (by decide +kernel)
set_option maxRecDepth 20000 in
theorem gX11_value_X11_in : GoodIn wsX11_value (va_wsS RX11 86 yX11_in wsX11_in) := goodIn_app (goodIn_of _ (by decide +kernel)) ggX11_value_X11_in
set_option maxRecDepth 20000 in
theorem ggX11_value_X11_isKind : GoodIn wsX11_value wsX11_isKind := goodIn_r _ [14, 15, 16, 17, 18, 19, 20, 21, 22, 23, 24, 25, 26, 27, 28, 29, 30, 31, 32, 33, 34, 35, 36, 37, 38, 39, 40, 41, 42, 43, 44, 45, 46, 47, 48, 49, 50, 51, 52] (by decide +kernel) (by decide +kernel)
set_option maxRecDepth 20000 in
theorem gX11_value_X11_isKind : GoodIn wsX11_value (wsV RX11 122 RX11 yX11_isKind wsX11_isKind) := goodIn_app (goodIn_of _ (by decide +kernel)) ggX11_value_X11_isKind
theorem dX11_value_0 : decode cX11_value 0 = .ok (.aload_n 0, 1) := by decide +kernel
theorem dX11_value_1 : decode cX11_value 1 = .ok (.iload_n 1, 1) := by decide +kernel
theorem dX11_value_2 : decode cX11_value 2 = .ok (.invokevirtual 119, 3) := by decide +kernel
theorem dX11_value_5 : decode cX11_value 5 = .ok (.ifCond .ne 6, 3) := by decide +kernel
theorem dX11_value_8 : decode cX11_value 8 = .ok (.bipush (-2), 2) := by decide +kernel
theorem dX11_value_10 : decode cX11_value 10 = .ok (.ireturn, 1) := by decide +kernel
theorem dX11_value_11 : decode cX11_value 11 = .ok (.iload_n 2, 1) := by decide +kernel
theorem dX11_value_12 : decode cX11_value 12 = .ok (.iconst 0, 1) := by decide +kernel
theorem dX11_value_13 : decode cX11_value 13 = .ok (.sipush 1000, 3) := by decide +kernel
theorem dX11_value_16 : decode cX11_value 16 = .ok (.invokestatic 86, 3) := by decide +kernel
theorem dX11_value_19 : decode cX11_value 19 = .ok (.ifCond .ne 6, 3) := by decide +kernel
theorem dX11_value_22 : decode cX11_value 22 = .ok (.bipush (-3), 2) := by decide +kernel
theorem dX11_value_24 : decode cX11_value 24 = .ok (.ireturn, 1) := by decide +kernel
theorem dX11_value_25 : decode cX11_value 25 = .ok (.aload_n 0, 1) := by decide +kernel
theorem dX11_value_26 : decode cX11_value 26 = .ok (.iload_n 1, 1) := by decide +kernel
theorem dX11_value_27 : decode cX11_value 27 = .ok (.iconst 5, 1) := by decide +kernel
theorem dX11_value_28 : decode cX11_value 28 = .ok (.invokevirtual 122, 3) := by decide +kernel
theorem dX11_value_31 : decode cX11_value 31 = .ok (.ifCond .ne 6, 3) := by decide +kernel
theorem dX11_value_34 : decode cX11_value 34 = .ok (.bipush (-4), 2) := by decide +kernel
theorem dX11_value_36 : decode cX11_value 36 = .ok (.ireturn, 1) := by decide +kernel
theorem dX11_value_37 : decode cX11_value 37 = .ok (.aload_n 0, 1) := by decide +kernel
theorem dX11_value_38 : decode cX11_value 38 = .ok (.getfield 28, 3) := by decide +kernel
theorem dX11_value_41 : decode cX11_value 41 = .ok (.iload_n 1, 1) := by decide +kernel
theorem dX11_value_42 : decode cX11_value 42 = .ok (.iaload, 1) := by decide +kernel
theorem dX11_value_43 : decode cX11_value 43 = .ok (.istore_n 3, 1) := by decide +kernel
theorem dX11_value_44 : decode cX11_value 44 = .ok (.aload_n 0, 1) := by decide +kernel
theorem dX11_value_45 : decode cX11_value 45 = .ok (.getfield 28, 3) := by decide +kernel
theorem dX11_value_48 : decode cX11_value 48 = .ok (.iload_n 1, 1) := by decide +kernel
theorem dX11_value_49 : decode cX11_value 49 = .ok (.iload_n 2, 1) := by decide +kernel
theorem dX11_value_50 : decode cX11_value 50 = .ok (.iastore, 1) := by decide +kernel
theorem dX11_value_51 : decode cX11_value 51 = .ok (.iload_n 3, 1) := by decide +kernel
theorem dX11_value_52 : decode cX11_value 52 = .ok (.ireturn, 1) := by decide +kernel
set_option maxRecDepth 20000 in
theorem ggX11_plural_X11_isWord : GoodIn wsX11_plural wsX11_isWord := goodIn_r _ [6, 7, 8, 9, 5, 10, 11, 12, 13, 14, 15, 16, 17, 18, 19, 20, 21, 22, 23, 24, 25, 26, 27, 28, 29, 30, 31, 32, 33, 34, 35, 36, 37, 38, 39, 40, 41, 42, 43, 44, 45, 46, 47] (by decide +kernel) (by decide +kernel)
set_option maxRecDepth 20000 in
theorem gX11_plural_X11_isWord : GoodIn wsX11_plural (wsV RX11 119 RX11 yX11_isWord wsX11_isWord) := goodIn_app (goodIn_of _ (by decide +kernel)) ggX11_plural_X11_isWord
theorem dX11_plural_0 : decode cX11_plural 0 = .ok (.aload_n 0, 1) := by decide +kernel
theorem dX11_plural_1 : decode cX11_plural 1 = .ok (.iload_n 1, 1) := by decide +kernel
theorem dX11_plural_2 : decode cX11_plural 2 = .ok (.invokevirtual 119, 3) := by decide +kernel
theorem dX11_plural_5 : decode cX11_plural 5 = .ok (.ifCond .eq 16, 3) := by decide +kernel
theorem dX11_plural_8 : decode cX11_plural 8 = .ok (.iload_n 2, 1) := by decide +kernel
theorem dX11_plural_9 : decode cX11_plural 9 = .ok (.iconst (-1), 1) := by decide +kernel
theorem dX11_plural_10 : decode cX11_plural 10 = .ok (.if_icmp .eq 14, 3) := by decide +kernel
theorem dX11_plural_13 : decode cX11_plural 13 = .ok (.aload_n 0, 1) := by decide +kernel
theorem dX11_plural_14 : decode cX11_plural 14 = .ok (.iload_n 2, 1) := by decide +kernel
theorem dX11_plural_15 : decode cX11_plural 15 = .ok (.invokevirtual 119, 3) := by decide +kernel
theorem dX11_plural_18 : decode cX11_plural 18 = .ok (.ifCond .ne 6, 3) := by decide +kernel
theorem dX11_plural_21 : decode cX11_plural 21 = .ok (.bipush (-2), 2) := by decide +kernel
theorem dX11_plural_23 : decode cX11_plural 23 = .ok (.ireturn, 1) := by decide +kernel
theorem dX11_plural_24 : decode cX11_plural 24 = .ok (.iload_n 1, 1) := by decide +kernel
theorem dX11_plural_25 : decode cX11_plural 25 = .ok (.iload_n 2, 1) := by decide +kernel
theorem dX11_plural_26 : decode cX11_plural 26 = .ok (.if_icmp .ne 6, 3) := by decide +kernel
theorem dX11_plural_29 : decode cX11_plural 29 = .ok (.bipush (-4), 2) := by decide +kernel
theorem dX11_plural_31 : decode cX11_plural 31 = .ok (.ireturn, 1) := by decide +kernel
theorem dX11_plural_32 : decode cX11_plural 32 = .ok (.aload_n 0, 1) := by decide +kernel
theorem dX11_plural_33 : decode cX11_plural 33 = .ok (.getfield 31, 3) := by decide +kernel
theorem dX11_plural_36 : decode cX11_plural 36 = .ok (.iload_n 1, 1) := by decide +kernel
theorem dX11_plural_37 : decode cX11_plural 37 = .ok (.iaload, 1) := by decide +kernel
theorem dX11_plural_38 : decode cX11_plural 38 = .ok (.istore_n 3, 1) := by decide +kernel
theorem dX11_plural_39 : decode cX11_plural 39 = .ok (.aload_n 0, 1) := by decide +kernel
theorem dX11_plural_40 : decode cX11_plural 40 = .ok (.getfield 31, 3) := by decide +kernel
theorem dX11_plural_43 : decode cX11_plural 43 = .ok (.iload_n 1, 1) := by decide +kernel
theorem dX11_plural_44 : decode cX11_plural 44 = .ok (.iload_n 2, 1) := by decide +kernel
theorem dX11_plural_45 : decode cX11_plural 45 = .ok (.iastore, 1) := by decide +kernel
theorem dX11_plural_46 : decode cX11_plural 46 = .ok (.iload_n 3, 1) := by decide +kernel
theorem dX11_plural_47 : decode cX11_plural 47 = .ok (.ireturn, 1) := by decide +kernel
set_option maxRecDepth 20000 in
theorem ggX11_join_X11_isWord : GoodIn wsX11_join wsX11_isWord := goodIn_r _ [9, 10, 11, 12, 8, 13, 21, 22, 23, 24, 25, 26, 27, 28, 29, 30, 31, 32, 33, 34, 35, 36, 37, 38, 39, 40, 41, 42, 43, 44, 45, 46, 47, 48, 49, 50, 51, 52, 53, 54, 55, 56, 57] (by decide +kernel) (by decide +kernel)
set_option maxRecDepth 20000 in
theorem gX11_join_X11_isWord : GoodIn wsX11_join (wsV RX11 119 RX11 yX11_isWord wsX11_isWord) := goodIn_app (goodIn_of _ (by decide +kernel)) ggX11_join_X11_isWord
set_option maxRecDepth 20000 in
theorem ggX11_join_X11_lay : GoodIn wsX11_join wsX11_lay := goodIn_r _ [17, 1, 18, 19, 20, 21, 22, 23, 24, 25, 26, 27, 28, 29, 30, 31, 32, 33, 34, 35, 36, 37, 38, 39, 40, 41, 42, 43, 44, 45, 46, 47, 48, 49, 50, 51, 52, 53, 54, 55, 56, 57] (by decide +kernel) (by decide +kernel)
set_option maxRecDepth 20000 in
theorem gX11_join_X11_lay : GoodIn wsX11_join (wsV RX11 115 RX11 yX11_lay wsX11_lay) := goodIn_app (goodIn_of _ (by decide +kernel)) ggX11_join_X11_lay
theorem dX11_join_0 : decode cX11_join 0 = .ok (.aload_n 0, 1) := by decide +kernel
theorem dX11_join_1 : decode cX11_join 1 = .ok (.iload_n 1, 1) := by decide +kernel
theorem dX11_join_2 : decode cX11_join 2 = .ok (.invokevirtual 119, 3) := by decide +kernel
theorem dX11_join_5 : decode cX11_join 5 = .ok (.ifCond .eq 11, 3) := by decide +kernel
theorem dX11_join_8 : decode cX11_join 8 = .ok (.aload_n 0, 1) := by decide +kernel
theorem dX11_join_9 : decode cX11_join 9 = .ok (.iload_n 2, 1) := by decide +kernel
theorem dX11_join_10 : decode cX11_join 10 = .ok (.invokevirtual 119, 3) := by decide +kernel
theorem dX11_join_13 : decode cX11_join 13 = .ok (.ifCond .ne 6, 3) := by decide +kernel
theorem dX11_join_16 : decode cX11_join 16 = .ok (.bipush (-2), 2) := by decide +kernel
theorem dX11_join_18 : decode cX11_join 18 = .ok (.ireturn, 1) := by decide +kernel
theorem dX11_join_19 : decode cX11_join 19 = .ok (.aload_n 0, 1) := by decide +kernel
theorem dX11_join_20 : decode cX11_join 20 = .ok (.getfield 100, 3) := by decide +kernel
theorem dX11_join_23 : decode cX11_join 23 = .ok (.ifCond .ne 6, 3) := by decide +kernel
theorem dX11_join_26 : decode cX11_join 26 = .ok (.bipush (-4), 2) := by decide +kernel
theorem dX11_join_28 : decode cX11_join 28 = .ok (.ireturn, 1) := by decide +kernel
theorem dX11_join_29 : decode cX11_join 29 = .ok (.aload_n 0, 1) := by decide +kernel
theorem dX11_join_30 : decode cX11_join 30 = .ok (.getfield 93, 3) := by decide +kernel
theorem dX11_join_33 : decode cX11_join 33 = .ok (.bipush 8, 2) := by decide +kernel
theorem dX11_join_35 : decode cX11_join 35 = .ok (.if_icmp .ne 6, 3) := by decide +kernel
theorem dX11_join_38 : decode cX11_join 38 = .ok (.bipush (-5), 2) := by decide +kernel
theorem dX11_join_40 : decode cX11_join 40 = .ok (.ireturn, 1) := by decide +kernel
theorem dX11_join_41 : decode cX11_join 41 = .ok (.aload_n 0, 1) := by decide +kernel
theorem dX11_join_42 : decode cX11_join 42 = .ok (.bipush 40, 2) := by decide +kernel
theorem dX11_join_44 : decode cX11_join 44 = .ok (.aload_n 0, 1) := by decide +kernel
theorem dX11_join_45 : decode cX11_join 45 = .ok (.getfield 93, 3) := by decide +kernel
theorem dX11_join_48 : decode cX11_join 48 = .ok (.iadd, 1) := by decide +kernel
theorem dX11_join_49 : decode cX11_join 49 = .ok (.invokevirtual 115, 3) := by decide +kernel
theorem dX11_join_52 : decode cX11_join 52 = .ok (.aload_n 0, 1) := by decide +kernel
theorem dX11_join_53 : decode cX11_join 53 = .ok (.getfield 37, 3) := by decide +kernel
theorem dX11_join_56 : decode cX11_join 56 = .ok (.aload_n 0, 1) := by decide +kernel
theorem dX11_join_57 : decode cX11_join 57 = .ok (.getfield 93, 3) := by decide +kernel
theorem dX11_join_60 : decode cX11_join 60 = .ok (.iload_n 1, 1) := by decide +kernel
theorem dX11_join_61 : decode cX11_join 61 = .ok (.iastore, 1) := by decide +kernel
theorem dX11_join_62 : decode cX11_join 62 = .ok (.aload_n 0, 1) := by decide +kernel
theorem dX11_join_63 : decode cX11_join 63 = .ok (.getfield 40, 3) := by decide +kernel
theorem dX11_join_66 : decode cX11_join 66 = .ok (.aload_n 0, 1) := by decide +kernel
theorem dX11_join_67 : decode cX11_join 67 = .ok (.getfield 93, 3) := by decide +kernel
theorem dX11_join_70 : decode cX11_join 70 = .ok (.iload_n 2, 1) := by decide +kernel
theorem dX11_join_71 : decode cX11_join 71 = .ok (.iastore, 1) := by decide +kernel
theorem dX11_join_72 : decode cX11_join 72 = .ok (.aload_n 0, 1) := by decide +kernel
theorem dX11_join_73 : decode cX11_join 73 = .ok (.dup, 1) := by decide +kernel
theorem dX11_join_74 : decode cX11_join 74 = .ok (.getfield 93, 3) := by decide +kernel
theorem dX11_join_77 : decode cX11_join 77 = .ok (.iconst 1, 1) := by decide +kernel
theorem dX11_join_78 : decode cX11_join 78 = .ok (.iadd, 1) := by decide +kernel
theorem dX11_join_79 : decode cX11_join 79 = .ok (.putfield 93, 3) := by decide +kernel
theorem dX11_join_82 : decode cX11_join 82 = .ok (.aload_n 0, 1) := by decide +kernel
theorem dX11_join_83 : decode cX11_join 83 = .ok (.getfield 93, 3) := by decide +kernel
theorem dX11_join_86 : decode cX11_join 86 = .ok (.ireturn, 1) := by decide +kernel
set_option maxRecDepth 20000 in
theorem ggX11_type_X11_in : GoodIn wsX11_type wsX11_in := goodIn_r _ [6] (by decide +kernel) (by decide +kernel)
set_option maxRecDepth 20000 in
theorem gX11_type_X11_in : GoodIn wsX11_type (va_wsS RX11 86 yX11_in wsX11_in) := goodIn_app (goodIn_of _ (by decide +kernel)) ggX11_type_X11_in
theorem dX11_type_0 : decode cX11_type 0 = .ok (.iload_n 1, 1) := by decide +kernel
theorem dX11_type_1 : decode cX11_type 1 = .ok (.iconst 0, 1) := by decide +kernel
theorem dX11_type_2 : decode cX11_type 2 = .ok (.sipush 255, 3) := by decide +kernel
theorem dX11_type_5 : decode cX11_type 5 = .ok (.invokestatic 86, 3) := by decide +kernel
theorem dX11_type_8 : decode cX11_type 8 = .ok (.ifCond .ne 6, 3) := by decide +kernel
theorem dX11_type_11 : decode cX11_type 11 = .ok (.bipush (-3), 2) := by decide +kernel
theorem dX11_type_13 : decode cX11_type 13 = .ok (.ireturn, 1) := by decide +kernel
theorem dX11_type_14 : decode cX11_type 14 = .ok (.aload_n 0, 1) := by decide +kernel
theorem dX11_type_15 : decode cX11_type 15 = .ok (.getfield 126, 3) := by decide +kernel
theorem dX11_type_18 : decode cX11_type 18 = .ok (.bipush 80, 2) := by decide +kernel
theorem dX11_type_20 : decode cX11_type 20 = .ok (.if_icmp .ne 6, 3) := by decide +kernel
theorem dX11_type_23 : decode cX11_type 23 = .ok (.bipush (-5), 2) := by decide +kernel
theorem dX11_type_25 : decode cX11_type 25 = .ok (.ireturn, 1) := by decide +kernel
theorem dX11_type_26 : decode cX11_type 26 = .ok (.aload_n 0, 1) := by decide +kernel
theorem dX11_type_27 : decode cX11_type 27 = .ok (.getfield 43, 3) := by decide +kernel
theorem dX11_type_30 : decode cX11_type 30 = .ok (.aload_n 0, 1) := by decide +kernel
theorem dX11_type_31 : decode cX11_type 31 = .ok (.getfield 126, 3) := by decide +kernel
theorem dX11_type_34 : decode cX11_type 34 = .ok (.iload_n 1, 1) := by decide +kernel
theorem dX11_type_35 : decode cX11_type 35 = .ok (.iastore, 1) := by decide +kernel
theorem dX11_type_36 : decode cX11_type 36 = .ok (.aload_n 0, 1) := by decide +kernel
