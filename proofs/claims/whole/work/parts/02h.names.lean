theorem dX11_read_237 : decode cX11_read 237 = .ok (.iload_n 3, 1) := by decide +kernel
theorem dX11_read_238 : decode cX11_read 238 = .ok (.iaload, 1) := by decide +kernel
theorem dX11_read_239 : decode cX11_read 239 = .ok (.iastore, 1) := by decide +kernel
theorem dX11_read_240 : decode cX11_read 240 = .ok (.aload_n 0, 1) := by decide +kernel
theorem dX11_read_241 : decode cX11_read 241 = .ok (.getfield 55, 3) := by decide +kernel
theorem dX11_read_244 : decode cX11_read 244 = .ok (.iload_n 3, 1) := by decide +kernel
theorem dX11_read_245 : decode cX11_read 245 = .ok (.aload_n 0, 1) := by decide +kernel
theorem dX11_read_246 : decode cX11_read 246 = .ok (.getfield 67, 3) := by decide +kernel
theorem dX11_read_249 : decode cX11_read 249 = .ok (.iload_n 3, 1) := by decide +kernel
theorem dX11_read_250 : decode cX11_read 250 = .ok (.iaload, 1) := by decide +kernel
theorem dX11_read_251 : decode cX11_read 251 = .ok (.iastore, 1) := by decide +kernel
theorem dX11_read_252 : decode cX11_read 252 = .ok (.iinc 3 1, 3) := by decide +kernel
theorem dX11_read_255 : decode cX11_read 255 = .ok (.goto (-59), 3) := by decide +kernel
theorem dX11_read_258 : decode cX11_read 258 = .ok (.iconst 0, 1) := by decide +kernel
theorem dX11_read_259 : decode cX11_read 259 = .ok (.istore_n 3, 1) := by decide +kernel
theorem dX11_read_260 : decode cX11_read 260 = .ok (.iload_n 3, 1) := by decide +kernel
theorem dX11_read_261 : decode cX11_read 261 = .ok (.aload_n 0, 1) := by decide +kernel
theorem dX11_read_262 : decode cX11_read 262 = .ok (.getfield 126, 3) := by decide +kernel
theorem dX11_read_265 : decode cX11_read 265 = .ok (.if_icmp .ge 21, 3) := by decide +kernel
theorem dX11_read_268 : decode cX11_read 268 = .ok (.aload_n 0, 1) := by decide +kernel
theorem dX11_read_269 : decode cX11_read 269 = .ok (.getfield 70, 3) := by decide +kernel
theorem dX11_read_272 : decode cX11_read 272 = .ok (.iload_n 3, 1) := by decide +kernel
theorem dX11_read_273 : decode cX11_read 273 = .ok (.aload_n 0, 1) := by decide +kernel
theorem dX11_read_274 : decode cX11_read 274 = .ok (.getfield 43, 3) := by decide +kernel
theorem dX11_read_277 : decode cX11_read 277 = .ok (.iload_n 3, 1) := by decide +kernel
theorem dX11_read_278 : decode cX11_read 278 = .ok (.iaload, 1) := by decide +kernel
theorem dX11_read_279 : decode cX11_read 279 = .ok (.iastore, 1) := by decide +kernel
theorem dX11_read_280 : decode cX11_read 280 = .ok (.iinc 3 1, 3) := by decide +kernel
theorem dX11_read_283 : decode cX11_read 283 = .ok (.goto (-23), 3) := by decide +kernel
theorem dX11_read_286 : decode cX11_read 286 = .ok (.aload_n 0, 1) := by decide +kernel
theorem dX11_read_287 : decode cX11_read 287 = .ok (.iconst 0, 1) := by decide +kernel
theorem dX11_read_288 : decode cX11_read 288 = .ok (.putfield 126, 3) := by decide +kernel
theorem dX11_read_291 : decode cX11_read 291 = .ok (.aload_n 0, 1) := by decide +kernel
theorem dX11_read_292 : decode cX11_read 292 = .ok (.getfield 170, 3) := by decide +kernel
theorem dX11_read_295 : decode cX11_read 295 = .ok (.ireturn, 1) := by decide +kernel
set_option maxRecDepth 20000 in
theorem ggX11_isToken_X11_in : GoodIn wsX11_isToken wsX11_in := goodIn_r _ [5] (by decide +kernel) (by decide +kernel)
set_option maxRecDepth 20000 in
theorem gX11_isToken_X11_in : GoodIn wsX11_isToken (va_wsS RX11 86 yX11_in wsX11_in) := goodIn_app (goodIn_of _ (by decide +kernel)) ggX11_isToken_X11_in
theorem dX11_isToken_0 : decode cX11_isToken 0 = .ok (.iload_n 1, 1) := by decide +kernel
theorem dX11_isToken_1 : decode cX11_isToken 1 = .ok (.iconst 0, 1) := by decide +kernel
theorem dX11_isToken_2 : decode cX11_isToken 2 = .ok (.aload_n 0, 1) := by decide +kernel
theorem dX11_isToken_3 : decode cX11_isToken 3 = .ok (.getfield 170, 3) := by decide +kernel
theorem dX11_isToken_6 : decode cX11_isToken 6 = .ok (.iconst 1, 1) := by decide +kernel
theorem dX11_isToken_7 : decode cX11_isToken 7 = .ok (.isub, 1) := by decide +kernel
theorem dX11_isToken_8 : decode cX11_isToken 8 = .ok (.invokestatic 86, 3) := by decide +kernel
theorem dX11_isToken_11 : decode cX11_isToken 11 = .ok (.ireturn, 1) := by decide +kernel
set_option maxRecDepth 20000 in
theorem ggX11_token_X11_isToken : GoodIn wsX11_token wsX11_isToken := goodIn_r _ [10, 11, 12, 13, 9, 14, 15, 16, 17, 18, 19, 20, 21, 22, 23, 24, 25, 26, 27, 28, 29, 30, 31, 32, 33, 34, 35, 36, 37, 38, 39, 40, 41, 42, 43, 44, 45, 46, 47, 48, 49, 50, 51] (by decide +kernel) (by decide +kernel)
set_option maxRecDepth 20000 in
theorem gX11_token_X11_isToken : GoodIn wsX11_token (wsV RX11 173 RX11 yX11_isToken wsX11_isToken) := goodIn_app (goodIn_of _ (by decide +kernel)) ggX11_token_X11_isToken
set_option maxRecDepth 20000 in
theorem ggX11_token_X11_in : GoodIn wsX11_token wsX11_in := goodIn_r _ [14] (by decide +kernel) (by decide +kernel)
set_option maxRecDepth 20000 in
theorem gX11_token_X11_in : GoodIn wsX11_token (va_wsS RX11 86 yX11_in wsX11_in) := goodIn_app (goodIn_of _ (by decide +kernel)) ggX11_token_X11_in
theorem dX11_token_0 : decode cX11_token 0 = .ok (.aload_n 0, 1) := by decide +kernel
theorem dX11_token_1 : decode cX11_token 1 = .ok (.iload_n 1, 1) := by decide +kernel
theorem dX11_token_2 : decode cX11_token 2 = .ok (.invokevirtual 173, 3) := by decide +kernel
theorem dX11_token_5 : decode cX11_token 5 = .ok (.ifCond .eq 12, 3) := by decide +kernel
theorem dX11_token_8 : decode cX11_token 8 = .ok (.iload_n 2, 1) := by decide +kernel
theorem dX11_token_9 : decode cX11_token 9 = .ok (.iconst 0, 1) := by decide +kernel
theorem dX11_token_10 : decode cX11_token 10 = .ok (.iconst 4, 1) := by decide +kernel
theorem dX11_token_11 : decode cX11_token 11 = .ok (.invokestatic 86, 3) := by decide +kernel
theorem dX11_token_14 : decode cX11_token 14 = .ok (.ifCond .ne 6, 3) := by decide +kernel
theorem dX11_token_17 : decode cX11_token 17 = .ok (.bipush (-2), 2) := by decide +kernel
theorem dX11_token_19 : decode cX11_token 19 = .ok (.ireturn, 1) := by decide +kernel
theorem dX11_token_20 : decode cX11_token 20 = .ok (.iload_n 2, 1) := by decide +kernel
theorem dX11_token_21 : decode cX11_token 21 = .ok (.ifCond .ne 12, 3) := by decide +kernel
theorem dX11_token_24 : decode cX11_token 24 = .ok (.aload_n 0, 1) := by decide +kernel
theorem dX11_token_25 : decode cX11_token 25 = .ok (.getfield 46, 3) := by decide +kernel
theorem dX11_token_28 : decode cX11_token 28 = .ok (.iload_n 1, 1) := by decide +kernel
theorem dX11_token_29 : decode cX11_token 29 = .ok (.iaload, 1) := by decide +kernel
theorem dX11_token_30 : decode cX11_token 30 = .ok (.goto 69, 3) := by decide +kernel
theorem dX11_token_33 : decode cX11_token 33 = .ok (.iload_n 2, 1) := by decide +kernel
theorem dX11_token_34 : decode cX11_token 34 = .ok (.iconst 1, 1) := by decide +kernel
theorem dX11_token_35 : decode cX11_token 35 = .ok (.if_icmp .ne 12, 3) := by decide +kernel
theorem dX11_token_38 : decode cX11_token 38 = .ok (.aload_n 0, 1) := by decide +kernel
theorem dX11_token_39 : decode cX11_token 39 = .ok (.getfield 49, 3) := by decide +kernel
theorem dX11_token_42 : decode cX11_token 42 = .ok (.iload_n 1, 1) := by decide +kernel
theorem dX11_token_43 : decode cX11_token 43 = .ok (.iaload, 1) := by decide +kernel
theorem dX11_token_44 : decode cX11_token 44 = .ok (.goto 55, 3) := by decide +kernel
theorem dX11_token_47 : decode cX11_token 47 = .ok (.iload_n 2, 1) := by decide +kernel
theorem dX11_token_48 : decode cX11_token 48 = .ok (.iconst 2, 1) := by decide +kernel
theorem dX11_token_49 : decode cX11_token 49 = .ok (.if_icmp .ne 12, 3) := by decide +kernel
theorem dX11_token_52 : decode cX11_token 52 = .ok (.aload_n 0, 1) := by decide +kernel
theorem dX11_token_53 : decode cX11_token 53 = .ok (.getfield 52, 3) := by decide +kernel
theorem dX11_token_56 : decode cX11_token 56 = .ok (.iload_n 1, 1) := by decide +kernel
theorem dX11_token_57 : decode cX11_token 57 = .ok (.iaload, 1) := by decide +kernel
theorem dX11_token_58 : decode cX11_token 58 = .ok (.goto 41, 3) := by decide +kernel
theorem dX11_token_61 : decode cX11_token 61 = .ok (.iload_n 2, 1) := by decide +kernel
theorem dX11_token_62 : decode cX11_token 62 = .ok (.iconst 3, 1) := by decide +kernel
theorem dX11_token_63 : decode cX11_token 63 = .ok (.if_icmp .ne 12, 3) := by decide +kernel
theorem dX11_token_66 : decode cX11_token 66 = .ok (.aload_n 0, 1) := by decide +kernel
theorem dX11_token_67 : decode cX11_token 67 = .ok (.getfield 55, 3) := by decide +kernel
theorem dX11_token_70 : decode cX11_token 70 = .ok (.iload_n 1, 1) := by decide +kernel
theorem dX11_token_71 : decode cX11_token 71 = .ok (.iaload, 1) := by decide +kernel
theorem dX11_token_72 : decode cX11_token 72 = .ok (.goto 27, 3) := by decide +kernel
theorem dX11_token_75 : decode cX11_token 75 = .ok (.aload_n 0, 1) := by decide +kernel
theorem dX11_token_76 : decode cX11_token 76 = .ok (.getfield 46, 3) := by decide +kernel
theorem dX11_token_79 : decode cX11_token 79 = .ok (.iload_n 1, 1) := by decide +kernel
theorem dX11_token_80 : decode cX11_token 80 = .ok (.iaload, 1) := by decide +kernel
theorem dX11_token_81 : decode cX11_token 81 = .ok (.ifCond .ne 17, 3) := by decide +kernel
theorem dX11_token_84 : decode cX11_token 84 = .ok (.aload_n 0, 1) := by decide +kernel
theorem dX11_token_85 : decode cX11_token 85 = .ok (.getfield 25, 3) := by decide +kernel
theorem dX11_token_88 : decode cX11_token 88 = .ok (.aload_n 0, 1) := by decide +kernel
theorem dX11_token_89 : decode cX11_token 89 = .ok (.getfield 55, 3) := by decide +kernel
theorem dX11_token_92 : decode cX11_token 92 = .ok (.iload_n 1, 1) := by decide +kernel
theorem dX11_token_93 : decode cX11_token 93 = .ok (.iaload, 1) := by decide +kernel
theorem dX11_token_94 : decode cX11_token 94 = .ok (.iaload, 1) := by decide +kernel
theorem dX11_token_95 : decode cX11_token 95 = .ok (.goto 4, 3) := by decide +kernel
theorem dX11_token_98 : decode cX11_token 98 = .ok (.iconst 0, 1) := by decide +kernel
theorem dX11_token_99 : decode cX11_token 99 = .ok (.ireturn, 1) := by decide +kernel
set_option maxRecDepth 20000 in
theorem ggX11_at_X11_isToken : GoodIn wsX11_at wsX11_isToken := goodIn_r _ [8, 9, 10, 11, 7, 12, 13, 14, 15, 16, 17, 18, 19, 20, 21, 22, 23, 24, 25, 26, 27, 28, 29, 30, 31, 32, 33, 34, 35, 36, 37, 38, 39, 40, 41, 42, 43, 44, 45, 46, 47, 48, 49] (by decide +kernel) (by decide +kernel)
set_option maxRecDepth 20000 in
theorem gX11_at_X11_isToken : GoodIn wsX11_at (wsV RX11 173 RX11 yX11_isToken wsX11_isToken) := goodIn_app (goodIn_of _ (by decide +kernel)) ggX11_at_X11_isToken
set_option maxRecDepth 20000 in
theorem ggX11_at_X11_in : GoodIn wsX11_at wsX11_in := goodIn_r _ [12] (by decide +kernel) (by decide +kernel)
set_option maxRecDepth 20000 in
theorem gX11_at_X11_in : GoodIn wsX11_at (va_wsS RX11 86 yX11_in wsX11_in) := goodIn_app (goodIn_of _ (by decide +kernel)) ggX11_at_X11_in
theorem dX11_at_0 : decode cX11_at 0 = .ok (.aload_n 0, 1) := by decide +kernel
theorem dX11_at_1 : decode cX11_at 1 = .ok (.iload_n 1, 1) := by decide +kernel
theorem dX11_at_2 : decode cX11_at 2 = .ok (.invokevirtual 173, 3) := by decide +kernel
theorem dX11_at_5 : decode cX11_at 5 = .ok (.ifCond .eq 35, 3) := by decide +kernel
theorem dX11_at_8 : decode cX11_at 8 = .ok (.iload_n 2, 1) := by decide +kernel
theorem dX11_at_9 : decode cX11_at 9 = .ok (.iconst 0, 1) := by decide +kernel
theorem dX11_at_10 : decode cX11_at 10 = .ok (.aload_n 0, 1) := by decide +kernel
theorem dX11_at_11 : decode cX11_at 11 = .ok (.getfield 52, 3) := by decide +kernel
theorem dX11_at_14 : decode cX11_at 14 = .ok (.iload_n 1, 1) := by decide +kernel
theorem dX11_at_15 : decode cX11_at 15 = .ok (.iaload, 1) := by decide +kernel
theorem dX11_at_16 : decode cX11_at 16 = .ok (.iconst 1, 1) := by decide +kernel
theorem dX11_at_17 : decode cX11_at 17 = .ok (.isub, 1) := by decide +kernel
theorem dX11_at_18 : decode cX11_at 18 = .ok (.invokestatic 86, 3) := by decide +kernel
theorem dX11_at_21 : decode cX11_at 21 = .ok (.ifCond .eq 19, 3) := by decide +kernel
theorem dX11_at_24 : decode cX11_at 24 = .ok (.aload_n 0, 1) := by decide +kernel
theorem dX11_at_25 : decode cX11_at 25 = .ok (.getfield 70, 3) := by decide +kernel
theorem dX11_at_28 : decode cX11_at 28 = .ok (.aload_n 0, 1) := by decide +kernel
theorem dX11_at_29 : decode cX11_at 29 = .ok (.getfield 49, 3) := by decide +kernel
theorem dX11_at_32 : decode cX11_at 32 = .ok (.iload_n 1, 1) := by decide +kernel
theorem dX11_at_33 : decode cX11_at 33 = .ok (.iaload, 1) := by decide +kernel
theorem dX11_at_34 : decode cX11_at 34 = .ok (.iload_n 2, 1) := by decide +kernel
theorem dX11_at_35 : decode cX11_at 35 = .ok (.iadd, 1) := by decide +kernel
theorem dX11_at_36 : decode cX11_at 36 = .ok (.iaload, 1) := by decide +kernel
theorem dX11_at_37 : decode cX11_at 37 = .ok (.goto 5, 3) := by decide +kernel
theorem dX11_at_40 : decode cX11_at 40 = .ok (.bipush (-2), 2) := by decide +kernel
theorem dX11_at_42 : decode cX11_at 42 = .ok (.ireturn, 1) := by decide +kernel
set_option maxRecDepth 20000 in
theorem ggX11_isNumberWord_X11_isKind : GoodIn wsX11_isNumberWord wsX11_isKind := goodIn_r _ [7, 8, 9, 10, 11, 12, 13, 14, 15, 16, 17, 18, 19, 20, 21, 22, 23, 24, 25, 26, 27, 28, 29, 30, 31, 32, 33, 34, 35, 36, 37, 38, 39, 40, 41, 42, 43, 44, 45] (by decide +kernel) (by decide +kernel)
set_option maxRecDepth 20000 in
theorem gX11_isNumberWord_X11_isKind : GoodIn wsX11_isNumberWord (wsV RX11 122 RX11 yX11_isKind wsX11_isKind) := goodIn_app (goodIn_of _ (by decide +kernel)) ggX11_isNumberWord_X11_isKind
theorem dX11_isNumberWord_0 : decode cX11_isNumberWord 0 = .ok (.aload_n 0, 1) := by decide +kernel
theorem dX11_isNumberWord_1 : decode cX11_isNumberWord 1 = .ok (.getfield 46, 3) := by decide +kernel
theorem dX11_isNumberWord_4 : decode cX11_isNumberWord 4 = .ok (.iload_n 1, 1) := by decide +kernel
theorem dX11_isNumberWord_5 : decode cX11_isNumberWord 5 = .ok (.iaload, 1) := by decide +kernel
theorem dX11_isNumberWord_6 : decode cX11_isNumberWord 6 = .ok (.ifCond .ne 21, 3) := by decide +kernel
theorem dX11_isNumberWord_9 : decode cX11_isNumberWord 9 = .ok (.aload_n 0, 1) := by decide +kernel
theorem dX11_isNumberWord_10 : decode cX11_isNumberWord 10 = .ok (.aload_n 0, 1) := by decide +kernel
theorem dX11_isNumberWord_11 : decode cX11_isNumberWord 11 = .ok (.getfield 55, 3) := by decide +kernel
theorem dX11_isNumberWord_14 : decode cX11_isNumberWord 14 = .ok (.iload_n 1, 1) := by decide +kernel
theorem dX11_isNumberWord_15 : decode cX11_isNumberWord 15 = .ok (.iaload, 1) := by decide +kernel
theorem dX11_isNumberWord_16 : decode cX11_isNumberWord 16 = .ok (.iconst 5, 1) := by decide +kernel
theorem dX11_isNumberWord_17 : decode cX11_isNumberWord 17 = .ok (.invokevirtual 122, 3) := by decide +kernel
theorem dX11_isNumberWord_20 : decode cX11_isNumberWord 20 = .ok (.ifCond .eq 7, 3) := by decide +kernel
theorem dX11_isNumberWord_23 : decode cX11_isNumberWord 23 = .ok (.iconst 1, 1) := by decide +kernel
theorem dX11_isNumberWord_24 : decode cX11_isNumberWord 24 = .ok (.goto 4, 3) := by decide +kernel
theorem dX11_isNumberWord_27 : decode cX11_isNumberWord 27 = .ok (.iconst 0, 1) := by decide +kernel
theorem dX11_isNumberWord_28 : decode cX11_isNumberWord 28 = .ok (.ireturn, 1) := by decide +kernel
set_option maxRecDepth 20000 in
theorem ggX11_amountAt_X11_isNumberWord : GoodIn wsX11_amountAt wsX11_isNumberWord := goodIn_r _ [10, 2, 3, 11, 12, 13, 9, 14, 15, 19, 20, 21, 22, 23, 24, 25, 26, 27, 28, 29, 30, 31, 32, 33, 34, 35, 36, 37, 38, 39, 40, 41, 42, 43, 44, 45, 46, 47, 48, 49, 50, 51, 52, 53, 54, 55] (by decide +kernel) (by decide +kernel)
set_option maxRecDepth 20000 in
theorem gX11_amountAt_X11_isNumberWord : GoodIn wsX11_amountAt (wsV RX11 179 RX11 yX11_isNumberWord wsX11_isNumberWord) := goodIn_app (goodIn_of _ (by decide +kernel)) ggX11_amountAt_X11_isNumberWord
set_option maxRecDepth 20000 in
theorem ggX11_amountAt_X11_in : GoodIn wsX11_amountAt wsX11_in := goodIn_r _ [18] (by decide +kernel) (by decide +kernel)
set_option maxRecDepth 20000 in
theorem gX11_amountAt_X11_in : GoodIn wsX11_amountAt (va_wsS RX11 86 yX11_in wsX11_in) := goodIn_app (goodIn_of _ (by decide +kernel)) ggX11_amountAt_X11_in
theorem dX11_amountAt_0 : decode cX11_amountAt 0 = .ok (.aload_n 0, 1) := by decide +kernel
theorem dX11_amountAt_1 : decode cX11_amountAt 1 = .ok (.iconst 0, 1) := by decide +kernel
theorem dX11_amountAt_2 : decode cX11_amountAt 2 = .ok (.putfield 176, 3) := by decide +kernel
theorem dX11_amountAt_5 : decode cX11_amountAt 5 = .ok (.aload_n 0, 1) := by decide +kernel
theorem dX11_amountAt_6 : decode cX11_amountAt 6 = .ok (.getfield 46, 3) := by decide +kernel
theorem dX11_amountAt_9 : decode cX11_amountAt 9 = .ok (.iload_n 1, 1) := by decide +kernel
theorem dX11_amountAt_10 : decode cX11_amountAt 10 = .ok (.iaload, 1) := by decide +kernel
theorem dX11_amountAt_11 : decode cX11_amountAt 11 = .ok (.iconst 2, 1) := by decide +kernel
theorem dX11_amountAt_12 : decode cX11_amountAt 12 = .ok (.if_icmp .ne 15, 3) := by decide +kernel
theorem dX11_amountAt_15 : decode cX11_amountAt 15 = .ok (.aload_n 0, 1) := by decide +kernel
theorem dX11_amountAt_16 : decode cX11_amountAt 16 = .ok (.aload_n 0, 1) := by decide +kernel
theorem dX11_amountAt_17 : decode cX11_amountAt 17 = .ok (.getfield 55, 3) := by decide +kernel
theorem dX11_amountAt_20 : decode cX11_amountAt 20 = .ok (.iload_n 1, 1) := by decide +kernel
theorem dX11_amountAt_21 : decode cX11_amountAt 21 = .ok (.iaload, 1) := by decide +kernel
theorem dX11_amountAt_22 : decode cX11_amountAt 22 = .ok (.putfield 176, 3) := by decide +kernel
theorem dX11_amountAt_25 : decode cX11_amountAt 25 = .ok (.iconst 1, 1) := by decide +kernel
theorem dX11_amountAt_26 : decode cX11_amountAt 26 = .ok (.ireturn, 1) := by decide +kernel
theorem dX11_amountAt_27 : decode cX11_amountAt 27 = .ok (.aload_n 0, 1) := by decide +kernel
theorem dX11_amountAt_28 : decode cX11_amountAt 28 = .ok (.iload_n 1, 1) := by decide +kernel
theorem dX11_amountAt_29 : decode cX11_amountAt 29 = .ok (.invokevirtual 179, 3) := by decide +kernel
theorem dX11_amountAt_32 : decode cX11_amountAt 32 = .ok (.ifCond .ne 5, 3) := by decide +kernel
theorem dX11_amountAt_35 : decode cX11_amountAt 35 = .ok (.iconst 0, 1) := by decide +kernel
theorem dX11_amountAt_36 : decode cX11_amountAt 36 = .ok (.ireturn, 1) := by decide +kernel
theorem dX11_amountAt_37 : decode cX11_amountAt 37 = .ok (.aload_n 0, 1) := by decide +kernel
theorem dX11_amountAt_38 : decode cX11_amountAt 38 = .ok (.getfield 28, 3) := by decide +kernel
theorem dX11_amountAt_41 : decode cX11_amountAt 41 = .ok (.aload_n 0, 1) := by decide +kernel
theorem dX11_amountAt_42 : decode cX11_amountAt 42 = .ok (.getfield 55, 3) := by decide +kernel
theorem dX11_amountAt_45 : decode cX11_amountAt 45 = .ok (.iload_n 1, 1) := by decide +kernel
theorem dX11_amountAt_46 : decode cX11_amountAt 46 = .ok (.iaload, 1) := by decide +kernel
theorem dX11_amountAt_47 : decode cX11_amountAt 47 = .ok (.iaload, 1) := by decide +kernel
theorem dX11_amountAt_48 : decode cX11_amountAt 48 = .ok (.istore_n 2, 1) := by decide +kernel
theorem dX11_amountAt_49 : decode cX11_amountAt 49 = .ok (.iconst 0, 1) := by decide +kernel
theorem dX11_amountAt_50 : decode cX11_amountAt 50 = .ok (.istore_n 3, 1) := by decide +kernel
theorem dX11_amountAt_51 : decode cX11_amountAt 51 = .ok (.iload_n 1, 1) := by decide +kernel
theorem dX11_amountAt_52 : decode cX11_amountAt 52 = .ok (.iconst 1, 1) := by decide +kernel
theorem dX11_amountAt_53 : decode cX11_amountAt 53 = .ok (.iadd, 1) := by decide +kernel
theorem dX11_amountAt_54 : decode cX11_amountAt 54 = .ok (.istore 4, 2) := by decide +kernel
theorem dX11_amountAt_56 : decode cX11_amountAt 56 = .ok (.iconst 1, 1) := by decide +kernel
theorem dX11_amountAt_57 : decode cX11_amountAt 57 = .ok (.istore 5, 2) := by decide +kernel
theorem dX11_amountAt_59 : decode cX11_amountAt 59 = .ok (.iload 5, 2) := by decide +kernel
theorem dX11_amountAt_61 : decode cX11_amountAt 61 = .ok (.ifCond .eq 183, 3) := by decide +kernel
theorem dX11_amountAt_64 : decode cX11_amountAt 64 = .ok (.iload 4, 2) := by decide +kernel
theorem dX11_amountAt_66 : decode cX11_amountAt 66 = .ok (.aload_n 0, 1) := by decide +kernel
theorem dX11_amountAt_67 : decode cX11_amountAt 67 = .ok (.getfield 170, 3) := by decide +kernel
theorem dX11_amountAt_70 : decode cX11_amountAt 70 = .ok (.if_icmp .ge 174, 3) := by decide +kernel
theorem dX11_amountAt_73 : decode cX11_amountAt 73 = .ok (.aload_n 0, 1) := by decide +kernel
theorem dX11_amountAt_74 : decode cX11_amountAt 74 = .ok (.iload 4, 2) := by decide +kernel
theorem dX11_amountAt_76 : decode cX11_amountAt 76 = .ok (.invokevirtual 179, 3) := by decide +kernel
theorem dX11_amountAt_79 : decode cX11_amountAt 79 = .ok (.ifCond .eq 165, 3) := by decide +kernel
theorem dX11_amountAt_82 : decode cX11_amountAt 82 = .ok (.aload_n 0, 1) := by decide +kernel
theorem dX11_amountAt_83 : decode cX11_amountAt 83 = .ok (.getfield 28, 3) := by decide +kernel
theorem dX11_amountAt_86 : decode cX11_amountAt 86 = .ok (.aload_n 0, 1) := by decide +kernel
theorem dX11_amountAt_87 : decode cX11_amountAt 87 = .ok (.getfield 55, 3) := by decide +kernel
theorem dX11_amountAt_90 : decode cX11_amountAt 90 = .ok (.iload 4, 2) := by decide +kernel
theorem dX11_amountAt_92 : decode cX11_amountAt 92 = .ok (.iaload, 1) := by decide +kernel
theorem dX11_amountAt_93 : decode cX11_amountAt 93 = .ok (.iaload, 1) := by decide +kernel
theorem dX11_amountAt_94 : decode cX11_amountAt 94 = .ok (.istore 6, 2) := by decide +kernel
theorem dX11_amountAt_96 : decode cX11_amountAt 96 = .ok (.iload_n 2, 1) := by decide +kernel
theorem dX11_amountAt_97 : decode cX11_amountAt 97 = .ok (.bipush 100, 2) := by decide +kernel
theorem dX11_amountAt_99 : decode cX11_amountAt 99 = .ok (.irem, 1) := by decide +kernel
theorem dX11_amountAt_100 : decode cX11_amountAt 100 = .ok (.istore 7, 2) := by decide +kernel
theorem dX11_amountAt_102 : decode cX11_amountAt 102 = .ok (.iload 6, 2) := by decide +kernel
theorem dX11_amountAt_104 : decode cX11_amountAt 104 = .ok (.bipush 100, 2) := by decide +kernel
theorem dX11_amountAt_106 : decode cX11_amountAt 106 = .ok (.if_icmp .ne 21, 3) := by decide +kernel
theorem dX11_amountAt_109 : decode cX11_amountAt 109 = .ok (.iload_n 2, 1) := by decide +kernel
theorem dX11_amountAt_110 : decode cX11_amountAt 110 = .ok (.iconst 1, 1) := by decide +kernel
theorem dX11_amountAt_111 : decode cX11_amountAt 111 = .ok (.bipush 9, 2) := by decide +kernel
theorem dX11_amountAt_113 : decode cX11_amountAt 113 = .ok (.invokestatic 86, 3) := by decide +kernel
theorem dX11_amountAt_116 : decode cX11_amountAt 116 = .ok (.ifCond .eq 11, 3) := by decide +kernel
theorem dX11_amountAt_119 : decode cX11_amountAt 119 = .ok (.bipush 100, 2) := by decide +kernel
theorem dX11_amountAt_121 : decode cX11_amountAt 121 = .ok (.iload_n 2, 1) := by decide +kernel
theorem dX11_amountAt_122 : decode cX11_amountAt 122 = .ok (.imul, 1) := by decide +kernel
theorem dX11_amountAt_123 : decode cX11_amountAt 123 = .ok (.istore_n 2, 1) := by decide +kernel
theorem dX11_amountAt_124 : decode cX11_amountAt 124 = .ok (.goto 102, 3) := by decide +kernel
theorem dX11_amountAt_127 : decode cX11_amountAt 127 = .ok (.iload 6, 2) := by decide +kernel
theorem dX11_amountAt_129 : decode cX11_amountAt 129 = .ok (.sipush 1000, 3) := by decide +kernel
theorem dX11_amountAt_132 : decode cX11_amountAt 132 = .ok (.if_icmp .ne 29, 3) := by decide +kernel
theorem dX11_amountAt_135 : decode cX11_amountAt 135 = .ok (.iload_n 2, 1) := by decide +kernel
theorem dX11_amountAt_136 : decode cX11_amountAt 136 = .ok (.iconst 1, 1) := by decide +kernel
theorem dX11_amountAt_137 : decode cX11_amountAt 137 = .ok (.sipush 999, 3) := by decide +kernel
theorem dX11_amountAt_140 : decode cX11_amountAt 140 = .ok (.invokestatic 86, 3) := by decide +kernel
theorem dX11_amountAt_143 : decode cX11_amountAt 143 = .ok (.ifCond .eq 18, 3) := by decide +kernel
theorem dX11_amountAt_146 : decode cX11_amountAt 146 = .ok (.iload_n 3, 1) := by decide +kernel
theorem dX11_amountAt_147 : decode cX11_amountAt 147 = .ok (.ifCond .ne 14, 3) := by decide +kernel
theorem dX11_amountAt_150 : decode cX11_amountAt 150 = .ok (.sipush 1000, 3) := by decide +kernel
theorem dX11_amountAt_153 : decode cX11_amountAt 153 = .ok (.iload_n 2, 1) := by decide +kernel
theorem dX11_amountAt_154 : decode cX11_amountAt 154 = .ok (.imul, 1) := by decide +kernel
theorem dX11_amountAt_155 : decode cX11_amountAt 155 = .ok (.istore_n 3, 1) := by decide +kernel
theorem dX11_amountAt_156 : decode cX11_amountAt 156 = .ok (.iconst 0, 1) := by decide +kernel
theorem dX11_amountAt_157 : decode cX11_amountAt 157 = .ok (.istore_n 2, 1) := by decide +kernel
theorem dX11_amountAt_158 : decode cX11_amountAt 158 = .ok (.goto 68, 3) := by decide +kernel
theorem dX11_amountAt_161 : decode cX11_amountAt 161 = .ok (.iload 6, 2) := by decide +kernel
theorem dX11_amountAt_163 : decode cX11_amountAt 163 = .ok (.iconst 1, 1) := by decide +kernel
theorem dX11_amountAt_164 : decode cX11_amountAt 164 = .ok (.bipush 99, 2) := by decide +kernel
theorem dX11_amountAt_166 : decode cX11_amountAt 166 = .ok (.invokestatic 86, 3) := by decide +kernel
theorem dX11_amountAt_169 : decode cX11_amountAt 169 = .ok (.ifCond .eq 20, 3) := by decide +kernel
theorem dX11_amountAt_172 : decode cX11_amountAt 172 = .ok (.iload_n 2, 1) := by decide +kernel
theorem dX11_amountAt_173 : decode cX11_amountAt 173 = .ok (.ifCond .le 8, 3) := by decide +kernel
theorem dX11_amountAt_176 : decode cX11_amountAt 176 = .ok (.iload 7, 2) := by decide +kernel
theorem dX11_amountAt_178 : decode cX11_amountAt 178 = .ok (.ifCond .eq 37, 3) := by decide +kernel
theorem dX11_amountAt_181 : decode cX11_amountAt 181 = .ok (.iload_n 2, 1) := by decide +kernel
theorem dX11_amountAt_182 : decode cX11_amountAt 182 = .ok (.ifCond .ne 7, 3) := by decide +kernel
theorem dX11_amountAt_185 : decode cX11_amountAt 185 = .ok (.iload_n 3, 1) := by decide +kernel
theorem dX11_amountAt_186 : decode cX11_amountAt 186 = .ok (.ifCond .gt 29, 3) := by decide +kernel
theorem dX11_amountAt_189 : decode cX11_amountAt 189 = .ok (.iload 6, 2) := by decide +kernel
theorem dX11_amountAt_191 : decode cX11_amountAt 191 = .ok (.iconst 1, 1) := by decide +kernel
theorem dX11_amountAt_192 : decode cX11_amountAt 192 = .ok (.bipush 9, 2) := by decide +kernel
theorem dX11_amountAt_194 : decode cX11_amountAt 194 = .ok (.invokestatic 86, 3) := by decide +kernel
theorem dX11_amountAt_197 : decode cX11_amountAt 197 = .ok (.ifCond .eq 26, 3) := by decide +kernel
theorem dX11_amountAt_200 : decode cX11_amountAt 200 = .ok (.iload 7, 2) := by decide +kernel
theorem dX11_amountAt_202 : decode cX11_amountAt 202 = .ok (.bipush 20, 2) := by decide +kernel
theorem dX11_amountAt_204 : decode cX11_amountAt 204 = .ok (.if_icmp .lt 19, 3) := by decide +kernel
theorem dX11_amountAt_207 : decode cX11_amountAt 207 = .ok (.iload 7, 2) := by decide +kernel
theorem dX11_amountAt_209 : decode cX11_amountAt 209 = .ok (.bipush 10, 2) := by decide +kernel
theorem dX11_amountAt_211 : decode cX11_amountAt 211 = .ok (.irem, 1) := by decide +kernel
theorem dX11_amountAt_212 : decode cX11_amountAt 212 = .ok (.ifCond .ne 11, 3) := by decide +kernel
theorem dX11_amountAt_215 : decode cX11_amountAt 215 = .ok (.iload_n 2, 1) := by decide +kernel
theorem dX11_amountAt_216 : decode cX11_amountAt 216 = .ok (.iload 6, 2) := by decide +kernel
theorem dX11_amountAt_218 : decode cX11_amountAt 218 = .ok (.iadd, 1) := by decide +kernel
theorem dX11_amountAt_219 : decode cX11_amountAt 219 = .ok (.istore_n 2, 1) := by decide +kernel
theorem dX11_amountAt_220 : decode cX11_amountAt 220 = .ok (.goto 6, 3) := by decide +kernel
theorem dX11_amountAt_223 : decode cX11_amountAt 223 = .ok (.iconst 0, 1) := by decide +kernel
theorem dX11_amountAt_224 : decode cX11_amountAt 224 = .ok (.istore 5, 2) := by decide +kernel
theorem dX11_amountAt_226 : decode cX11_amountAt 226 = .ok (.iload 4, 2) := by decide +kernel
theorem dX11_amountAt_228 : decode cX11_amountAt 228 = .ok (.iload 5, 2) := by decide +kernel
theorem dX11_amountAt_230 : decode cX11_amountAt 230 = .ok (.ifCond .eq 7, 3) := by decide +kernel
theorem dX11_amountAt_233 : decode cX11_amountAt 233 = .ok (.iconst 1, 1) := by decide +kernel
theorem dX11_amountAt_234 : decode cX11_amountAt 234 = .ok (.goto 4, 3) := by decide +kernel
theorem dX11_amountAt_237 : decode cX11_amountAt 237 = .ok (.iconst 0, 1) := by decide +kernel
theorem dX11_amountAt_238 : decode cX11_amountAt 238 = .ok (.iadd, 1) := by decide +kernel
theorem dX11_amountAt_239 : decode cX11_amountAt 239 = .ok (.istore 4, 2) := by decide +kernel
theorem dX11_amountAt_241 : decode cX11_amountAt 241 = .ok (.goto (-182), 3) := by decide +kernel
theorem dX11_amountAt_244 : decode cX11_amountAt 244 = .ok (.aload_n 0, 1) := by decide +kernel
theorem dX11_amountAt_245 : decode cX11_amountAt 245 = .ok (.iload_n 3, 1) := by decide +kernel
theorem dX11_amountAt_246 : decode cX11_amountAt 246 = .ok (.iload_n 2, 1) := by decide +kernel
theorem dX11_amountAt_247 : decode cX11_amountAt 247 = .ok (.iadd, 1) := by decide +kernel
theorem dX11_amountAt_248 : decode cX11_amountAt 248 = .ok (.putfield 176, 3) := by decide +kernel
theorem dX11_amountAt_251 : decode cX11_amountAt 251 = .ok (.iload 4, 2) := by decide +kernel
theorem dX11_amountAt_253 : decode cX11_amountAt 253 = .ok (.iload_n 1, 1) := by decide +kernel
theorem dX11_amountAt_254 : decode cX11_amountAt 254 = .ok (.isub, 1) := by decide +kernel
theorem dX11_amountAt_255 : decode cX11_amountAt 255 = .ok (.ireturn, 1) := by decide +kernel
set_option maxRecDepth 20000 in
theorem ggX11_amount_X11_isToken : GoodIn wsX11_amount wsX11_isToken := goodIn_r _ [6, 7, 8, 9, 5, 10, 27, 28, 29, 30, 31, 32, 33, 34, 35, 36, 37, 38, 39, 40, 41, 42, 43, 44, 45, 46, 47, 48, 49, 50, 51, 52, 53, 54, 55, 56, 57, 58, 59, 60, 61, 62, 63] (by decide +kernel) (by decide +kernel)
set_option maxRecDepth 20000 in
theorem gX11_amount_X11_isToken : GoodIn wsX11_amount (wsV RX11 173 RX11 yX11_isToken wsX11_isToken) := goodIn_app (goodIn_of _ (by decide +kernel)) ggX11_amount_X11_isToken
set_option maxRecDepth 20000 in
theorem ggX11_amount_X11_amountAt : GoodIn wsX11_amount wsX11_amountAt := goodIn_r _ [14, 1, 15, 16, 17, 7, 18, 19, 20, 5, 21, 22, 23, 24, 25, 26, 8, 9, 10, 27, 28, 29, 30, 31, 32, 33, 34, 35, 36, 37, 38, 39, 40, 41, 42, 43, 44, 45, 46, 47, 48, 49, 50, 51, 52, 53, 54, 55, 56, 57, 58, 59, 60, 61, 62, 63] (by decide +kernel) (by decide +kernel)
set_option maxRecDepth 20000 in
theorem gX11_amount_X11_amountAt : GoodIn wsX11_amount (wsV RX11 182 RX11 yX11_amountAt wsX11_amountAt) := goodIn_app (goodIn_of _ (by decide +kernel)) ggX11_amount_X11_amountAt
theorem dX11_amount_0 : decode cX11_amount 0 = .ok (.aload_n 0, 1) := by decide +kernel
theorem dX11_amount_1 : decode cX11_amount 1 = .ok (.iload_n 1, 1) := by decide +kernel
theorem dX11_amount_2 : decode cX11_amount 2 = .ok (.invokevirtual 173, 3) := by decide +kernel
theorem dX11_amount_5 : decode cX11_amount 5 = .ok (.ifCond .ne 6, 3) := by decide +kernel
theorem dX11_amount_8 : decode cX11_amount 8 = .ok (.bipush (-2), 2) := by decide +kernel
theorem dX11_amount_10 : decode cX11_amount 10 = .ok (.ireturn, 1) := by decide +kernel
theorem dX11_amount_11 : decode cX11_amount 11 = .ok (.aload_n 0, 1) := by decide +kernel
theorem dX11_amount_12 : decode cX11_amount 12 = .ok (.iload_n 1, 1) := by decide +kernel
theorem dX11_amount_13 : decode cX11_amount 13 = .ok (.invokevirtual 182, 3) := by decide +kernel
theorem dX11_amount_16 : decode cX11_amount 16 = .ok (.ifCond .ne 8, 3) := by decide +kernel
theorem dX11_amount_19 : decode cX11_amount 19 = .ok (.bipush (-4), 2) := by decide +kernel
theorem dX11_amount_21 : decode cX11_amount 21 = .ok (.goto 7, 3) := by decide +kernel
theorem dX11_amount_24 : decode cX11_amount 24 = .ok (.aload_n 0, 1) := by decide +kernel
theorem dX11_amount_25 : decode cX11_amount 25 = .ok (.getfield 176, 3) := by decide +kernel
theorem dX11_amount_28 : decode cX11_amount 28 = .ok (.ireturn, 1) := by decide +kernel
set_option maxRecDepth 20000 in
theorem ggX11_amountLength_X11_isToken : GoodIn wsX11_amountLength wsX11_isToken := goodIn_r _ [5, 6, 7, 8, 4, 9, 27, 28, 29, 30, 31, 32, 33, 34, 35, 36, 37, 38, 39, 40, 41, 42, 43, 44, 45, 46, 47, 48, 49, 50, 51, 52, 53, 54, 55, 56, 57, 58, 59, 60, 61, 62, 63] (by decide +kernel) (by decide +kernel)
set_option maxRecDepth 20000 in
theorem gX11_amountLength_X11_isToken : GoodIn wsX11_amountLength (wsV RX11 173 RX11 yX11_isToken wsX11_isToken) := goodIn_app (goodIn_of _ (by decide +kernel)) ggX11_amountLength_X11_isToken
set_option maxRecDepth 20000 in
theorem ggX11_amountLength_X11_amountAt : GoodIn wsX11_amountLength wsX11_amountAt := goodIn_r _ [13, 14, 15, 16, 17, 6, 18, 19, 20, 4, 21, 22, 23, 24, 25, 26, 7, 8, 9, 27, 28, 29, 30, 31, 32, 33, 34, 35, 36, 37, 38, 39, 40, 41, 42, 43, 44, 45, 46, 47, 48, 49, 50, 51, 52, 53, 54, 55, 56, 57, 58, 59, 60, 61, 62, 63] (by decide +kernel) (by decide +kernel)
set_option maxRecDepth 20000 in
theorem gX11_amountLength_X11_amountAt : GoodIn wsX11_amountLength (wsV RX11 182 RX11 yX11_amountAt wsX11_amountAt) := goodIn_app (goodIn_of _ (by decide +kernel)) ggX11_amountLength_X11_amountAt
theorem dX11_amountLength_0 : decode cX11_amountLength 0 = .ok (.aload_n 0, 1) := by decide +kernel
theorem dX11_amountLength_1 : decode cX11_amountLength 1 = .ok (.iload_n 1, 1) := by decide +kernel
theorem dX11_amountLength_2 : decode cX11_amountLength 2 = .ok (.invokevirtual 173, 3) := by decide +kernel
theorem dX11_amountLength_5 : decode cX11_amountLength 5 = .ok (.ifCond .eq 11, 3) := by decide +kernel
theorem dX11_amountLength_8 : decode cX11_amountLength 8 = .ok (.aload_n 0, 1) := by decide +kernel
theorem dX11_amountLength_9 : decode cX11_amountLength 9 = .ok (.iload_n 1, 1) := by decide +kernel
theorem dX11_amountLength_10 : decode cX11_amountLength 10 = .ok (.invokevirtual 182, 3) := by decide +kernel
theorem dX11_amountLength_13 : decode cX11_amountLength 13 = .ok (.goto 5, 3) := by decide +kernel
theorem dX11_amountLength_16 : decode cX11_amountLength 16 = .ok (.bipush (-2), 2) := by decide +kernel
theorem dX11_amountLength_18 : decode cX11_amountLength 18 = .ok (.ireturn, 1) := by decide +kernel
theorem dX11_thing_0 : decode cX11_thing 0 = .ok (.aload_n 0, 1) := by decide +kernel
theorem dX11_thing_1 : decode cX11_thing 1 = .ok (.getfield 185, 3) := by decide +kernel
theorem dX11_thing_4 : decode cX11_thing 4 = .ok (.bipush 12, 2) := by decide +kernel
theorem dX11_thing_6 : decode cX11_thing 6 = .ok (.if_icmp .ne 6, 3) := by decide +kernel
theorem dX11_thing_9 : decode cX11_thing 9 = .ok (.bipush (-5), 2) := by decide +kernel
theorem dX11_thing_11 : decode cX11_thing 11 = .ok (.ireturn, 1) := by decide +kernel
theorem dX11_thing_12 : decode cX11_thing 12 = .ok (.aload_n 0, 1) := by decide +kernel
theorem dX11_thing_13 : decode cX11_thing 13 = .ok (.dup, 1) := by decide +kernel
theorem dX11_thing_14 : decode cX11_thing 14 = .ok (.getfield 185, 3) := by decide +kernel
theorem dX11_thing_17 : decode cX11_thing 17 = .ok (.iconst 1, 1) := by decide +kernel
theorem dX11_thing_18 : decode cX11_thing 18 = .ok (.iadd, 1) := by decide +kernel
theorem dX11_thing_19 : decode cX11_thing 19 = .ok (.putfield 185, 3) := by decide +kernel
theorem dX11_thing_22 : decode cX11_thing 22 = .ok (.aload_n 0, 1) := by decide +kernel
theorem dX11_thing_23 : decode cX11_thing 23 = .ok (.getfield 185, 3) := by decide +kernel
theorem dX11_thing_26 : decode cX11_thing 26 = .ok (.iconst 1, 1) := by decide +kernel
theorem dX11_thing_27 : decode cX11_thing 27 = .ok (.isub, 1) := by decide +kernel
theorem dX11_thing_28 : decode cX11_thing 28 = .ok (.ireturn, 1) := by decide +kernel
set_option maxRecDepth 20000 in
theorem ggX11_means_X11_in : GoodIn wsX11_means wsX11_in := goodIn_r _ [9] (by decide +kernel) (by decide +kernel)
set_option maxRecDepth 20000 in
theorem gX11_means_X11_in : GoodIn wsX11_means (va_wsS RX11 86 yX11_in wsX11_in) := goodIn_app (goodIn_of _ (by decide +kernel)) ggX11_means_X11_in
set_option maxRecDepth 20000 in
theorem ggX11_means_X11_isWord : GoodIn wsX11_means wsX11_isWord := goodIn_r _ [13, 14, 6, 7, 8, 9, 15, 16, 17, 18, 19, 20, 21, 22, 23, 24, 25, 26, 27, 28, 29, 30, 31, 32, 33, 34, 35, 36, 37, 38, 39, 40, 41, 42, 43, 44, 45, 46, 47, 48, 49, 50, 51] (by decide +kernel) (by decide +kernel)
set_option maxRecDepth 20000 in
theorem gX11_means_X11_isWord : GoodIn wsX11_means (wsV RX11 119 RX11 yX11_isWord wsX11_isWord) := goodIn_app (goodIn_of _ (by decide +kernel)) ggX11_means_X11_isWord
theorem dX11_means_0 : decode cX11_means 0 = .ok (.iload_n 1, 1) := by decide +kernel
theorem dX11_means_1 : decode cX11_means 1 = .ok (.iconst 0, 1) := by decide +kernel
theorem dX11_means_2 : decode cX11_means 2 = .ok (.aload_n 0, 1) := by decide +kernel
theorem dX11_means_3 : decode cX11_means 3 = .ok (.getfield 185, 3) := by decide +kernel
theorem dX11_means_6 : decode cX11_means 6 = .ok (.iconst 1, 1) := by decide +kernel
theorem dX11_means_7 : decode cX11_means 7 = .ok (.isub, 1) := by decide +kernel
theorem dX11_means_8 : decode cX11_means 8 = .ok (.invokestatic 86, 3) := by decide +kernel
theorem dX11_means_11 : decode cX11_means 11 = .ok (.ifCond .eq 11, 3) := by decide +kernel
theorem dX11_means_14 : decode cX11_means 14 = .ok (.aload_n 0, 1) := by decide +kernel
theorem dX11_means_15 : decode cX11_means 15 = .ok (.iload_n 2, 1) := by decide +kernel
theorem dX11_means_16 : decode cX11_means 16 = .ok (.invokevirtual 119, 3) := by decide +kernel
theorem dX11_means_19 : decode cX11_means 19 = .ok (.ifCond .ne 6, 3) := by decide +kernel
theorem dX11_means_22 : decode cX11_means 22 = .ok (.bipush (-2), 2) := by decide +kernel
theorem dX11_means_24 : decode cX11_means 24 = .ok (.ireturn, 1) := by decide +kernel
theorem dX11_means_25 : decode cX11_means 25 = .ok (.iload_n 3, 1) := by decide +kernel
theorem dX11_means_26 : decode cX11_means 26 = .ok (.iconst (-1), 1) := by decide +kernel
theorem dX11_means_27 : decode cX11_means 27 = .ok (.bipush 7, 2) := by decide +kernel
theorem dX11_means_29 : decode cX11_means 29 = .ok (.invokestatic 86, 3) := by decide +kernel
theorem dX11_means_32 : decode cX11_means 32 = .ok (.ifCond .ne 6, 3) := by decide +kernel
theorem dX11_means_35 : decode cX11_means 35 = .ok (.bipush (-3), 2) := by decide +kernel
theorem dX11_means_37 : decode cX11_means 37 = .ok (.ireturn, 1) := by decide +kernel
theorem dX11_means_38 : decode cX11_means 38 = .ok (.aload_n 0, 1) := by decide +kernel
theorem dX11_means_39 : decode cX11_means 39 = .ok (.getfield 188, 3) := by decide +kernel
theorem dX11_means_42 : decode cX11_means 42 = .ok (.bipush 60, 2) := by decide +kernel
theorem dX11_means_44 : decode cX11_means 44 = .ok (.if_icmp .ne 6, 3) := by decide +kernel
theorem dX11_means_47 : decode cX11_means 47 = .ok (.bipush (-5), 2) := by decide +kernel
theorem dX11_means_49 : decode cX11_means 49 = .ok (.ireturn, 1) := by decide +kernel
theorem dX11_means_50 : decode cX11_means 50 = .ok (.aload_n 0, 1) := by decide +kernel
theorem dX11_means_51 : decode cX11_means 51 = .ok (.getfield 73, 3) := by decide +kernel
theorem dX11_means_54 : decode cX11_means 54 = .ok (.aload_n 0, 1) := by decide +kernel
theorem dX11_means_55 : decode cX11_means 55 = .ok (.getfield 188, 3) := by decide +kernel
theorem dX11_means_58 : decode cX11_means 58 = .ok (.iload_n 1, 1) := by decide +kernel
theorem dX11_means_59 : decode cX11_means 59 = .ok (.iastore, 1) := by decide +kernel
theorem dX11_means_60 : decode cX11_means 60 = .ok (.aload_n 0, 1) := by decide +kernel
theorem dX11_means_61 : decode cX11_means 61 = .ok (.getfield 76, 3) := by decide +kernel
theorem dX11_means_64 : decode cX11_means 64 = .ok (.aload_n 0, 1) := by decide +kernel
theorem dX11_means_65 : decode cX11_means 65 = .ok (.getfield 188, 3) := by decide +kernel
theorem dX11_means_68 : decode cX11_means 68 = .ok (.iload_n 2, 1) := by decide +kernel
theorem dX11_means_69 : decode cX11_means 69 = .ok (.iastore, 1) := by decide +kernel
theorem dX11_means_70 : decode cX11_means 70 = .ok (.aload_n 0, 1) := by decide +kernel
theorem dX11_means_71 : decode cX11_means 71 = .ok (.getfield 79, 3) := by decide +kernel
theorem dX11_means_74 : decode cX11_means 74 = .ok (.aload_n 0, 1) := by decide +kernel
theorem dX11_means_75 : decode cX11_means 75 = .ok (.getfield 188, 3) := by decide +kernel
theorem dX11_means_78 : decode cX11_means 78 = .ok (.iload_n 3, 1) := by decide +kernel
theorem dX11_means_79 : decode cX11_means 79 = .ok (.iastore, 1) := by decide +kernel
theorem dX11_means_80 : decode cX11_means 80 = .ok (.aload_n 0, 1) := by decide +kernel
theorem dX11_means_81 : decode cX11_means 81 = .ok (.dup, 1) := by decide +kernel
theorem dX11_means_82 : decode cX11_means 82 = .ok (.getfield 188, 3) := by decide +kernel
theorem dX11_means_85 : decode cX11_means 85 = .ok (.iconst 1, 1) := by decide +kernel
theorem dX11_means_86 : decode cX11_means 86 = .ok (.iadd, 1) := by decide +kernel
theorem dX11_means_87 : decode cX11_means 87 = .ok (.putfield 188, 3) := by decide +kernel
theorem dX11_means_90 : decode cX11_means 90 = .ok (.aload_n 0, 1) := by decide +kernel
theorem dX11_means_91 : decode cX11_means 91 = .ok (.getfield 188, 3) := by decide +kernel
theorem dX11_means_94 : decode cX11_means 94 = .ok (.ireturn, 1) := by decide +kernel
set_option maxRecDepth 20000 in
theorem ggX11_flag_X11_in : GoodIn wsX11_flag wsX11_in := goodIn_r _ [5] (by decide +kernel) (by decide +kernel)
set_option maxRecDepth 20000 in
theorem gX11_flag_X11_in : GoodIn wsX11_flag (va_wsS RX11 86 yX11_in wsX11_in) := goodIn_app (goodIn_of _ (by decide +kernel)) ggX11_flag_X11_in
theorem dX11_flag_0 : decode cX11_flag 0 = .ok (.iload_n 1, 1) := by decide +kernel
theorem dX11_flag_1 : decode cX11_flag 1 = .ok (.iconst 0, 1) := by decide +kernel
theorem dX11_flag_2 : decode cX11_flag 2 = .ok (.bipush 7, 2) := by decide +kernel
theorem dX11_flag_4 : decode cX11_flag 4 = .ok (.invokestatic 86, 3) := by decide +kernel
theorem dX11_flag_7 : decode cX11_flag 7 = .ok (.ifCond .ne 6, 3) := by decide +kernel
theorem dX11_flag_10 : decode cX11_flag 10 = .ok (.bipush (-3), 2) := by decide +kernel
theorem dX11_flag_12 : decode cX11_flag 12 = .ok (.ireturn, 1) := by decide +kernel
theorem dX11_flag_13 : decode cX11_flag 13 = .ok (.aload_n 0, 1) := by decide +kernel
theorem dX11_flag_14 : decode cX11_flag 14 = .ok (.getfield 191, 3) := by decide +kernel
theorem dX11_flag_17 : decode cX11_flag 17 = .ok (.iload_n 1, 1) := by decide +kernel
theorem dX11_flag_18 : decode cX11_flag 18 = .ok (.ishr, 1) := by decide +kernel
theorem dX11_flag_19 : decode cX11_flag 19 = .ok (.iconst 1, 1) := by decide +kernel
theorem dX11_flag_20 : decode cX11_flag 20 = .ok (.iand, 1) := by decide +kernel
theorem dX11_flag_21 : decode cX11_flag 21 = .ok (.istore_n 3, 1) := by decide +kernel
theorem dX11_flag_22 : decode cX11_flag 22 = .ok (.aload_n 0, 1) := by decide +kernel
theorem dX11_flag_23 : decode cX11_flag 23 = .ok (.aload_n 0, 1) := by decide +kernel
theorem dX11_flag_24 : decode cX11_flag 24 = .ok (.getfield 191, 3) := by decide +kernel
theorem dX11_flag_27 : decode cX11_flag 27 = .ok (.iconst 1, 1) := by decide +kernel
theorem dX11_flag_28 : decode cX11_flag 28 = .ok (.iload_n 1, 1) := by decide +kernel
theorem dX11_flag_29 : decode cX11_flag 29 = .ok (.ishl, 1) := by decide +kernel
theorem dX11_flag_30 : decode cX11_flag 30 = .ok (.iconst (-1), 1) := by decide +kernel
theorem dX11_flag_31 : decode cX11_flag 31 = .ok (.ixor, 1) := by decide +kernel
theorem dX11_flag_32 : decode cX11_flag 32 = .ok (.iand, 1) := by decide +kernel
theorem dX11_flag_33 : decode cX11_flag 33 = .ok (.iload_n 2, 1) := by decide +kernel
theorem dX11_flag_34 : decode cX11_flag 34 = .ok (.ifCond .eq 9, 3) := by decide +kernel
theorem dX11_flag_37 : decode cX11_flag 37 = .ok (.iconst 1, 1) := by decide +kernel
theorem dX11_flag_38 : decode cX11_flag 38 = .ok (.iload_n 1, 1) := by decide +kernel
theorem dX11_flag_39 : decode cX11_flag 39 = .ok (.ishl, 1) := by decide +kernel
theorem dX11_flag_40 : decode cX11_flag 40 = .ok (.goto 4, 3) := by decide +kernel
theorem dX11_flag_43 : decode cX11_flag 43 = .ok (.iconst 0, 1) := by decide +kernel
theorem dX11_flag_44 : decode cX11_flag 44 = .ok (.ior, 1) := by decide +kernel
theorem dX11_flag_45 : decode cX11_flag 45 = .ok (.putfield 191, 3) := by decide +kernel
theorem dX11_flag_48 : decode cX11_flag 48 = .ok (.iload_n 3, 1) := by decide +kernel
theorem dX11_flag_49 : decode cX11_flag 49 = .ok (.ireturn, 1) := by decide +kernel
set_option maxRecDepth 20000 in
theorem ggX11_refer_X11_isWord : GoodIn wsX11_refer wsX11_isWord := goodIn_r _ [7, 8, 9, 10, 6, 11, 17, 18, 19, 20, 21, 22, 23, 24, 25, 26, 27, 28, 29, 30, 31, 32, 33, 34, 35, 36, 37, 38, 39, 40, 41, 42, 43, 44, 45, 46, 47, 48, 49, 50, 51, 52, 53] (by decide +kernel) (by decide +kernel)
set_option maxRecDepth 20000 in
theorem gX11_refer_X11_isWord : GoodIn wsX11_refer (wsV RX11 119 RX11 yX11_isWord wsX11_isWord) := goodIn_app (goodIn_of _ (by decide +kernel)) ggX11_refer_X11_isWord
set_option maxRecDepth 20000 in
theorem ggX11_refer_X11_isKind : GoodIn wsX11_refer wsX11_isKind := goodIn_r _ [15, 16, 17, 18, 19, 20, 21, 22, 23, 24, 25, 26, 27, 28, 29, 30, 31, 32, 33, 34, 35, 36, 37, 38, 39, 40, 41, 42, 43, 44, 45, 46, 47, 48, 49, 50, 51, 52, 53] (by decide +kernel) (by decide +kernel)
set_option maxRecDepth 20000 in
theorem gX11_refer_X11_isKind : GoodIn wsX11_refer (wsV RX11 122 RX11 yX11_isKind wsX11_isKind) := goodIn_app (goodIn_of _ (by decide +kernel)) ggX11_refer_X11_isKind
theorem dX11_refer_0 : decode cX11_refer 0 = .ok (.aload_n 0, 1) := by decide +kernel
theorem dX11_refer_1 : decode cX11_refer 1 = .ok (.iload_n 1, 1) := by decide +kernel
theorem dX11_refer_2 : decode cX11_refer 2 = .ok (.invokevirtual 119, 3) := by decide +kernel
theorem dX11_refer_5 : decode cX11_refer 5 = .ok (.ifCond .ne 6, 3) := by decide +kernel
theorem dX11_refer_8 : decode cX11_refer 8 = .ok (.bipush (-2), 2) := by decide +kernel
theorem dX11_refer_10 : decode cX11_refer 10 = .ok (.ireturn, 1) := by decide +kernel
theorem dX11_refer_11 : decode cX11_refer 11 = .ok (.iload_n 2, 1) := by decide +kernel
theorem dX11_refer_12 : decode cX11_refer 12 = .ok (.ifCond .lt 13, 3) := by decide +kernel
theorem dX11_refer_15 : decode cX11_refer 15 = .ok (.iload_n 2, 1) := by decide +kernel
theorem dX11_refer_16 : decode cX11_refer 16 = .ok (.iconst 1, 1) := by decide +kernel
theorem dX11_refer_17 : decode cX11_refer 17 = .ok (.aload_n 0, 1) := by decide +kernel
theorem dX11_refer_18 : decode cX11_refer 18 = .ok (.getfield 185, 3) := by decide +kernel
theorem dX11_refer_21 : decode cX11_refer 21 = .ok (.ishl, 1) := by decide +kernel
theorem dX11_refer_22 : decode cX11_refer 22 = .ok (.if_icmp .lt 6, 3) := by decide +kernel
theorem dX11_refer_25 : decode cX11_refer 25 = .ok (.bipush (-3), 2) := by decide +kernel
theorem dX11_refer_27 : decode cX11_refer 27 = .ok (.ireturn, 1) := by decide +kernel
theorem dX11_refer_28 : decode cX11_refer 28 = .ok (.aload_n 0, 1) := by decide +kernel
theorem dX11_refer_29 : decode cX11_refer 29 = .ok (.iload_n 1, 1) := by decide +kernel
theorem dX11_refer_30 : decode cX11_refer 30 = .ok (.iconst 4, 1) := by decide +kernel
theorem dX11_refer_31 : decode cX11_refer 31 = .ok (.invokevirtual 122, 3) := by decide +kernel
theorem dX11_refer_34 : decode cX11_refer 34 = .ok (.ifCond .ne 6, 3) := by decide +kernel
theorem dX11_refer_37 : decode cX11_refer 37 = .ok (.bipush (-4), 2) := by decide +kernel
theorem dX11_refer_39 : decode cX11_refer 39 = .ok (.ireturn, 1) := by decide +kernel
theorem dX11_refer_40 : decode cX11_refer 40 = .ok (.aload_n 0, 1) := by decide +kernel
theorem dX11_refer_41 : decode cX11_refer 41 = .ok (.getfield 34, 3) := by decide +kernel
theorem dX11_refer_44 : decode cX11_refer 44 = .ok (.iload_n 1, 1) := by decide +kernel
theorem dX11_refer_45 : decode cX11_refer 45 = .ok (.iaload, 1) := by decide +kernel
theorem dX11_refer_46 : decode cX11_refer 46 = .ok (.istore_n 3, 1) := by decide +kernel
theorem dX11_refer_47 : decode cX11_refer 47 = .ok (.aload_n 0, 1) := by decide +kernel
theorem dX11_refer_48 : decode cX11_refer 48 = .ok (.getfield 34, 3) := by decide +kernel
theorem dX11_refer_51 : decode cX11_refer 51 = .ok (.iload_n 1, 1) := by decide +kernel
theorem dX11_refer_52 : decode cX11_refer 52 = .ok (.iload_n 2, 1) := by decide +kernel
theorem dX11_refer_53 : decode cX11_refer 53 = .ok (.iastore, 1) := by decide +kernel
theorem dX11_refer_54 : decode cX11_refer 54 = .ok (.iload_n 3, 1) := by decide +kernel
theorem dX11_refer_55 : decode cX11_refer 55 = .ok (.ireturn, 1) := by decide +kernel
set_option maxRecDepth 20000 in
theorem ggX11_meantBy_X11_isKind : GoodIn wsX11_meantBy wsX11_isKind := goodIn_r _ [14, 15, 16, 17, 18, 19, 20, 21, 22, 23, 24, 25, 26, 27, 28, 29, 30, 31, 32, 33, 34, 35, 36, 37, 38, 39, 40, 41, 42, 43, 44, 45, 46, 47, 48, 49, 50, 51, 52] (by decide +kernel) (by decide +kernel)
set_option maxRecDepth 20000 in
theorem gX11_meantBy_X11_isKind : GoodIn wsX11_meantBy (wsV RX11 122 RX11 yX11_isKind wsX11_isKind) := goodIn_app (goodIn_of _ (by decide +kernel)) ggX11_meantBy_X11_isKind
theorem dX11_meantBy_0 : decode cX11_meantBy 0 = .ok (.aload_n 0, 1) := by decide +kernel
theorem dX11_meantBy_1 : decode cX11_meantBy 1 = .ok (.getfield 46, 3) := by decide +kernel
theorem dX11_meantBy_4 : decode cX11_meantBy 4 = .ok (.iload_n 1, 1) := by decide +kernel
theorem dX11_meantBy_5 : decode cX11_meantBy 5 = .ok (.iaload, 1) := by decide +kernel
theorem dX11_meantBy_6 : decode cX11_meantBy 6 = .ok (.ifCond .eq 5, 3) := by decide +kernel
theorem dX11_meantBy_9 : decode cX11_meantBy 9 = .ok (.iconst 0, 1) := by decide +kernel
theorem dX11_meantBy_10 : decode cX11_meantBy 10 = .ok (.ireturn, 1) := by decide +kernel
theorem dX11_meantBy_11 : decode cX11_meantBy 11 = .ok (.aload_n 0, 1) := by decide +kernel
theorem dX11_meantBy_12 : decode cX11_meantBy 12 = .ok (.getfield 55, 3) := by decide +kernel
theorem dX11_meantBy_15 : decode cX11_meantBy 15 = .ok (.iload_n 1, 1) := by decide +kernel
theorem dX11_meantBy_16 : decode cX11_meantBy 16 = .ok (.iaload, 1) := by decide +kernel
theorem dX11_meantBy_17 : decode cX11_meantBy 17 = .ok (.istore_n 2, 1) := by decide +kernel
theorem dX11_meantBy_18 : decode cX11_meantBy 18 = .ok (.aload_n 0, 1) := by decide +kernel
theorem dX11_meantBy_19 : decode cX11_meantBy 19 = .ok (.iload_n 2, 1) := by decide +kernel
theorem dX11_meantBy_20 : decode cX11_meantBy 20 = .ok (.iconst 4, 1) := by decide +kernel
theorem dX11_meantBy_21 : decode cX11_meantBy 21 = .ok (.invokevirtual 122, 3) := by decide +kernel
theorem dX11_meantBy_24 : decode cX11_meantBy 24 = .ok (.ifCond .eq 12, 3) := by decide +kernel
theorem dX11_meantBy_27 : decode cX11_meantBy 27 = .ok (.aload_n 0, 1) := by decide +kernel
theorem dX11_meantBy_28 : decode cX11_meantBy 28 = .ok (.getfield 34, 3) := by decide +kernel
theorem dX11_meantBy_31 : decode cX11_meantBy 31 = .ok (.iload_n 2, 1) := by decide +kernel
theorem dX11_meantBy_32 : decode cX11_meantBy 32 = .ok (.iaload, 1) := by decide +kernel
theorem dX11_meantBy_33 : decode cX11_meantBy 33 = .ok (.goto 4, 3) := by decide +kernel
theorem dX11_meantBy_36 : decode cX11_meantBy 36 = .ok (.iconst 0, 1) := by decide +kernel
theorem dX11_meantBy_37 : decode cX11_meantBy 37 = .ok (.istore_n 3, 1) := by decide +kernel
theorem dX11_meantBy_38 : decode cX11_meantBy 38 = .ok (.iconst 0, 1) := by decide +kernel
theorem dX11_meantBy_39 : decode cX11_meantBy 39 = .ok (.istore 4, 2) := by decide +kernel
theorem dX11_meantBy_41 : decode cX11_meantBy 41 = .ok (.iload 4, 2) := by decide +kernel
theorem dX11_meantBy_43 : decode cX11_meantBy 43 = .ok (.aload_n 0, 1) := by decide +kernel
theorem dX11_meantBy_44 : decode cX11_meantBy 44 = .ok (.getfield 188, 3) := by decide +kernel
theorem dX11_meantBy_47 : decode cX11_meantBy 47 = .ok (.if_icmp .ge 92, 3) := by decide +kernel
theorem dX11_meantBy_50 : decode cX11_meantBy 50 = .ok (.aload_n 0, 1) := by decide +kernel
theorem dX11_meantBy_51 : decode cX11_meantBy 51 = .ok (.getfield 79, 3) := by decide +kernel
theorem dX11_meantBy_54 : decode cX11_meantBy 54 = .ok (.iload 4, 2) := by decide +kernel
theorem dX11_meantBy_56 : decode cX11_meantBy 56 = .ok (.iaload, 1) := by decide +kernel
theorem dX11_meantBy_57 : decode cX11_meantBy 57 = .ok (.ifCond .lt 21, 3) := by decide +kernel
theorem dX11_meantBy_60 : decode cX11_meantBy 60 = .ok (.aload_n 0, 1) := by decide +kernel
theorem dX11_meantBy_61 : decode cX11_meantBy 61 = .ok (.getfield 191, 3) := by decide +kernel
theorem dX11_meantBy_64 : decode cX11_meantBy 64 = .ok (.aload_n 0, 1) := by decide +kernel
theorem dX11_meantBy_65 : decode cX11_meantBy 65 = .ok (.getfield 79, 3) := by decide +kernel
theorem dX11_meantBy_68 : decode cX11_meantBy 68 = .ok (.iload 4, 2) := by decide +kernel
theorem dX11_meantBy_70 : decode cX11_meantBy 70 = .ok (.iaload, 1) := by decide +kernel
theorem dX11_meantBy_71 : decode cX11_meantBy 71 = .ok (.ishr, 1) := by decide +kernel
theorem dX11_meantBy_72 : decode cX11_meantBy 72 = .ok (.iconst 1, 1) := by decide +kernel
theorem dX11_meantBy_73 : decode cX11_meantBy 73 = .ok (.iand, 1) := by decide +kernel
theorem dX11_meantBy_74 : decode cX11_meantBy 74 = .ok (.iconst 1, 1) := by decide +kernel
theorem dX11_meantBy_75 : decode cX11_meantBy 75 = .ok (.if_icmp .ne 7, 3) := by decide +kernel
theorem dX11_meantBy_78 : decode cX11_meantBy 78 = .ok (.iconst 1, 1) := by decide +kernel
theorem dX11_meantBy_79 : decode cX11_meantBy 79 = .ok (.goto 4, 3) := by decide +kernel
theorem dX11_meantBy_82 : decode cX11_meantBy 82 = .ok (.iconst 0, 1) := by decide +kernel
theorem dX11_meantBy_83 : decode cX11_meantBy 83 = .ok (.istore 5, 2) := by decide +kernel
theorem dX11_meantBy_85 : decode cX11_meantBy 85 = .ok (.iload_n 3, 1) := by decide +kernel
theorem dX11_meantBy_86 : decode cX11_meantBy 86 = .ok (.iload 5, 2) := by decide +kernel
theorem dX11_meantBy_88 : decode cX11_meantBy 88 = .ok (.ifCond .eq 42, 3) := by decide +kernel
theorem dX11_meantBy_91 : decode cX11_meantBy 91 = .ok (.aload_n 0, 1) := by decide +kernel
theorem dX11_meantBy_92 : decode cX11_meantBy 92 = .ok (.getfield 76, 3) := by decide +kernel
theorem dX11_meantBy_95 : decode cX11_meantBy 95 = .ok (.iload 4, 2) := by decide +kernel
theorem dX11_meantBy_97 : decode cX11_meantBy 97 = .ok (.iaload, 1) := by decide +kernel
theorem dX11_meantBy_98 : decode cX11_meantBy 98 = .ok (.iload_n 2, 1) := by decide +kernel
theorem dX11_meantBy_99 : decode cX11_meantBy 99 = .ok (.if_icmp .eq 19, 3) := by decide +kernel
theorem dX11_meantBy_102 : decode cX11_meantBy 102 = .ok (.aload_n 0, 1) := by decide +kernel
theorem dX11_meantBy_103 : decode cX11_meantBy 103 = .ok (.getfield 76, 3) := by decide +kernel
theorem dX11_meantBy_106 : decode cX11_meantBy 106 = .ok (.iload 4, 2) := by decide +kernel
theorem dX11_meantBy_108 : decode cX11_meantBy 108 = .ok (.iaload, 1) := by decide +kernel
theorem dX11_meantBy_109 : decode cX11_meantBy 109 = .ok (.aload_n 0, 1) := by decide +kernel
theorem dX11_meantBy_110 : decode cX11_meantBy 110 = .ok (.getfield 31, 3) := by decide +kernel
theorem dX11_meantBy_113 : decode cX11_meantBy 113 = .ok (.iload_n 2, 1) := by decide +kernel
theorem dX11_meantBy_114 : decode cX11_meantBy 114 = .ok (.iaload, 1) := by decide +kernel
theorem dX11_meantBy_115 : decode cX11_meantBy 115 = .ok (.if_icmp .ne 15, 3) := by decide +kernel
theorem dX11_meantBy_118 : decode cX11_meantBy 118 = .ok (.iconst 1, 1) := by decide +kernel
theorem dX11_meantBy_119 : decode cX11_meantBy 119 = .ok (.aload_n 0, 1) := by decide +kernel
theorem dX11_meantBy_120 : decode cX11_meantBy 120 = .ok (.getfield 73, 3) := by decide +kernel
theorem dX11_meantBy_123 : decode cX11_meantBy 123 = .ok (.iload 4, 2) := by decide +kernel
theorem dX11_meantBy_125 : decode cX11_meantBy 125 = .ok (.iaload, 1) := by decide +kernel
theorem dX11_meantBy_126 : decode cX11_meantBy 126 = .ok (.ishl, 1) := by decide +kernel
theorem dX11_meantBy_127 : decode cX11_meantBy 127 = .ok (.goto 4, 3) := by decide +kernel
theorem dX11_meantBy_130 : decode cX11_meantBy 130 = .ok (.iconst 0, 1) := by decide +kernel
theorem dX11_meantBy_131 : decode cX11_meantBy 131 = .ok (.ior, 1) := by decide +kernel
theorem dX11_meantBy_132 : decode cX11_meantBy 132 = .ok (.istore_n 3, 1) := by decide +kernel
theorem dX11_meantBy_133 : decode cX11_meantBy 133 = .ok (.iinc 4 1, 3) := by decide +kernel
theorem dX11_meantBy_136 : decode cX11_meantBy 136 = .ok (.goto (-95), 3) := by decide +kernel
theorem dX11_meantBy_139 : decode cX11_meantBy 139 = .ok (.iload_n 3, 1) := by decide +kernel
theorem dX11_meantBy_140 : decode cX11_meantBy 140 = .ok (.ireturn, 1) := by decide +kernel
set_option maxRecDepth 20000 in
theorem ggX11_meant_X11_isToken : GoodIn wsX11_meant wsX11_isToken := goodIn_r _ [5, 6, 7, 8, 4, 9, 28, 29, 30, 31, 32, 33, 34, 35, 36, 37, 38, 39, 40, 41, 42, 43, 44, 45, 46, 47, 48, 49, 50, 51, 52, 53, 54, 55, 56, 57, 58, 59, 60, 61, 62, 63, 64] (by decide +kernel) (by decide +kernel)
set_option maxRecDepth 20000 in
theorem gX11_meant_X11_isToken : GoodIn wsX11_meant (wsV RX11 173 RX11 yX11_isToken wsX11_isToken) := goodIn_app (goodIn_of _ (by decide +kernel)) ggX11_meant_X11_isToken
set_option maxRecDepth 20000 in
theorem ggX11_meant_X11_meantBy : GoodIn wsX11_meant wsX11_meantBy := goodIn_r _ [13, 14, 15, 16, 17, 18, 19, 20, 21, 22, 23, 24, 25, 4, 26, 27, 28, 29, 30, 31, 32, 33, 34, 35, 36, 37, 38, 39, 40, 41, 42, 43, 44, 45, 46, 47, 48, 49, 50, 51, 52, 53, 54, 55, 56, 57, 58, 59, 60, 61, 62, 63, 64] (by decide +kernel) (by decide +kernel)
set_option maxRecDepth 20000 in
theorem gX11_meant_X11_meantBy : GoodIn wsX11_meant (wsV RX11 194 RX11 yX11_meantBy wsX11_meantBy) := goodIn_app (goodIn_of _ (by decide +kernel)) ggX11_meant_X11_meantBy
theorem dX11_meant_0 : decode cX11_meant 0 = .ok (.aload_n 0, 1) := by decide +kernel
theorem dX11_meant_1 : decode cX11_meant 1 = .ok (.iload_n 1, 1) := by decide +kernel
theorem dX11_meant_2 : decode cX11_meant 2 = .ok (.invokevirtual 173, 3) := by decide +kernel
theorem dX11_meant_5 : decode cX11_meant 5 = .ok (.ifCond .eq 11, 3) := by decide +kernel
theorem dX11_meant_8 : decode cX11_meant 8 = .ok (.aload_n 0, 1) := by decide +kernel
theorem dX11_meant_9 : decode cX11_meant 9 = .ok (.iload_n 1, 1) := by decide +kernel
theorem dX11_meant_10 : decode cX11_meant 10 = .ok (.invokevirtual 194, 3) := by decide +kernel
theorem dX11_meant_13 : decode cX11_meant 13 = .ok (.goto 5, 3) := by decide +kernel
theorem dX11_meant_16 : decode cX11_meant 16 = .ok (.bipush (-2), 2) := by decide +kernel
theorem dX11_meant_18 : decode cX11_meant 18 = .ok (.ireturn, 1) := by decide +kernel
set_option maxRecDepth 20000 in
theorem ggX11_phraseAt_X11_meantBy : GoodIn wsX11_phraseAt wsX11_meantBy := goodIn_r _ [10, 3, 5, 11, 12, 13, 14, 15, 16, 17, 18, 19, 20, 9, 21, 4, 22, 23, 24, 25, 26, 27, 28, 29, 30, 31, 32, 33, 34, 35, 36, 37, 38, 39, 40, 41, 42, 43, 44, 45, 46, 47, 48, 49, 50, 51, 52, 53, 54, 55, 56, 57, 58] (by decide +kernel) (by decide +kernel)
set_option maxRecDepth 20000 in
theorem gX11_phraseAt_X11_meantBy : GoodIn wsX11_phraseAt (wsV RX11 194 RX11 yX11_meantBy wsX11_meantBy) := goodIn_app (goodIn_of _ (by decide +kernel)) ggX11_phraseAt_X11_meantBy
theorem dX11_phraseAt_0 : decode cX11_phraseAt 0 = .ok (.aload_n 0, 1) := by decide +kernel
theorem dX11_phraseAt_1 : decode cX11_phraseAt 1 = .ok (.iconst 0, 1) := by decide +kernel
theorem dX11_phraseAt_2 : decode cX11_phraseAt 2 = .ok (.putfield 197, 3) := by decide +kernel
theorem dX11_phraseAt_5 : decode cX11_phraseAt 5 = .ok (.iconst (-1), 1) := by decide +kernel
theorem dX11_phraseAt_6 : decode cX11_phraseAt 6 = .ok (.istore_n 2, 1) := by decide +kernel
theorem dX11_phraseAt_7 : decode cX11_phraseAt 7 = .ok (.iload_n 1, 1) := by decide +kernel
theorem dX11_phraseAt_8 : decode cX11_phraseAt 8 = .ok (.istore_n 3, 1) := by decide +kernel
theorem dX11_phraseAt_9 : decode cX11_phraseAt 9 = .ok (.iload_n 3, 1) := by decide +kernel
theorem dX11_phraseAt_10 : decode cX11_phraseAt 10 = .ok (.aload_n 0, 1) := by decide +kernel
theorem dX11_phraseAt_11 : decode cX11_phraseAt 11 = .ok (.getfield 170, 3) := by decide +kernel
theorem dX11_phraseAt_14 : decode cX11_phraseAt 14 = .ok (.if_icmp .ge 58, 3) := by decide +kernel
theorem dX11_phraseAt_17 : decode cX11_phraseAt 17 = .ok (.aload_n 0, 1) := by decide +kernel
theorem dX11_phraseAt_18 : decode cX11_phraseAt 18 = .ok (.getfield 46, 3) := by decide +kernel
theorem dX11_phraseAt_21 : decode cX11_phraseAt 21 = .ok (.iload_n 3, 1) := by decide +kernel
theorem dX11_phraseAt_22 : decode cX11_phraseAt 22 = .ok (.iaload, 1) := by decide +kernel
theorem dX11_phraseAt_23 : decode cX11_phraseAt 23 = .ok (.ifCond .ne 49, 3) := by decide +kernel
theorem dX11_phraseAt_26 : decode cX11_phraseAt 26 = .ok (.aload_n 0, 1) := by decide +kernel
theorem dX11_phraseAt_27 : decode cX11_phraseAt 27 = .ok (.getfield 25, 3) := by decide +kernel
theorem dX11_phraseAt_30 : decode cX11_phraseAt 30 = .ok (.aload_n 0, 1) := by decide +kernel
theorem dX11_phraseAt_31 : decode cX11_phraseAt 31 = .ok (.getfield 55, 3) := by decide +kernel
theorem dX11_phraseAt_34 : decode cX11_phraseAt 34 = .ok (.iload_n 3, 1) := by decide +kernel
theorem dX11_phraseAt_35 : decode cX11_phraseAt 35 = .ok (.iaload, 1) := by decide +kernel
theorem dX11_phraseAt_36 : decode cX11_phraseAt 36 = .ok (.iaload, 1) := by decide +kernel
theorem dX11_phraseAt_37 : decode cX11_phraseAt 37 = .ok (.bipush 22, 2) := by decide +kernel
theorem dX11_phraseAt_39 : decode cX11_phraseAt 39 = .ok (.iand, 1) := by decide +kernel
theorem dX11_phraseAt_40 : decode cX11_phraseAt 40 = .ok (.ifCond .eq 32, 3) := by decide +kernel
theorem dX11_phraseAt_43 : decode cX11_phraseAt 43 = .ok (.iload_n 2, 1) := by decide +kernel
theorem dX11_phraseAt_44 : decode cX11_phraseAt 44 = .ok (.aload_n 0, 1) := by decide +kernel
theorem dX11_phraseAt_45 : decode cX11_phraseAt 45 = .ok (.iload_n 3, 1) := by decide +kernel
theorem dX11_phraseAt_46 : decode cX11_phraseAt 46 = .ok (.invokevirtual 194, 3) := by decide +kernel
theorem dX11_phraseAt_49 : decode cX11_phraseAt 49 = .ok (.iand, 1) := by decide +kernel
theorem dX11_phraseAt_50 : decode cX11_phraseAt 50 = .ok (.ifCond .eq 22, 3) := by decide +kernel
theorem dX11_phraseAt_53 : decode cX11_phraseAt 53 = .ok (.iload_n 2, 1) := by decide +kernel
theorem dX11_phraseAt_54 : decode cX11_phraseAt 54 = .ok (.aload_n 0, 1) := by decide +kernel
theorem dX11_phraseAt_55 : decode cX11_phraseAt 55 = .ok (.iload_n 3, 1) := by decide +kernel
theorem dX11_phraseAt_56 : decode cX11_phraseAt 56 = .ok (.invokevirtual 194, 3) := by decide +kernel
theorem dX11_phraseAt_59 : decode cX11_phraseAt 59 = .ok (.iand, 1) := by decide +kernel
theorem dX11_phraseAt_60 : decode cX11_phraseAt 60 = .ok (.istore_n 2, 1) := by decide +kernel
theorem dX11_phraseAt_61 : decode cX11_phraseAt 61 = .ok (.aload_n 0, 1) := by decide +kernel
theorem dX11_phraseAt_62 : decode cX11_phraseAt 62 = .ok (.iload_n 2, 1) := by decide +kernel
theorem dX11_phraseAt_63 : decode cX11_phraseAt 63 = .ok (.putfield 197, 3) := by decide +kernel
theorem dX11_phraseAt_66 : decode cX11_phraseAt 66 = .ok (.iinc 3 1, 3) := by decide +kernel
theorem dX11_phraseAt_69 : decode cX11_phraseAt 69 = .ok (.goto (-60), 3) := by decide +kernel
theorem dX11_phraseAt_72 : decode cX11_phraseAt 72 = .ok (.iload_n 3, 1) := by decide +kernel
theorem dX11_phraseAt_73 : decode cX11_phraseAt 73 = .ok (.iload_n 1, 1) := by decide +kernel
theorem dX11_phraseAt_74 : decode cX11_phraseAt 74 = .ok (.isub, 1) := by decide +kernel
theorem dX11_phraseAt_75 : decode cX11_phraseAt 75 = .ok (.ireturn, 1) := by decide +kernel
set_option maxRecDepth 20000 in
theorem ggX11_phrase_X11_isToken : GoodIn wsX11_phrase wsX11_isToken := goodIn_r _ [6, 7, 8, 9, 5, 10, 33, 34, 35, 36, 37, 38, 39, 40, 41, 42, 43, 44, 45, 46, 47, 48, 49, 50, 51, 52, 53, 54, 55, 56, 57, 58, 59, 60, 61, 62, 63, 64, 65, 66, 67, 68, 69] (by decide +kernel) (by decide +kernel)
set_option maxRecDepth 20000 in
theorem gX11_phrase_X11_isToken : GoodIn wsX11_phrase (wsV RX11 173 RX11 yX11_isToken wsX11_isToken) := goodIn_app (goodIn_of _ (by decide +kernel)) ggX11_phrase_X11_isToken
set_option maxRecDepth 20000 in
theorem ggX11_phrase_X11_phraseAt : GoodIn wsX11_phrase wsX11_phraseAt := goodIn_r _ [14, 1, 7, 15, 16, 17, 18, 19, 20, 5, 21, 22, 23, 24, 25, 26, 27, 28, 29, 30, 31, 32, 33, 34, 35, 36, 37, 38, 39, 40, 41, 42, 43, 44, 45, 46, 47, 48, 49, 50, 51, 52, 53, 54, 55, 56, 57, 58, 59, 60, 61, 62, 63, 64, 65, 66, 67, 68, 69] (by decide +kernel) (by decide +kernel)
set_option maxRecDepth 20000 in
theorem gX11_phrase_X11_phraseAt : GoodIn wsX11_phrase (wsV RX11 200 RX11 yX11_phraseAt wsX11_phraseAt) := goodIn_app (goodIn_of _ (by decide +kernel)) ggX11_phrase_X11_phraseAt
theorem dX11_phrase_0 : decode cX11_phrase 0 = .ok (.aload_n 0, 1) := by decide +kernel
theorem dX11_phrase_1 : decode cX11_phrase 1 = .ok (.iload_n 1, 1) := by decide +kernel
theorem dX11_phrase_2 : decode cX11_phrase 2 = .ok (.invokevirtual 173, 3) := by decide +kernel
theorem dX11_phrase_5 : decode cX11_phrase 5 = .ok (.ifCond .ne 6, 3) := by decide +kernel
theorem dX11_phrase_8 : decode cX11_phrase 8 = .ok (.bipush (-2), 2) := by decide +kernel
theorem dX11_phrase_10 : decode cX11_phrase 10 = .ok (.ireturn, 1) := by decide +kernel
theorem dX11_phrase_11 : decode cX11_phrase 11 = .ok (.aload_n 0, 1) := by decide +kernel
theorem dX11_phrase_12 : decode cX11_phrase 12 = .ok (.iload_n 1, 1) := by decide +kernel
theorem dX11_phrase_13 : decode cX11_phrase 13 = .ok (.invokevirtual 200, 3) := by decide +kernel
theorem dX11_phrase_16 : decode cX11_phrase 16 = .ok (.pop, 1) := by decide +kernel
theorem dX11_phrase_17 : decode cX11_phrase 17 = .ok (.aload_n 0, 1) := by decide +kernel
theorem dX11_phrase_18 : decode cX11_phrase 18 = .ok (.getfield 197, 3) := by decide +kernel
theorem dX11_phrase_21 : decode cX11_phrase 21 = .ok (.ireturn, 1) := by decide +kernel
set_option maxRecDepth 20000 in
theorem ggX11_phraseLength_X11_isToken : GoodIn wsX11_phraseLength wsX11_isToken := goodIn_r _ [5, 6, 7, 8, 4, 9, 33, 34, 35, 36, 37, 38, 39, 40, 41, 42, 43, 44, 45, 46, 47, 48, 49, 50, 51, 52, 53, 54, 55, 56, 57, 58, 59, 60, 61, 62, 63, 64, 65, 66, 67, 68, 69] (by decide +kernel) (by decide +kernel)
set_option maxRecDepth 20000 in
theorem gX11_phraseLength_X11_isToken : GoodIn wsX11_phraseLength (wsV RX11 173 RX11 yX11_isToken wsX11_isToken) := goodIn_app (goodIn_of _ (by decide +kernel)) ggX11_phraseLength_X11_isToken
set_option maxRecDepth 20000 in
theorem ggX11_phraseLength_X11_phraseAt : GoodIn wsX11_phraseLength wsX11_phraseAt := goodIn_r _ [13, 14, 6, 15, 16, 17, 18, 19, 20, 4, 21, 22, 23, 24, 25, 26, 27, 28, 29, 30, 31, 32, 33, 34, 35, 36, 37, 38, 39, 40, 41, 42, 43, 44, 45, 46, 47, 48, 49, 50, 51, 52, 53, 54, 55, 56, 57, 58, 59, 60, 61, 62, 63, 64, 65, 66, 67, 68, 69] (by decide +kernel) (by decide +kernel)
set_option maxRecDepth 20000 in
theorem gX11_phraseLength_X11_phraseAt : GoodIn wsX11_phraseLength (wsV RX11 200 RX11 yX11_phraseAt wsX11_phraseAt) := goodIn_app (goodIn_of _ (by decide +kernel)) ggX11_phraseLength_X11_phraseAt
