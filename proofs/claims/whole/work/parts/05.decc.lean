theorem dX8_init_0 : decode cX8_init 0 = .ok (.aload_n 0, 1) := by decide +kernel
theorem dX8_init_1 : decode cX8_init 1 = .ok (.invokespecial 1, 3) := by decide +kernel
theorem dX8_init_4 : decode cX8_init 4 = .ok (.aload_n 0, 1) := by decide +kernel
theorem dX8_init_5 : decode cX8_init 5 = .ok (.sipush 240, 3) := by decide +kernel
theorem dX8_init_8 : decode cX8_init 8 = .ok (.newarray .int, 2) := by decide +kernel
theorem dX8_init_10 : decode cX8_init 10 = .ok (.putfield 7, 3) := by decide +kernel
theorem dX8_init_13 : decode cX8_init 13 = .ok (.aload_n 0, 1) := by decide +kernel
theorem dX8_init_14 : decode cX8_init 14 = .ok (.bipush 12, 2) := by decide +kernel
theorem dX8_init_16 : decode cX8_init 16 = .ok (.newarray .long, 2) := by decide +kernel
theorem dX8_init_18 : decode cX8_init 18 = .ok (.putfield 13, 3) := by decide +kernel
theorem dX8_init_21 : decode cX8_init 21 = .ok (.aload_n 0, 1) := by decide +kernel
theorem dX8_init_22 : decode cX8_init 22 = .ok (.bipush 12, 2) := by decide +kernel
theorem dX8_init_24 : decode cX8_init 24 = .ok (.newarray .int, 2) := by decide +kernel
theorem dX8_init_26 : decode cX8_init 26 = .ok (.putfield 17, 3) := by decide +kernel
theorem dX8_init_29 : decode cX8_init 29 = .ok (.aload_n 0, 1) := by decide +kernel
theorem dX8_init_30 : decode cX8_init 30 = .ok (.sipush 240, 3) := by decide +kernel
theorem dX8_init_33 : decode cX8_init 33 = .ok (.newarray .int, 2) := by decide +kernel
theorem dX8_init_35 : decode cX8_init 35 = .ok (.putfield 20, 3) := by decide +kernel
theorem dX8_init_38 : decode cX8_init 38 = .ok (.aload_n 0, 1) := by decide +kernel
theorem dX8_init_39 : decode cX8_init 39 = .ok (.sipush 240, 3) := by decide +kernel
theorem dX8_init_42 : decode cX8_init 42 = .ok (.newarray .long, 2) := by decide +kernel
theorem dX8_init_44 : decode cX8_init 44 = .ok (.putfield 23, 3) := by decide +kernel
theorem dX8_init_47 : decode cX8_init 47 = .ok (.aload_n 0, 1) := by decide +kernel
theorem dX8_init_48 : decode cX8_init 48 = .ok (.bipush 24, 2) := by decide +kernel
theorem dX8_init_50 : decode cX8_init 50 = .ok (.newarray .int, 2) := by decide +kernel
theorem dX8_init_52 : decode cX8_init 52 = .ok (.putfield 26, 3) := by decide +kernel
theorem dX8_init_55 : decode cX8_init 55 = .ok (.aload_n 0, 1) := by decide +kernel
theorem dX8_init_56 : decode cX8_init 56 = .ok (.bipush 24, 2) := by decide +kernel
theorem dX8_init_58 : decode cX8_init 58 = .ok (.newarray .int, 2) := by decide +kernel
theorem dX8_init_60 : decode cX8_init 60 = .ok (.putfield 29, 3) := by decide +kernel
theorem dX8_init_63 : decode cX8_init 63 = .ok (.aload_n 0, 1) := by decide +kernel
theorem dX8_init_64 : decode cX8_init 64 = .ok (.bipush 60, 2) := by decide +kernel
theorem dX8_init_66 : decode cX8_init 66 = .ok (.newarray .int, 2) := by decide +kernel
theorem dX8_init_68 : decode cX8_init 68 = .ok (.putfield 32, 3) := by decide +kernel
theorem dX8_init_71 : decode cX8_init 71 = .ok (.aload_n 0, 1) := by decide +kernel
theorem dX8_init_72 : decode cX8_init 72 = .ok (.bipush 60, 2) := by decide +kernel
theorem dX8_init_74 : decode cX8_init 74 = .ok (.newarray .int, 2) := by decide +kernel
theorem dX8_init_76 : decode cX8_init 76 = .ok (.putfield 35, 3) := by decide +kernel
theorem dX8_init_79 : decode cX8_init 79 = .ok (.aload_n 0, 1) := by decide +kernel
theorem dX8_init_80 : decode cX8_init 80 = .ok (.bipush 60, 2) := by decide +kernel
theorem dX8_init_82 : decode cX8_init 82 = .ok (.newarray .int, 2) := by decide +kernel
theorem dX8_init_84 : decode cX8_init 84 = .ok (.putfield 38, 3) := by decide +kernel
theorem dX8_init_87 : decode cX8_init 87 = .ok (.aload_n 0, 1) := by decide +kernel
theorem dX8_init_88 : decode cX8_init 88 = .ok (.bipush 80, 2) := by decide +kernel
theorem dX8_init_90 : decode cX8_init 90 = .ok (.newarray .int, 2) := by decide +kernel
theorem dX8_init_92 : decode cX8_init 92 = .ok (.putfield 41, 3) := by decide +kernel
theorem dX8_init_95 : decode cX8_init 95 = .ok (.aload_n 0, 1) := by decide +kernel
theorem dX8_init_96 : decode cX8_init 96 = .ok (.bipush 80, 2) := by decide +kernel
theorem dX8_init_98 : decode cX8_init 98 = .ok (.newarray .int, 2) := by decide +kernel
theorem dX8_init_100 : decode cX8_init 100 = .ok (.putfield 44, 3) := by decide +kernel
theorem dX8_init_103 : decode cX8_init 103 = .ok (.aload_n 0, 1) := by decide +kernel
theorem dX8_init_104 : decode cX8_init 104 = .ok (.bipush 20, 2) := by decide +kernel
theorem dX8_init_106 : decode cX8_init 106 = .ok (.newarray .int, 2) := by decide +kernel
theorem dX8_init_108 : decode cX8_init 108 = .ok (.putfield 47, 3) := by decide +kernel
theorem dX8_init_111 : decode cX8_init 111 = .ok (.aload_n 0, 1) := by decide +kernel
theorem dX8_init_112 : decode cX8_init 112 = .ok (.bipush 20, 2) := by decide +kernel
theorem dX8_init_114 : decode cX8_init 114 = .ok (.newarray .int, 2) := by decide +kernel
theorem dX8_init_116 : decode cX8_init 116 = .ok (.putfield 50, 3) := by decide +kernel
theorem dX8_init_119 : decode cX8_init 119 = .ok (.aload_n 0, 1) := by decide +kernel
theorem dX8_init_120 : decode cX8_init 120 = .ok (.bipush 20, 2) := by decide +kernel
theorem dX8_init_122 : decode cX8_init 122 = .ok (.newarray .int, 2) := by decide +kernel
theorem dX8_init_124 : decode cX8_init 124 = .ok (.putfield 53, 3) := by decide +kernel
theorem dX8_init_127 : decode cX8_init 127 = .ok (.aload_n 0, 1) := by decide +kernel
theorem dX8_init_128 : decode cX8_init 128 = .ok (.bipush 60, 2) := by decide +kernel
theorem dX8_init_130 : decode cX8_init 130 = .ok (.newarray .int, 2) := by decide +kernel
theorem dX8_init_132 : decode cX8_init 132 = .ok (.putfield 56, 3) := by decide +kernel
theorem dX8_init_135 : decode cX8_init 135 = .ok (.aload_n 0, 1) := by decide +kernel
theorem dX8_init_136 : decode cX8_init 136 = .ok (.bipush 60, 2) := by decide +kernel
theorem dX8_init_138 : decode cX8_init 138 = .ok (.newarray .int, 2) := by decide +kernel
theorem dX8_init_140 : decode cX8_init 140 = .ok (.putfield 59, 3) := by decide +kernel
theorem dX8_init_143 : decode cX8_init 143 = .ok (.aload_n 0, 1) := by decide +kernel
theorem dX8_init_144 : decode cX8_init 144 = .ok (.bipush 60, 2) := by decide +kernel
theorem dX8_init_146 : decode cX8_init 146 = .ok (.newarray .int, 2) := by decide +kernel
theorem dX8_init_148 : decode cX8_init 148 = .ok (.putfield 62, 3) := by decide +kernel
theorem dX8_init_151 : decode cX8_init 151 = .ok (.aload_n 0, 1) := by decide +kernel
theorem dX8_init_152 : decode cX8_init 152 = .ok (.bipush 60, 2) := by decide +kernel
theorem dX8_init_154 : decode cX8_init 154 = .ok (.newarray .int, 2) := by decide +kernel
theorem dX8_init_156 : decode cX8_init 156 = .ok (.putfield 65, 3) := by decide +kernel
theorem dX8_init_159 : decode cX8_init 159 = .ok (.aload_n 0, 1) := by decide +kernel
theorem dX8_init_160 : decode cX8_init 160 = .ok (.bipush 60, 2) := by decide +kernel
theorem dX8_init_162 : decode cX8_init 162 = .ok (.newarray .int, 2) := by decide +kernel
theorem dX8_init_164 : decode cX8_init 164 = .ok (.putfield 68, 3) := by decide +kernel
theorem dX8_init_167 : decode cX8_init 167 = .ok (.aload_n 0, 1) := by decide +kernel
theorem dX8_init_168 : decode cX8_init 168 = .ok (.bipush 60, 2) := by decide +kernel
theorem dX8_init_170 : decode cX8_init 170 = .ok (.newarray .boolean, 2) := by decide +kernel
theorem dX8_init_172 : decode cX8_init 172 = .ok (.putfield 71, 3) := by decide +kernel
theorem dX8_init_175 : decode cX8_init 175 = .ok (.aload_n 0, 1) := by decide +kernel
theorem dX8_init_176 : decode cX8_init 176 = .ok (.bipush 60, 2) := by decide +kernel
theorem dX8_init_178 : decode cX8_init 178 = .ok (.newarray .boolean, 2) := by decide +kernel
theorem dX8_init_180 : decode cX8_init 180 = .ok (.putfield 75, 3) := by decide +kernel
theorem dX8_init_183 : decode cX8_init 183 = .ok (.aload_n 0, 1) := by decide +kernel
theorem dX8_init_184 : decode cX8_init 184 = .ok (.bipush 60, 2) := by decide +kernel
theorem dX8_init_186 : decode cX8_init 186 = .ok (.newarray .boolean, 2) := by decide +kernel
theorem dX8_init_188 : decode cX8_init 188 = .ok (.putfield 78, 3) := by decide +kernel
theorem dX8_init_191 : decode cX8_init 191 = .ok (.aload_n 0, 1) := by decide +kernel
theorem dX8_init_192 : decode cX8_init 192 = .ok (.bipush 60, 2) := by decide +kernel
theorem dX8_init_194 : decode cX8_init 194 = .ok (.newarray .int, 2) := by decide +kernel
theorem dX8_init_196 : decode cX8_init 196 = .ok (.putfield 81, 3) := by decide +kernel
theorem dX8_init_199 : decode cX8_init 199 = .ok (.aload_n 0, 1) := by decide +kernel
theorem dX8_init_200 : decode cX8_init 200 = .ok (.bipush 60, 2) := by decide +kernel
theorem dX8_init_202 : decode cX8_init 202 = .ok (.newarray .int, 2) := by decide +kernel
theorem dX8_init_204 : decode cX8_init 204 = .ok (.putfield 84, 3) := by decide +kernel
theorem dX8_init_207 : decode cX8_init 207 = .ok (.aload_n 0, 1) := by decide +kernel
theorem dX8_init_208 : decode cX8_init 208 = .ok (.bipush 20, 2) := by decide +kernel
theorem dX8_init_210 : decode cX8_init 210 = .ok (.newarray .int, 2) := by decide +kernel
theorem dX8_init_212 : decode cX8_init 212 = .ok (.putfield 87, 3) := by decide +kernel
theorem dX8_init_215 : decode cX8_init 215 = .ok (.aload_n 0, 1) := by decide +kernel
theorem dX8_init_216 : decode cX8_init 216 = .ok (.bipush 20, 2) := by decide +kernel
theorem dX8_init_218 : decode cX8_init 218 = .ok (.newarray .int, 2) := by decide +kernel
theorem dX8_init_220 : decode cX8_init 220 = .ok (.putfield 90, 3) := by decide +kernel
theorem dX8_init_223 : decode cX8_init 223 = .ok (.aload_n 0, 1) := by decide +kernel
theorem dX8_init_224 : decode cX8_init 224 = .ok (.sipush 1440, 3) := by decide +kernel
theorem dX8_init_227 : decode cX8_init 227 = .ok (.newarray .boolean, 2) := by decide +kernel
theorem dX8_init_229 : decode cX8_init 229 = .ok (.putfield 93, 3) := by decide +kernel
theorem dX8_init_232 : decode cX8_init 232 = .ok (.iconst 0, 1) := by decide +kernel
theorem dX8_init_233 : decode cX8_init 233 = .ok (.istore_n 1, 1) := by decide +kernel
theorem dX8_init_234 : decode cX8_init 234 = .ok (.iload_n 1, 1) := by decide +kernel
theorem dX8_init_235 : decode cX8_init 235 = .ok (.sipush 240, 3) := by decide +kernel
theorem dX8_init_238 : decode cX8_init 238 = .ok (.if_icmp .ge 17, 3) := by decide +kernel
theorem dX8_init_241 : decode cX8_init 241 = .ok (.aload_n 0, 1) := by decide +kernel
theorem dX8_init_242 : decode cX8_init 242 = .ok (.getfield 7, 3) := by decide +kernel
theorem dX8_init_245 : decode cX8_init 245 = .ok (.iload_n 1, 1) := by decide +kernel
theorem dX8_init_246 : decode cX8_init 246 = .ok (.bipush 100, 2) := by decide +kernel
theorem dX8_init_248 : decode cX8_init 248 = .ok (.iastore, 1) := by decide +kernel
theorem dX8_init_249 : decode cX8_init 249 = .ok (.iinc 1 1, 3) := by decide +kernel
theorem dX8_init_252 : decode cX8_init 252 = .ok (.goto (-18), 3) := by decide +kernel
theorem dX8_init_255 : decode cX8_init 255 = .ok (.iconst 0, 1) := by decide +kernel
theorem dX8_init_256 : decode cX8_init 256 = .ok (.istore_n 1, 1) := by decide +kernel
theorem dX8_init_257 : decode cX8_init 257 = .ok (.iload_n 1, 1) := by decide +kernel
theorem dX8_init_258 : decode cX8_init 258 = .ok (.bipush 80, 2) := by decide +kernel
theorem dX8_init_260 : decode cX8_init 260 = .ok (.if_icmp .ge 16, 3) := by decide +kernel
theorem dX8_init_263 : decode cX8_init 263 = .ok (.aload_n 0, 1) := by decide +kernel
theorem dX8_init_264 : decode cX8_init 264 = .ok (.getfield 41, 3) := by decide +kernel
theorem dX8_init_267 : decode cX8_init 267 = .ok (.iload_n 1, 1) := by decide +kernel
theorem dX8_init_268 : decode cX8_init 268 = .ok (.iconst (-1), 1) := by decide +kernel
theorem dX8_init_269 : decode cX8_init 269 = .ok (.iastore, 1) := by decide +kernel
theorem dX8_init_270 : decode cX8_init 270 = .ok (.iinc 1 1, 3) := by decide +kernel
theorem dX8_init_273 : decode cX8_init 273 = .ok (.goto (-16), 3) := by decide +kernel
theorem dX8_init_276 : decode cX8_init 276 = .ok (.iconst 0, 1) := by decide +kernel
theorem dX8_init_277 : decode cX8_init 277 = .ok (.istore_n 1, 1) := by decide +kernel
theorem dX8_init_278 : decode cX8_init 278 = .ok (.iload_n 1, 1) := by decide +kernel
theorem dX8_init_279 : decode cX8_init 279 = .ok (.bipush 20, 2) := by decide +kernel
theorem dX8_init_281 : decode cX8_init 281 = .ok (.if_icmp .ge 16, 3) := by decide +kernel
theorem dX8_init_284 : decode cX8_init 284 = .ok (.aload_n 0, 1) := by decide +kernel
theorem dX8_init_285 : decode cX8_init 285 = .ok (.getfield 47, 3) := by decide +kernel
theorem dX8_init_288 : decode cX8_init 288 = .ok (.iload_n 1, 1) := by decide +kernel
theorem dX8_init_289 : decode cX8_init 289 = .ok (.iconst (-1), 1) := by decide +kernel
theorem dX8_init_290 : decode cX8_init 290 = .ok (.iastore, 1) := by decide +kernel
theorem dX8_init_291 : decode cX8_init 291 = .ok (.iinc 1 1, 3) := by decide +kernel
theorem dX8_init_294 : decode cX8_init 294 = .ok (.goto (-16), 3) := by decide +kernel
theorem dX8_init_297 : decode cX8_init 297 = .ok (.return_, 1) := by decide +kernel
theorem dX8_thrown_0 : decode cX8_thrown 0 = .ok (.aload_n 0, 1) := by decide +kernel
theorem dX8_thrown_1 : decode cX8_thrown 1 = .ok (.getfield 96, 3) := by decide +kernel
theorem dX8_thrown_4 : decode cX8_thrown 4 = .ok (.ireturn, 1) := by decide +kernel
theorem dX8_isIn_0 : decode cX8_isIn 0 = .ok (.iload_n 0, 1) := by decide +kernel
theorem dX8_isIn_1 : decode cX8_isIn 1 = .ok (.iload_n 1, 1) := by decide +kernel
theorem dX8_isIn_2 : decode cX8_isIn 2 = .ok (.if_icmp .lt 12, 3) := by decide +kernel
theorem dX8_isIn_5 : decode cX8_isIn 5 = .ok (.iload_n 0, 1) := by decide +kernel
theorem dX8_isIn_6 : decode cX8_isIn 6 = .ok (.iload_n 2, 1) := by decide +kernel
theorem dX8_isIn_7 : decode cX8_isIn 7 = .ok (.if_icmp .gt 7, 3) := by decide +kernel
theorem dX8_isIn_10 : decode cX8_isIn 10 = .ok (.iconst 1, 1) := by decide +kernel
theorem dX8_isIn_11 : decode cX8_isIn 11 = .ok (.goto 4, 3) := by decide +kernel
theorem dX8_isIn_14 : decode cX8_isIn 14 = .ok (.iconst 0, 1) := by decide +kernel
theorem dX8_isIn_15 : decode cX8_isIn 15 = .ok (.ireturn, 1) := by decide +kernel
set_option maxRecDepth 20000 in
theorem ggX8_isMember_X8_isIn : GoodIn wsX8_isMember wsX8_isIn := goodIn_r _ [5] (by decide +kernel) (by decide +kernel)
set_option maxRecDepth 20000 in
theorem gX8_isMember_X8_isIn : GoodIn wsX8_isMember (va_wsS RX8 103 yX8_isIn wsX8_isIn) := goodIn_app (goodIn_of _ (by decide +kernel)) ggX8_isMember_X8_isIn
theorem dX8_isMember_0 : decode cX8_isMember 0 = .ok (.iload_n 1, 1) := by decide +kernel
theorem dX8_isMember_1 : decode cX8_isMember 1 = .ok (.iconst 0, 1) := by decide +kernel
theorem dX8_isMember_2 : decode cX8_isMember 2 = .ok (.aload_n 0, 1) := by decide +kernel
theorem dX8_isMember_3 : decode cX8_isMember 3 = .ok (.getfield 100, 3) := by decide +kernel
theorem dX8_isMember_6 : decode cX8_isMember 6 = .ok (.iconst 1, 1) := by decide +kernel
theorem dX8_isMember_7 : decode cX8_isMember 7 = .ok (.isub, 1) := by decide +kernel
theorem dX8_isMember_8 : decode cX8_isMember 8 = .ok (.invokestatic 103, 3) := by decide +kernel
theorem dX8_isMember_11 : decode cX8_isMember 11 = .ok (.ireturn, 1) := by decide +kernel
set_option maxRecDepth 20000 in
theorem ggX8_isShip_X8_isIn : GoodIn wsX8_isShip wsX8_isIn := goodIn_r _ [5] (by decide +kernel) (by decide +kernel)
set_option maxRecDepth 20000 in
theorem gX8_isShip_X8_isIn : GoodIn wsX8_isShip (va_wsS RX8 103 yX8_isIn wsX8_isIn) := goodIn_app (goodIn_of _ (by decide +kernel)) ggX8_isShip_X8_isIn
theorem dX8_isShip_0 : decode cX8_isShip 0 = .ok (.iload_n 1, 1) := by decide +kernel
theorem dX8_isShip_1 : decode cX8_isShip 1 = .ok (.iconst 0, 1) := by decide +kernel
theorem dX8_isShip_2 : decode cX8_isShip 2 = .ok (.aload_n 0, 1) := by decide +kernel
theorem dX8_isShip_3 : decode cX8_isShip 3 = .ok (.getfield 107, 3) := by decide +kernel
theorem dX8_isShip_6 : decode cX8_isShip 6 = .ok (.iconst 1, 1) := by decide +kernel
theorem dX8_isShip_7 : decode cX8_isShip 7 = .ok (.isub, 1) := by decide +kernel
theorem dX8_isShip_8 : decode cX8_isShip 8 = .ok (.invokestatic 103, 3) := by decide +kernel
theorem dX8_isShip_11 : decode cX8_isShip 11 = .ok (.ireturn, 1) := by decide +kernel
set_option maxRecDepth 20000 in
theorem ggX8_isClaim_X8_isIn : GoodIn wsX8_isClaim wsX8_isIn := goodIn_r _ [5] (by decide +kernel) (by decide +kernel)
set_option maxRecDepth 20000 in
theorem gX8_isClaim_X8_isIn : GoodIn wsX8_isClaim (va_wsS RX8 103 yX8_isIn wsX8_isIn) := goodIn_app (goodIn_of _ (by decide +kernel)) ggX8_isClaim_X8_isIn
theorem dX8_isClaim_0 : decode cX8_isClaim 0 = .ok (.iload_n 1, 1) := by decide +kernel
theorem dX8_isClaim_1 : decode cX8_isClaim 1 = .ok (.iconst 0, 1) := by decide +kernel
theorem dX8_isClaim_2 : decode cX8_isClaim 2 = .ok (.aload_n 0, 1) := by decide +kernel
theorem dX8_isClaim_3 : decode cX8_isClaim 3 = .ok (.getfield 110, 3) := by decide +kernel
theorem dX8_isClaim_6 : decode cX8_isClaim 6 = .ok (.iconst 1, 1) := by decide +kernel
theorem dX8_isClaim_7 : decode cX8_isClaim 7 = .ok (.isub, 1) := by decide +kernel
theorem dX8_isClaim_8 : decode cX8_isClaim 8 = .ok (.invokestatic 103, 3) := by decide +kernel
theorem dX8_isClaim_11 : decode cX8_isClaim 11 = .ok (.ireturn, 1) := by decide +kernel
set_option maxRecDepth 20000 in
theorem ggX8_isYear_X8_isIn : GoodIn wsX8_isYear wsX8_isIn := goodIn_r _ [4] (by decide +kernel) (by decide +kernel)
set_option maxRecDepth 20000 in
theorem gX8_isYear_X8_isIn : GoodIn wsX8_isYear (va_wsS RX8 103 yX8_isIn wsX8_isIn) := goodIn_app (goodIn_of _ (by decide +kernel)) ggX8_isYear_X8_isIn
theorem dX8_isYear_0 : decode cX8_isYear 0 = .ok (.iload_n 0, 1) := by decide +kernel
theorem dX8_isYear_1 : decode cX8_isYear 1 = .ok (.iconst 0, 1) := by decide +kernel
theorem dX8_isYear_2 : decode cX8_isYear 2 = .ok (.bipush 19, 2) := by decide +kernel
theorem dX8_isYear_4 : decode cX8_isYear 4 = .ok (.invokestatic 103, 3) := by decide +kernel
theorem dX8_isYear_7 : decode cX8_isYear 7 = .ok (.ireturn, 1) := by decide +kernel
set_option maxRecDepth 20000 in
theorem ggX8_isLoss_X8_isIn : GoodIn wsX8_isLoss wsX8_isIn := goodIn_r _ [5] (by decide +kernel) (by decide +kernel)
set_option maxRecDepth 20000 in
theorem gX8_isLoss_X8_isIn : GoodIn wsX8_isLoss (va_wsS RX8 103 yX8_isIn wsX8_isIn) := goodIn_app (goodIn_of _ (by decide +kernel)) ggX8_isLoss_X8_isIn
theorem dX8_isLoss_0 : decode cX8_isLoss 0 = .ok (.iload_n 0, 1) := by decide +kernel
theorem dX8_isLoss_1 : decode cX8_isLoss 1 = .ok (.iconst 0, 1) := by decide +kernel
theorem dX8_isLoss_2 : decode cX8_isLoss 2 = .ok (.ldc 113, 2) := by decide +kernel
theorem dX8_isLoss_4 : decode cX8_isLoss 4 = .ok (.invokestatic 103, 3) := by decide +kernel
theorem dX8_isLoss_7 : decode cX8_isLoss 7 = .ok (.ireturn, 1) := by decide +kernel
theorem dX8_member_0 : decode cX8_member 0 = .ok (.aload_n 0, 1) := by decide +kernel
theorem dX8_member_1 : decode cX8_member 1 = .ok (.aload_n 0, 1) := by decide +kernel
theorem dX8_member_2 : decode cX8_member 2 = .ok (.getfield 100, 3) := by decide +kernel
theorem dX8_member_5 : decode cX8_member 5 = .ok (.bipush 12, 2) := by decide +kernel
theorem dX8_member_7 : decode cX8_member 7 = .ok (.if_icmp .ne 7, 3) := by decide +kernel
theorem dX8_member_10 : decode cX8_member 10 = .ok (.iconst 1, 1) := by decide +kernel
theorem dX8_member_11 : decode cX8_member 11 = .ok (.goto 4, 3) := by decide +kernel
theorem dX8_member_14 : decode cX8_member 14 = .ok (.iconst 0, 1) := by decide +kernel
theorem dX8_member_15 : decode cX8_member 15 = .ok (.putfield 96, 3) := by decide +kernel
theorem dX8_member_18 : decode cX8_member 18 = .ok (.aload_n 0, 1) := by decide +kernel
theorem dX8_member_19 : decode cX8_member 19 = .ok (.getfield 96, 3) := by decide +kernel
theorem dX8_member_22 : decode cX8_member 22 = .ok (.ifCond .le 5, 3) := by decide +kernel
theorem dX8_member_25 : decode cX8_member 25 = .ok (.iconst 0, 1) := by decide +kernel
theorem dX8_member_26 : decode cX8_member 26 = .ok (.ireturn, 1) := by decide +kernel
theorem dX8_member_27 : decode cX8_member 27 = .ok (.aload_n 0, 1) := by decide +kernel
theorem dX8_member_28 : decode cX8_member 28 = .ok (.getfield 17, 3) := by decide +kernel
theorem dX8_member_31 : decode cX8_member 31 = .ok (.aload_n 0, 1) := by decide +kernel
theorem dX8_member_32 : decode cX8_member 32 = .ok (.getfield 100, 3) := by decide +kernel
theorem dX8_member_35 : decode cX8_member 35 = .ok (.iconst (-1), 1) := by decide +kernel
theorem dX8_member_36 : decode cX8_member 36 = .ok (.iastore, 1) := by decide +kernel
theorem dX8_member_37 : decode cX8_member 37 = .ok (.aload_n 0, 1) := by decide +kernel
theorem dX8_member_38 : decode cX8_member 38 = .ok (.dup, 1) := by decide +kernel
theorem dX8_member_39 : decode cX8_member 39 = .ok (.getfield 100, 3) := by decide +kernel
theorem dX8_member_42 : decode cX8_member 42 = .ok (.iconst 1, 1) := by decide +kernel
theorem dX8_member_43 : decode cX8_member 43 = .ok (.iadd, 1) := by decide +kernel
theorem dX8_member_44 : decode cX8_member 44 = .ok (.putfield 100, 3) := by decide +kernel
theorem dX8_member_47 : decode cX8_member 47 = .ok (.aload_n 0, 1) := by decide +kernel
theorem dX8_member_48 : decode cX8_member 48 = .ok (.getfield 100, 3) := by decide +kernel
theorem dX8_member_51 : decode cX8_member 51 = .ok (.iconst 1, 1) := by decide +kernel
theorem dX8_member_52 : decode cX8_member 52 = .ok (.isub, 1) := by decide +kernel
theorem dX8_member_53 : decode cX8_member 53 = .ok (.ireturn, 1) := by decide +kernel
set_option maxRecDepth 20000 in
theorem ggX8_ship_X8_isMember : GoodIn wsX8_ship wsX8_isMember := goodIn_r _ [9, 10, 11, 12, 8, 13, 14, 15, 16, 17, 18, 19, 20, 21, 22, 23, 24, 25, 26, 27, 28, 29, 30, 31, 32, 33, 34, 35, 36, 37, 38, 39, 40, 41, 42, 43, 44, 45, 46, 47, 48, 49, 50] (by decide +kernel) (by decide +kernel)
set_option maxRecDepth 20000 in
theorem gX8_ship_X8_isMember : GoodIn wsX8_ship (wsV RX8 114 RX8 yX8_isMember wsX8_isMember) := goodIn_app (goodIn_of _ (by decide +kernel)) ggX8_ship_X8_isMember
set_option maxRecDepth 20000 in
theorem ggX8_ship_X8_isIn : GoodIn wsX8_ship wsX8_isIn := goodIn_r _ [13] (by decide +kernel) (by decide +kernel)
set_option maxRecDepth 20000 in
theorem gX8_ship_X8_isIn : GoodIn wsX8_ship (va_wsS RX8 103 yX8_isIn wsX8_isIn) := goodIn_app (goodIn_of _ (by decide +kernel)) ggX8_ship_X8_isIn
theorem dX8_ship_0 : decode cX8_ship 0 = .ok (.aload_n 0, 1) := by decide +kernel
theorem dX8_ship_1 : decode cX8_ship 1 = .ok (.aload_n 0, 1) := by decide +kernel
theorem dX8_ship_2 : decode cX8_ship 2 = .ok (.iload_n 1, 1) := by decide +kernel
theorem dX8_ship_3 : decode cX8_ship 3 = .ok (.invokevirtual 114, 3) := by decide +kernel
theorem dX8_ship_6 : decode cX8_ship 6 = .ok (.ifCond .ne 7, 3) := by decide +kernel
theorem dX8_ship_9 : decode cX8_ship 9 = .ok (.iconst 1, 1) := by decide +kernel
theorem dX8_ship_10 : decode cX8_ship 10 = .ok (.goto 32, 3) := by decide +kernel
theorem dX8_ship_13 : decode cX8_ship 13 = .ok (.iload_n 2, 1) := by decide +kernel
theorem dX8_ship_14 : decode cX8_ship 14 = .ok (.iconst 1, 1) := by decide +kernel
theorem dX8_ship_15 : decode cX8_ship 15 = .ok (.sipush 999, 3) := by decide +kernel
theorem dX8_ship_18 : decode cX8_ship 18 = .ok (.invokestatic 103, 3) := by decide +kernel
theorem dX8_ship_21 : decode cX8_ship 21 = .ok (.ifCond .ne 7, 3) := by decide +kernel
theorem dX8_ship_24 : decode cX8_ship 24 = .ok (.iconst 2, 1) := by decide +kernel
theorem dX8_ship_25 : decode cX8_ship 25 = .ok (.goto 17, 3) := by decide +kernel
theorem dX8_ship_28 : decode cX8_ship 28 = .ok (.aload_n 0, 1) := by decide +kernel
theorem dX8_ship_29 : decode cX8_ship 29 = .ok (.getfield 107, 3) := by decide +kernel
theorem dX8_ship_32 : decode cX8_ship 32 = .ok (.bipush 24, 2) := by decide +kernel
theorem dX8_ship_34 : decode cX8_ship 34 = .ok (.if_icmp .ne 7, 3) := by decide +kernel
theorem dX8_ship_37 : decode cX8_ship 37 = .ok (.iconst 3, 1) := by decide +kernel
theorem dX8_ship_38 : decode cX8_ship 38 = .ok (.goto 4, 3) := by decide +kernel
theorem dX8_ship_41 : decode cX8_ship 41 = .ok (.iconst 0, 1) := by decide +kernel
theorem dX8_ship_42 : decode cX8_ship 42 = .ok (.putfield 96, 3) := by decide +kernel
theorem dX8_ship_45 : decode cX8_ship 45 = .ok (.aload_n 0, 1) := by decide +kernel
theorem dX8_ship_46 : decode cX8_ship 46 = .ok (.getfield 96, 3) := by decide +kernel
theorem dX8_ship_49 : decode cX8_ship 49 = .ok (.ifCond .le 5, 3) := by decide +kernel
theorem dX8_ship_52 : decode cX8_ship 52 = .ok (.iconst 0, 1) := by decide +kernel
theorem dX8_ship_53 : decode cX8_ship 53 = .ok (.ireturn, 1) := by decide +kernel
theorem dX8_ship_54 : decode cX8_ship 54 = .ok (.aload_n 0, 1) := by decide +kernel
theorem dX8_ship_55 : decode cX8_ship 55 = .ok (.getfield 26, 3) := by decide +kernel
theorem dX8_ship_58 : decode cX8_ship 58 = .ok (.aload_n 0, 1) := by decide +kernel
theorem dX8_ship_59 : decode cX8_ship 59 = .ok (.getfield 107, 3) := by decide +kernel
theorem dX8_ship_62 : decode cX8_ship 62 = .ok (.iload_n 1, 1) := by decide +kernel
theorem dX8_ship_63 : decode cX8_ship 63 = .ok (.iastore, 1) := by decide +kernel
theorem dX8_ship_64 : decode cX8_ship 64 = .ok (.aload_n 0, 1) := by decide +kernel
theorem dX8_ship_65 : decode cX8_ship 65 = .ok (.getfield 29, 3) := by decide +kernel
theorem dX8_ship_68 : decode cX8_ship 68 = .ok (.aload_n 0, 1) := by decide +kernel
theorem dX8_ship_69 : decode cX8_ship 69 = .ok (.getfield 107, 3) := by decide +kernel
theorem dX8_ship_72 : decode cX8_ship 72 = .ok (.iload_n 2, 1) := by decide +kernel
theorem dX8_ship_73 : decode cX8_ship 73 = .ok (.iastore, 1) := by decide +kernel
theorem dX8_ship_74 : decode cX8_ship 74 = .ok (.aload_n 0, 1) := by decide +kernel
theorem dX8_ship_75 : decode cX8_ship 75 = .ok (.dup, 1) := by decide +kernel
theorem dX8_ship_76 : decode cX8_ship 76 = .ok (.getfield 107, 3) := by decide +kernel
theorem dX8_ship_79 : decode cX8_ship 79 = .ok (.iconst 1, 1) := by decide +kernel
theorem dX8_ship_80 : decode cX8_ship 80 = .ok (.iadd, 1) := by decide +kernel
theorem dX8_ship_81 : decode cX8_ship 81 = .ok (.putfield 107, 3) := by decide +kernel
theorem dX8_ship_84 : decode cX8_ship 84 = .ok (.aload_n 0, 1) := by decide +kernel
theorem dX8_ship_85 : decode cX8_ship 85 = .ok (.getfield 107, 3) := by decide +kernel
theorem dX8_ship_88 : decode cX8_ship 88 = .ok (.iconst 1, 1) := by decide +kernel
theorem dX8_ship_89 : decode cX8_ship 89 = .ok (.isub, 1) := by decide +kernel
theorem dX8_ship_90 : decode cX8_ship 90 = .ok (.ireturn, 1) := by decide +kernel
theorem dX8_open_0 : decode cX8_open 0 = .ok (.iconst (-1), 1) := by decide +kernel
theorem dX8_open_1 : decode cX8_open 1 = .ok (.istore_n 2, 1) := by decide +kernel
theorem dX8_open_2 : decode cX8_open 2 = .ok (.iconst 0, 1) := by decide +kernel
theorem dX8_open_3 : decode cX8_open 3 = .ok (.istore_n 3, 1) := by decide +kernel
theorem dX8_open_4 : decode cX8_open 4 = .ok (.iload_n 3, 1) := by decide +kernel
theorem dX8_open_5 : decode cX8_open 5 = .ok (.aload_n 0, 1) := by decide +kernel
theorem dX8_open_6 : decode cX8_open 6 = .ok (.getfield 118, 3) := by decide +kernel
theorem dX8_open_9 : decode cX8_open 9 = .ok (.if_icmp .ge 35, 3) := by decide +kernel
theorem dX8_open_12 : decode cX8_open 12 = .ok (.aload_n 0, 1) := by decide +kernel
theorem dX8_open_13 : decode cX8_open 13 = .ok (.getfield 32, 3) := by decide +kernel
theorem dX8_open_16 : decode cX8_open 16 = .ok (.iload_n 3, 1) := by decide +kernel
theorem dX8_open_17 : decode cX8_open 17 = .ok (.iaload, 1) := by decide +kernel
theorem dX8_open_18 : decode cX8_open 18 = .ok (.iload_n 1, 1) := by decide +kernel
theorem dX8_open_19 : decode cX8_open 19 = .ok (.if_icmp .ne 17, 3) := by decide +kernel
theorem dX8_open_22 : decode cX8_open 22 = .ok (.aload_n 0, 1) := by decide +kernel
theorem dX8_open_23 : decode cX8_open 23 = .ok (.getfield 38, 3) := by decide +kernel
theorem dX8_open_26 : decode cX8_open 26 = .ok (.iload_n 3, 1) := by decide +kernel
theorem dX8_open_27 : decode cX8_open 27 = .ok (.iaload, 1) := by decide +kernel
theorem dX8_open_28 : decode cX8_open 28 = .ok (.iconst (-1), 1) := by decide +kernel
theorem dX8_open_29 : decode cX8_open 29 = .ok (.if_icmp .ne 7, 3) := by decide +kernel
theorem dX8_open_32 : decode cX8_open 32 = .ok (.iload_n 3, 1) := by decide +kernel
theorem dX8_open_33 : decode cX8_open 33 = .ok (.goto 4, 3) := by decide +kernel
theorem dX8_open_36 : decode cX8_open 36 = .ok (.iload_n 2, 1) := by decide +kernel
theorem dX8_open_37 : decode cX8_open 37 = .ok (.istore_n 2, 1) := by decide +kernel
theorem dX8_open_38 : decode cX8_open 38 = .ok (.iinc 3 1, 3) := by decide +kernel
theorem dX8_open_41 : decode cX8_open 41 = .ok (.goto (-37), 3) := by decide +kernel
theorem dX8_open_44 : decode cX8_open 44 = .ok (.iload_n 2, 1) := by decide +kernel
theorem dX8_open_45 : decode cX8_open 45 = .ok (.ireturn, 1) := by decide +kernel
set_option maxRecDepth 20000 in
theorem ggX8_enter_X8_isShip : GoodIn wsX8_enter wsX8_isShip := goodIn_r _ [13, 14, 15, 16, 12, 17, 22, 23, 24, 25, 26, 27, 28, 29, 30, 31, 32, 33, 34, 35, 36, 37, 38, 39, 40, 41, 42, 43, 44, 45, 46, 47, 48, 49, 50, 51, 52, 53, 54, 55, 56, 57, 58] (by decide +kernel) (by decide +kernel)
set_option maxRecDepth 20000 in
theorem gX8_enter_X8_isShip : GoodIn wsX8_enter (wsV RX8 121 RX8 yX8_isShip wsX8_isShip) := goodIn_app (goodIn_of _ (by decide +kernel)) ggX8_enter_X8_isShip
set_option maxRecDepth 20000 in
theorem ggX8_enter_X8_open : GoodIn wsX8_enter wsX8_open := goodIn_r _ [21, 4, 6, 8, 22, 23, 24, 25, 26, 27, 28, 29, 30, 31, 32, 33, 34, 35, 36, 37, 38, 39, 40, 41, 42, 43, 44, 45, 46, 47, 48, 49, 50, 51, 52, 53, 54, 55, 56, 57, 58] (by decide +kernel) (by decide +kernel)
set_option maxRecDepth 20000 in
theorem gX8_enter_X8_open : GoodIn wsX8_enter (wsV RX8 124 RX8 yX8_open wsX8_open) := goodIn_app (goodIn_of _ (by decide +kernel)) ggX8_enter_X8_open
theorem dX8_enter_0 : decode cX8_enter 0 = .ok (.aload_n 0, 1) := by decide +kernel
theorem dX8_enter_1 : decode cX8_enter 1 = .ok (.iload_n 1, 1) := by decide +kernel
theorem dX8_enter_2 : decode cX8_enter 2 = .ok (.invokevirtual 121, 3) := by decide +kernel
theorem dX8_enter_5 : decode cX8_enter 5 = .ok (.istore_n 2, 1) := by decide +kernel
theorem dX8_enter_6 : decode cX8_enter 6 = .ok (.iload_n 2, 1) := by decide +kernel
theorem dX8_enter_7 : decode cX8_enter 7 = .ok (.ifCond .eq 51, 3) := by decide +kernel
theorem dX8_enter_10 : decode cX8_enter 10 = .ok (.aload_n 0, 1) := by decide +kernel
theorem dX8_enter_11 : decode cX8_enter 11 = .ok (.iload_n 1, 1) := by decide +kernel
theorem dX8_enter_12 : decode cX8_enter 12 = .ok (.invokevirtual 124, 3) := by decide +kernel
theorem dX8_enter_15 : decode cX8_enter 15 = .ok (.iconst (-1), 1) := by decide +kernel
theorem dX8_enter_16 : decode cX8_enter 16 = .ok (.if_icmp .ne 42, 3) := by decide +kernel
theorem dX8_enter_19 : decode cX8_enter 19 = .ok (.aload_n 0, 1) := by decide +kernel
theorem dX8_enter_20 : decode cX8_enter 20 = .ok (.getfield 20, 3) := by decide +kernel
theorem dX8_enter_23 : decode cX8_enter 23 = .ok (.bipush 20, 2) := by decide +kernel
theorem dX8_enter_25 : decode cX8_enter 25 = .ok (.aload_n 0, 1) := by decide +kernel
theorem dX8_enter_26 : decode cX8_enter 26 = .ok (.getfield 26, 3) := by decide +kernel
theorem dX8_enter_29 : decode cX8_enter 29 = .ok (.iload_n 1, 1) := by decide +kernel
theorem dX8_enter_30 : decode cX8_enter 30 = .ok (.iaload, 1) := by decide +kernel
theorem dX8_enter_31 : decode cX8_enter 31 = .ok (.imul, 1) := by decide +kernel
theorem dX8_enter_32 : decode cX8_enter 32 = .ok (.aload_n 0, 1) := by decide +kernel
theorem dX8_enter_33 : decode cX8_enter 33 = .ok (.getfield 128, 3) := by decide +kernel
theorem dX8_enter_36 : decode cX8_enter 36 = .ok (.bipush 100, 2) := by decide +kernel
theorem dX8_enter_38 : decode cX8_enter 38 = .ok (.idiv, 1) := by decide +kernel
theorem dX8_enter_39 : decode cX8_enter 39 = .ok (.iadd, 1) := by decide +kernel
theorem dX8_enter_40 : decode cX8_enter 40 = .ok (.iaload, 1) := by decide +kernel
theorem dX8_enter_41 : decode cX8_enter 41 = .ok (.iconst 1, 1) := by decide +kernel
theorem dX8_enter_42 : decode cX8_enter 42 = .ok (.if_icmp .eq 16, 3) := by decide +kernel
theorem dX8_enter_45 : decode cX8_enter 45 = .ok (.aload_n 0, 1) := by decide +kernel
theorem dX8_enter_46 : decode cX8_enter 46 = .ok (.getfield 118, 3) := by decide +kernel
theorem dX8_enter_49 : decode cX8_enter 49 = .ok (.bipush 60, 2) := by decide +kernel
theorem dX8_enter_51 : decode cX8_enter 51 = .ok (.if_icmp .ge 7, 3) := by decide +kernel
theorem dX8_enter_54 : decode cX8_enter 54 = .ok (.iconst 1, 1) := by decide +kernel
theorem dX8_enter_55 : decode cX8_enter 55 = .ok (.goto 4, 3) := by decide +kernel
theorem dX8_enter_58 : decode cX8_enter 58 = .ok (.iconst 0, 1) := by decide +kernel
theorem dX8_enter_59 : decode cX8_enter 59 = .ok (.istore_n 3, 1) := by decide +kernel
theorem dX8_enter_60 : decode cX8_enter 60 = .ok (.aload_n 0, 1) := by decide +kernel
theorem dX8_enter_61 : decode cX8_enter 61 = .ok (.iload_n 2, 1) := by decide +kernel
theorem dX8_enter_62 : decode cX8_enter 62 = .ok (.ifCond .ne 7, 3) := by decide +kernel
theorem dX8_enter_65 : decode cX8_enter 65 = .ok (.iconst 1, 1) := by decide +kernel
theorem dX8_enter_66 : decode cX8_enter 66 = .ok (.goto 12, 3) := by decide +kernel
theorem dX8_enter_69 : decode cX8_enter 69 = .ok (.iload_n 3, 1) := by decide +kernel
theorem dX8_enter_70 : decode cX8_enter 70 = .ok (.ifCond .ne 7, 3) := by decide +kernel
theorem dX8_enter_73 : decode cX8_enter 73 = .ok (.iconst 2, 1) := by decide +kernel
theorem dX8_enter_74 : decode cX8_enter 74 = .ok (.goto 4, 3) := by decide +kernel
theorem dX8_enter_77 : decode cX8_enter 77 = .ok (.iconst 0, 1) := by decide +kernel
theorem dX8_enter_78 : decode cX8_enter 78 = .ok (.putfield 96, 3) := by decide +kernel
theorem dX8_enter_81 : decode cX8_enter 81 = .ok (.aload_n 0, 1) := by decide +kernel
theorem dX8_enter_82 : decode cX8_enter 82 = .ok (.getfield 96, 3) := by decide +kernel
theorem dX8_enter_85 : decode cX8_enter 85 = .ok (.ifCond .ne 46, 3) := by decide +kernel
theorem dX8_enter_88 : decode cX8_enter 88 = .ok (.aload_n 0, 1) := by decide +kernel
theorem dX8_enter_89 : decode cX8_enter 89 = .ok (.getfield 32, 3) := by decide +kernel
theorem dX8_enter_92 : decode cX8_enter 92 = .ok (.aload_n 0, 1) := by decide +kernel
theorem dX8_enter_93 : decode cX8_enter 93 = .ok (.getfield 118, 3) := by decide +kernel
theorem dX8_enter_96 : decode cX8_enter 96 = .ok (.iload_n 1, 1) := by decide +kernel
theorem dX8_enter_97 : decode cX8_enter 97 = .ok (.iastore, 1) := by decide +kernel
theorem dX8_enter_98 : decode cX8_enter 98 = .ok (.aload_n 0, 1) := by decide +kernel
theorem dX8_enter_99 : decode cX8_enter 99 = .ok (.getfield 35, 3) := by decide +kernel
theorem dX8_enter_102 : decode cX8_enter 102 = .ok (.aload_n 0, 1) := by decide +kernel
theorem dX8_enter_103 : decode cX8_enter 103 = .ok (.getfield 118, 3) := by decide +kernel
theorem dX8_enter_106 : decode cX8_enter 106 = .ok (.aload_n 0, 1) := by decide +kernel
theorem dX8_enter_107 : decode cX8_enter 107 = .ok (.getfield 128, 3) := by decide +kernel
theorem dX8_enter_110 : decode cX8_enter 110 = .ok (.iastore, 1) := by decide +kernel
theorem dX8_enter_111 : decode cX8_enter 111 = .ok (.aload_n 0, 1) := by decide +kernel
theorem dX8_enter_112 : decode cX8_enter 112 = .ok (.getfield 38, 3) := by decide +kernel
theorem dX8_enter_115 : decode cX8_enter 115 = .ok (.aload_n 0, 1) := by decide +kernel
theorem dX8_enter_116 : decode cX8_enter 116 = .ok (.getfield 118, 3) := by decide +kernel
theorem dX8_enter_119 : decode cX8_enter 119 = .ok (.iconst (-1), 1) := by decide +kernel
theorem dX8_enter_120 : decode cX8_enter 120 = .ok (.iastore, 1) := by decide +kernel
theorem dX8_enter_121 : decode cX8_enter 121 = .ok (.aload_n 0, 1) := by decide +kernel
theorem dX8_enter_122 : decode cX8_enter 122 = .ok (.dup, 1) := by decide +kernel
theorem dX8_enter_123 : decode cX8_enter 123 = .ok (.getfield 118, 3) := by decide +kernel
theorem dX8_enter_126 : decode cX8_enter 126 = .ok (.iconst 1, 1) := by decide +kernel
theorem dX8_enter_127 : decode cX8_enter 127 = .ok (.iadd, 1) := by decide +kernel
theorem dX8_enter_128 : decode cX8_enter 128 = .ok (.putfield 118, 3) := by decide +kernel
theorem dX8_enter_131 : decode cX8_enter 131 = .ok (.return_, 1) := by decide +kernel
set_option maxRecDepth 20000 in
theorem ggX8_leave_X8_isShip : GoodIn wsX8_leave wsX8_isShip := goodIn_r _ [9, 10, 11, 12, 8, 13, 20, 21, 22, 23, 24, 25, 26, 27, 28, 29, 30, 31, 32, 33, 34, 35, 36, 37, 38, 39, 40, 41, 42, 43, 44, 45, 46, 47, 48, 49, 50, 51, 52, 53, 54, 55, 56] (by decide +kernel) (by decide +kernel)
set_option maxRecDepth 20000 in
theorem gX8_leave_X8_isShip : GoodIn wsX8_leave (wsV RX8 121 RX8 yX8_isShip wsX8_isShip) := goodIn_app (goodIn_of _ (by decide +kernel)) ggX8_leave_X8_isShip
set_option maxRecDepth 20000 in
theorem ggX8_leave_X8_open : GoodIn wsX8_leave wsX8_open := goodIn_r _ [17, 18, 19, 2, 20, 21, 22, 23, 24, 25, 26, 27, 28, 29, 30, 31, 32, 33, 34, 35, 36, 37, 38, 39, 40, 41, 42, 43, 44, 45, 46, 47, 48, 49, 50, 51, 52, 53, 54, 55, 56] (by decide +kernel) (by decide +kernel)
set_option maxRecDepth 20000 in
theorem gX8_leave_X8_open : GoodIn wsX8_leave (wsV RX8 124 RX8 yX8_open wsX8_open) := goodIn_app (goodIn_of _ (by decide +kernel)) ggX8_leave_X8_open
theorem dX8_leave_0 : decode cX8_leave 0 = .ok (.aload_n 0, 1) := by decide +kernel
theorem dX8_leave_1 : decode cX8_leave 1 = .ok (.iload_n 1, 1) := by decide +kernel
theorem dX8_leave_2 : decode cX8_leave 2 = .ok (.invokevirtual 121, 3) := by decide +kernel
theorem dX8_leave_5 : decode cX8_leave 5 = .ok (.istore_n 2, 1) := by decide +kernel
theorem dX8_leave_6 : decode cX8_leave 6 = .ok (.iload_n 2, 1) := by decide +kernel
theorem dX8_leave_7 : decode cX8_leave 7 = .ok (.ifCond .eq 11, 3) := by decide +kernel
theorem dX8_leave_10 : decode cX8_leave 10 = .ok (.aload_n 0, 1) := by decide +kernel
theorem dX8_leave_11 : decode cX8_leave 11 = .ok (.iload_n 1, 1) := by decide +kernel
theorem dX8_leave_12 : decode cX8_leave 12 = .ok (.invokevirtual 124, 3) := by decide +kernel
theorem dX8_leave_15 : decode cX8_leave 15 = .ok (.goto 4, 3) := by decide +kernel
theorem dX8_leave_18 : decode cX8_leave 18 = .ok (.iconst (-1), 1) := by decide +kernel
theorem dX8_leave_19 : decode cX8_leave 19 = .ok (.istore_n 3, 1) := by decide +kernel
theorem dX8_leave_20 : decode cX8_leave 20 = .ok (.aload_n 0, 1) := by decide +kernel
theorem dX8_leave_21 : decode cX8_leave 21 = .ok (.iload_n 2, 1) := by decide +kernel
theorem dX8_leave_22 : decode cX8_leave 22 = .ok (.ifCond .ne 7, 3) := by decide +kernel
theorem dX8_leave_25 : decode cX8_leave 25 = .ok (.iconst 1, 1) := by decide +kernel
theorem dX8_leave_26 : decode cX8_leave 26 = .ok (.goto 13, 3) := by decide +kernel
theorem dX8_leave_29 : decode cX8_leave 29 = .ok (.iload_n 3, 1) := by decide +kernel
theorem dX8_leave_30 : decode cX8_leave 30 = .ok (.iconst (-1), 1) := by decide +kernel
theorem dX8_leave_31 : decode cX8_leave 31 = .ok (.if_icmp .ne 7, 3) := by decide +kernel
theorem dX8_leave_34 : decode cX8_leave 34 = .ok (.iconst 2, 1) := by decide +kernel
theorem dX8_leave_35 : decode cX8_leave 35 = .ok (.goto 4, 3) := by decide +kernel
theorem dX8_leave_38 : decode cX8_leave 38 = .ok (.iconst 0, 1) := by decide +kernel
theorem dX8_leave_39 : decode cX8_leave 39 = .ok (.putfield 96, 3) := by decide +kernel
theorem dX8_leave_42 : decode cX8_leave 42 = .ok (.aload_n 0, 1) := by decide +kernel
theorem dX8_leave_43 : decode cX8_leave 43 = .ok (.getfield 96, 3) := by decide +kernel
theorem dX8_leave_46 : decode cX8_leave 46 = .ok (.ifCond .le 5, 3) := by decide +kernel
theorem dX8_leave_49 : decode cX8_leave 49 = .ok (.iconst 0, 1) := by decide +kernel
theorem dX8_leave_50 : decode cX8_leave 50 = .ok (.ireturn, 1) := by decide +kernel
theorem dX8_leave_51 : decode cX8_leave 51 = .ok (.aload_n 0, 1) := by decide +kernel
theorem dX8_leave_52 : decode cX8_leave 52 = .ok (.getfield 38, 3) := by decide +kernel
theorem dX8_leave_55 : decode cX8_leave 55 = .ok (.iload_n 3, 1) := by decide +kernel
theorem dX8_leave_56 : decode cX8_leave 56 = .ok (.aload_n 0, 1) := by decide +kernel
theorem dX8_leave_57 : decode cX8_leave 57 = .ok (.getfield 128, 3) := by decide +kernel
theorem dX8_leave_60 : decode cX8_leave 60 = .ok (.iastore, 1) := by decide +kernel
theorem dX8_leave_61 : decode cX8_leave 61 = .ok (.aload_n 0, 1) := by decide +kernel
theorem dX8_leave_62 : decode cX8_leave 62 = .ok (.getfield 128, 3) := by decide +kernel
theorem dX8_leave_65 : decode cX8_leave 65 = .ok (.aload_n 0, 1) := by decide +kernel
theorem dX8_leave_66 : decode cX8_leave 66 = .ok (.getfield 35, 3) := by decide +kernel
theorem dX8_leave_69 : decode cX8_leave 69 = .ok (.iload_n 3, 1) := by decide +kernel
theorem dX8_leave_70 : decode cX8_leave 70 = .ok (.iaload, 1) := by decide +kernel
theorem dX8_leave_71 : decode cX8_leave 71 = .ok (.isub, 1) := by decide +kernel
theorem dX8_leave_72 : decode cX8_leave 72 = .ok (.ireturn, 1) := by decide +kernel
set_option maxRecDepth 20000 in
theorem ggX8_pass_X8_isIn : GoodIn wsX8_pass wsX8_isIn := goodIn_r _ [6] (by decide +kernel) (by decide +kernel)
set_option maxRecDepth 20000 in
theorem gX8_pass_X8_isIn : GoodIn wsX8_pass (va_wsS RX8 103 yX8_isIn wsX8_isIn) := goodIn_app (goodIn_of _ (by decide +kernel)) ggX8_pass_X8_isIn
theorem dX8_pass_0 : decode cX8_pass 0 = .ok (.aload_n 0, 1) := by decide +kernel
theorem dX8_pass_1 : decode cX8_pass 1 = .ok (.iload_n 1, 1) := by decide +kernel
theorem dX8_pass_2 : decode cX8_pass 2 = .ok (.iconst 1, 1) := by decide +kernel
theorem dX8_pass_3 : decode cX8_pass 3 = .ok (.sipush 200, 3) := by decide +kernel
theorem dX8_pass_6 : decode cX8_pass 6 = .ok (.invokestatic 103, 3) := by decide +kernel
theorem dX8_pass_9 : decode cX8_pass 9 = .ok (.ifCond .ne 7, 3) := by decide +kernel
theorem dX8_pass_12 : decode cX8_pass 12 = .ok (.iconst 1, 1) := by decide +kernel
theorem dX8_pass_13 : decode cX8_pass 13 = .ok (.goto 20, 3) := by decide +kernel
theorem dX8_pass_16 : decode cX8_pass 16 = .ok (.aload_n 0, 1) := by decide +kernel
theorem dX8_pass_17 : decode cX8_pass 17 = .ok (.getfield 128, 3) := by decide +kernel
theorem dX8_pass_20 : decode cX8_pass 20 = .ok (.iload_n 1, 1) := by decide +kernel
theorem dX8_pass_21 : decode cX8_pass 21 = .ok (.iadd, 1) := by decide +kernel
theorem dX8_pass_22 : decode cX8_pass 22 = .ok (.sipush 1999, 3) := by decide +kernel
theorem dX8_pass_25 : decode cX8_pass 25 = .ok (.if_icmp .le 7, 3) := by decide +kernel
theorem dX8_pass_28 : decode cX8_pass 28 = .ok (.iconst 2, 1) := by decide +kernel
theorem dX8_pass_29 : decode cX8_pass 29 = .ok (.goto 4, 3) := by decide +kernel
theorem dX8_pass_32 : decode cX8_pass 32 = .ok (.iconst 0, 1) := by decide +kernel
theorem dX8_pass_33 : decode cX8_pass 33 = .ok (.putfield 96, 3) := by decide +kernel
theorem dX8_pass_36 : decode cX8_pass 36 = .ok (.aload_n 0, 1) := by decide +kernel
theorem dX8_pass_37 : decode cX8_pass 37 = .ok (.getfield 96, 3) := by decide +kernel
theorem dX8_pass_40 : decode cX8_pass 40 = .ok (.ifCond .le 5, 3) := by decide +kernel
theorem dX8_pass_43 : decode cX8_pass 43 = .ok (.iconst 0, 1) := by decide +kernel
theorem dX8_pass_44 : decode cX8_pass 44 = .ok (.ireturn, 1) := by decide +kernel
theorem dX8_pass_45 : decode cX8_pass 45 = .ok (.aload_n 0, 1) := by decide +kernel
theorem dX8_pass_46 : decode cX8_pass 46 = .ok (.dup, 1) := by decide +kernel
theorem dX8_pass_47 : decode cX8_pass 47 = .ok (.getfield 128, 3) := by decide +kernel
theorem dX8_pass_50 : decode cX8_pass 50 = .ok (.iload_n 1, 1) := by decide +kernel
theorem dX8_pass_51 : decode cX8_pass 51 = .ok (.iadd, 1) := by decide +kernel
theorem dX8_pass_52 : decode cX8_pass 52 = .ok (.putfield 128, 3) := by decide +kernel
theorem dX8_pass_55 : decode cX8_pass 55 = .ok (.aload_n 0, 1) := by decide +kernel
theorem dX8_pass_56 : decode cX8_pass 56 = .ok (.getfield 128, 3) := by decide +kernel
theorem dX8_pass_59 : decode cX8_pass 59 = .ok (.ireturn, 1) := by decide +kernel
theorem dX8_day_0 : decode cX8_day 0 = .ok (.aload_n 0, 1) := by decide +kernel
theorem dX8_day_1 : decode cX8_day 1 = .ok (.iconst 0, 1) := by decide +kernel
theorem dX8_day_2 : decode cX8_day 2 = .ok (.putfield 96, 3) := by decide +kernel
theorem dX8_day_5 : decode cX8_day 5 = .ok (.aload_n 0, 1) := by decide +kernel
theorem dX8_day_6 : decode cX8_day 6 = .ok (.getfield 128, 3) := by decide +kernel
theorem dX8_day_9 : decode cX8_day 9 = .ok (.ireturn, 1) := by decide +kernel
set_option maxRecDepth 20000 in
theorem ggX8_rate_X8_isMember : GoodIn wsX8_rate wsX8_isMember := goodIn_r _ [9, 10, 11, 12, 8, 13, 17, 18, 19, 20, 21, 22, 23, 24, 25, 26, 27, 28, 29, 30, 31, 32, 33, 34, 35, 36, 37, 38, 39, 40, 41, 42, 43, 44, 45, 46, 47, 48, 49, 50, 51, 52, 53] (by decide +kernel) (by decide +kernel)
set_option maxRecDepth 20000 in
theorem gX8_rate_X8_isMember : GoodIn wsX8_rate (wsV RX8 114 RX8 yX8_isMember wsX8_isMember) := goodIn_app (goodIn_of _ (by decide +kernel)) ggX8_rate_X8_isMember
set_option maxRecDepth 20000 in
theorem ggX8_rate_X8_isYear : GoodIn wsX8_rate wsX8_isYear := goodIn_r _ [16, 11, 12, 8, 13] (by decide +kernel) (by decide +kernel)
set_option maxRecDepth 20000 in
theorem gX8_rate_X8_isYear : GoodIn wsX8_rate (va_wsS RX8 131 yX8_isYear wsX8_isYear) := goodIn_app (goodIn_of _ (by decide +kernel)) ggX8_rate_X8_isYear
set_option maxRecDepth 20000 in
theorem ggX8_rate_X8_isIn : GoodIn wsX8_rate wsX8_isIn := goodIn_r _ [13] (by decide +kernel) (by decide +kernel)
set_option maxRecDepth 20000 in
theorem gX8_rate_X8_isIn : GoodIn wsX8_rate (va_wsS RX8 103 yX8_isIn wsX8_isIn) := goodIn_app (goodIn_of _ (by decide +kernel)) ggX8_rate_X8_isIn
theorem dX8_rate_0 : decode cX8_rate 0 = .ok (.aload_n 0, 1) := by decide +kernel
theorem dX8_rate_1 : decode cX8_rate 1 = .ok (.iload_n 1, 1) := by decide +kernel
theorem dX8_rate_2 : decode cX8_rate 2 = .ok (.invokevirtual 114, 3) := by decide +kernel
theorem dX8_rate_5 : decode cX8_rate 5 = .ok (.istore 4, 2) := by decide +kernel
theorem dX8_rate_7 : decode cX8_rate 7 = .ok (.iload_n 2, 1) := by decide +kernel
theorem dX8_rate_8 : decode cX8_rate 8 = .ok (.invokestatic 131, 3) := by decide +kernel
theorem dX8_rate_11 : decode cX8_rate 11 = .ok (.ifCond .eq 19, 3) := by decide +kernel
theorem dX8_rate_14 : decode cX8_rate 14 = .ok (.iload_n 3, 1) := by decide +kernel
theorem dX8_rate_15 : decode cX8_rate 15 = .ok (.bipush 10, 2) := by decide +kernel
theorem dX8_rate_17 : decode cX8_rate 17 = .ok (.sipush 500, 3) := by decide +kernel
theorem dX8_rate_20 : decode cX8_rate 20 = .ok (.invokestatic 103, 3) := by decide +kernel
theorem dX8_rate_23 : decode cX8_rate 23 = .ok (.ifCond .eq 7, 3) := by decide +kernel
theorem dX8_rate_26 : decode cX8_rate 26 = .ok (.iconst 1, 1) := by decide +kernel
theorem dX8_rate_27 : decode cX8_rate 27 = .ok (.goto 4, 3) := by decide +kernel
theorem dX8_rate_30 : decode cX8_rate 30 = .ok (.iconst 0, 1) := by decide +kernel
theorem dX8_rate_31 : decode cX8_rate 31 = .ok (.istore 5, 2) := by decide +kernel
theorem dX8_rate_33 : decode cX8_rate 33 = .ok (.aload_n 0, 1) := by decide +kernel
theorem dX8_rate_34 : decode cX8_rate 34 = .ok (.iload 4, 2) := by decide +kernel
theorem dX8_rate_36 : decode cX8_rate 36 = .ok (.ifCond .ne 7, 3) := by decide +kernel
theorem dX8_rate_39 : decode cX8_rate 39 = .ok (.iconst 1, 1) := by decide +kernel
theorem dX8_rate_40 : decode cX8_rate 40 = .ok (.goto 40, 3) := by decide +kernel
theorem dX8_rate_43 : decode cX8_rate 43 = .ok (.iload 5, 2) := by decide +kernel
theorem dX8_rate_45 : decode cX8_rate 45 = .ok (.ifCond .ne 7, 3) := by decide +kernel
theorem dX8_rate_48 : decode cX8_rate 48 = .ok (.iconst 2, 1) := by decide +kernel
theorem dX8_rate_49 : decode cX8_rate 49 = .ok (.goto 31, 3) := by decide +kernel
theorem dX8_rate_52 : decode cX8_rate 52 = .ok (.aload_n 0, 1) := by decide +kernel
theorem dX8_rate_53 : decode cX8_rate 53 = .ok (.getfield 20, 3) := by decide +kernel
theorem dX8_rate_56 : decode cX8_rate 56 = .ok (.bipush 20, 2) := by decide +kernel
theorem dX8_rate_58 : decode cX8_rate 58 = .ok (.iload_n 1, 1) := by decide +kernel
theorem dX8_rate_59 : decode cX8_rate 59 = .ok (.imul, 1) := by decide +kernel
theorem dX8_rate_60 : decode cX8_rate 60 = .ok (.iload_n 2, 1) := by decide +kernel
theorem dX8_rate_61 : decode cX8_rate 61 = .ok (.iadd, 1) := by decide +kernel
theorem dX8_rate_62 : decode cX8_rate 62 = .ok (.iaload, 1) := by decide +kernel
theorem dX8_rate_63 : decode cX8_rate 63 = .ok (.iconst 1, 1) := by decide +kernel
theorem dX8_rate_64 : decode cX8_rate 64 = .ok (.if_icmp .eq 11, 3) := by decide +kernel
theorem dX8_rate_67 : decode cX8_rate 67 = .ok (.iload_n 2, 1) := by decide +kernel
theorem dX8_rate_68 : decode cX8_rate 68 = .ok (.aload_n 0, 1) := by decide +kernel
theorem dX8_rate_69 : decode cX8_rate 69 = .ok (.getfield 134, 3) := by decide +kernel
theorem dX8_rate_72 : decode cX8_rate 72 = .ok (.if_icmp .ge 7, 3) := by decide +kernel
theorem dX8_rate_75 : decode cX8_rate 75 = .ok (.iconst 3, 1) := by decide +kernel
theorem dX8_rate_76 : decode cX8_rate 76 = .ok (.goto 4, 3) := by decide +kernel
theorem dX8_rate_79 : decode cX8_rate 79 = .ok (.iconst 0, 1) := by decide +kernel
theorem dX8_rate_80 : decode cX8_rate 80 = .ok (.putfield 96, 3) := by decide +kernel
theorem dX8_rate_83 : decode cX8_rate 83 = .ok (.aload_n 0, 1) := by decide +kernel
theorem dX8_rate_84 : decode cX8_rate 84 = .ok (.getfield 96, 3) := by decide +kernel
theorem dX8_rate_87 : decode cX8_rate 87 = .ok (.ifCond .le 5, 3) := by decide +kernel
theorem dX8_rate_90 : decode cX8_rate 90 = .ok (.iconst 0, 1) := by decide +kernel
theorem dX8_rate_91 : decode cX8_rate 91 = .ok (.ireturn, 1) := by decide +kernel
theorem dX8_rate_92 : decode cX8_rate 92 = .ok (.aload_n 0, 1) := by decide +kernel
theorem dX8_rate_93 : decode cX8_rate 93 = .ok (.getfield 7, 3) := by decide +kernel
theorem dX8_rate_96 : decode cX8_rate 96 = .ok (.bipush 20, 2) := by decide +kernel
theorem dX8_rate_98 : decode cX8_rate 98 = .ok (.iload_n 1, 1) := by decide +kernel
theorem dX8_rate_99 : decode cX8_rate 99 = .ok (.imul, 1) := by decide +kernel
theorem dX8_rate_100 : decode cX8_rate 100 = .ok (.iload_n 2, 1) := by decide +kernel
theorem dX8_rate_101 : decode cX8_rate 101 = .ok (.iadd, 1) := by decide +kernel
theorem dX8_rate_102 : decode cX8_rate 102 = .ok (.iaload, 1) := by decide +kernel
theorem dX8_rate_103 : decode cX8_rate 103 = .ok (.istore 6, 2) := by decide +kernel
theorem dX8_rate_105 : decode cX8_rate 105 = .ok (.aload_n 0, 1) := by decide +kernel
theorem dX8_rate_106 : decode cX8_rate 106 = .ok (.getfield 7, 3) := by decide +kernel
theorem dX8_rate_109 : decode cX8_rate 109 = .ok (.bipush 20, 2) := by decide +kernel
theorem dX8_rate_111 : decode cX8_rate 111 = .ok (.iload_n 1, 1) := by decide +kernel
theorem dX8_rate_112 : decode cX8_rate 112 = .ok (.imul, 1) := by decide +kernel
theorem dX8_rate_113 : decode cX8_rate 113 = .ok (.iload_n 2, 1) := by decide +kernel
theorem dX8_rate_114 : decode cX8_rate 114 = .ok (.iadd, 1) := by decide +kernel
theorem dX8_rate_115 : decode cX8_rate 115 = .ok (.iload_n 3, 1) := by decide +kernel
theorem dX8_rate_116 : decode cX8_rate 116 = .ok (.iastore, 1) := by decide +kernel
theorem dX8_rate_117 : decode cX8_rate 117 = .ok (.iload 6, 2) := by decide +kernel
theorem dX8_rate_119 : decode cX8_rate 119 = .ok (.ireturn, 1) := by decide +kernel
theorem dX8_weightOf_0 : decode cX8_weightOf 0 = .ok (.lconst 0, 1) := by decide +kernel
theorem dX8_weightOf_1 : decode cX8_weightOf 1 = .ok (.lstore_n 3, 1) := by decide +kernel
theorem dX8_weightOf_2 : decode cX8_weightOf 2 = .ok (.iconst 0, 1) := by decide +kernel
theorem dX8_weightOf_3 : decode cX8_weightOf 3 = .ok (.istore 5, 2) := by decide +kernel
theorem dX8_weightOf_5 : decode cX8_weightOf 5 = .ok (.iload 5, 2) := by decide +kernel
theorem dX8_weightOf_7 : decode cX8_weightOf 7 = .ok (.aload_n 0, 1) := by decide +kernel
theorem dX8_weightOf_8 : decode cX8_weightOf 8 = .ok (.getfield 118, 3) := by decide +kernel
theorem dX8_weightOf_11 : decode cX8_weightOf 11 = .ok (.if_icmp .ge 147, 3) := by decide +kernel
theorem dX8_weightOf_14 : decode cX8_weightOf 14 = .ok (.aload_n 0, 1) := by decide +kernel
theorem dX8_weightOf_15 : decode cX8_weightOf 15 = .ok (.getfield 35, 3) := by decide +kernel
theorem dX8_weightOf_18 : decode cX8_weightOf 18 = .ok (.iload 5, 2) := by decide +kernel
theorem dX8_weightOf_20 : decode cX8_weightOf 20 = .ok (.iaload, 1) := by decide +kernel
theorem dX8_weightOf_21 : decode cX8_weightOf 21 = .ok (.bipush 100, 2) := by decide +kernel
theorem dX8_weightOf_23 : decode cX8_weightOf 23 = .ok (.iload_n 2, 1) := by decide +kernel
theorem dX8_weightOf_24 : decode cX8_weightOf 24 = .ok (.imul, 1) := by decide +kernel
theorem dX8_weightOf_25 : decode cX8_weightOf 25 = .ok (.if_icmp .le 13, 3) := by decide +kernel
theorem dX8_weightOf_28 : decode cX8_weightOf 28 = .ok (.aload_n 0, 1) := by decide +kernel
theorem dX8_weightOf_29 : decode cX8_weightOf 29 = .ok (.getfield 35, 3) := by decide +kernel
theorem dX8_weightOf_32 : decode cX8_weightOf 32 = .ok (.iload 5, 2) := by decide +kernel
theorem dX8_weightOf_34 : decode cX8_weightOf 34 = .ok (.iaload, 1) := by decide +kernel
theorem dX8_weightOf_35 : decode cX8_weightOf 35 = .ok (.goto 7, 3) := by decide +kernel
theorem dX8_weightOf_38 : decode cX8_weightOf 38 = .ok (.bipush 100, 2) := by decide +kernel
theorem dX8_weightOf_40 : decode cX8_weightOf 40 = .ok (.iload_n 2, 1) := by decide +kernel
theorem dX8_weightOf_41 : decode cX8_weightOf 41 = .ok (.imul, 1) := by decide +kernel
theorem dX8_weightOf_42 : decode cX8_weightOf 42 = .ok (.istore 6, 2) := by decide +kernel
theorem dX8_weightOf_44 : decode cX8_weightOf 44 = .ok (.bipush 100, 2) := by decide +kernel
theorem dX8_weightOf_46 : decode cX8_weightOf 46 = .ok (.iload_n 2, 1) := by decide +kernel
theorem dX8_weightOf_47 : decode cX8_weightOf 47 = .ok (.imul, 1) := by decide +kernel
theorem dX8_weightOf_48 : decode cX8_weightOf 48 = .ok (.bipush 100, 2) := by decide +kernel
theorem dX8_weightOf_50 : decode cX8_weightOf 50 = .ok (.iadd, 1) := by decide +kernel
theorem dX8_weightOf_51 : decode cX8_weightOf 51 = .ok (.istore 7, 2) := by decide +kernel
theorem dX8_weightOf_53 : decode cX8_weightOf 53 = .ok (.aload_n 0, 1) := by decide +kernel
theorem dX8_weightOf_54 : decode cX8_weightOf 54 = .ok (.getfield 38, 3) := by decide +kernel
theorem dX8_weightOf_57 : decode cX8_weightOf 57 = .ok (.iload 5, 2) := by decide +kernel
theorem dX8_weightOf_59 : decode cX8_weightOf 59 = .ok (.iaload, 1) := by decide +kernel
theorem dX8_weightOf_60 : decode cX8_weightOf 60 = .ok (.iconst (-1), 1) := by decide +kernel
theorem dX8_weightOf_61 : decode cX8_weightOf 61 = .ok (.if_icmp .eq 25, 3) := by decide +kernel
theorem dX8_weightOf_64 : decode cX8_weightOf 64 = .ok (.aload_n 0, 1) := by decide +kernel
theorem dX8_weightOf_65 : decode cX8_weightOf 65 = .ok (.getfield 38, 3) := by decide +kernel
theorem dX8_weightOf_68 : decode cX8_weightOf 68 = .ok (.iload 5, 2) := by decide +kernel
theorem dX8_weightOf_70 : decode cX8_weightOf 70 = .ok (.iaload, 1) := by decide +kernel
theorem dX8_weightOf_71 : decode cX8_weightOf 71 = .ok (.iload 7, 2) := by decide +kernel
theorem dX8_weightOf_73 : decode cX8_weightOf 73 = .ok (.if_icmp .ge 13, 3) := by decide +kernel
theorem dX8_weightOf_76 : decode cX8_weightOf 76 = .ok (.aload_n 0, 1) := by decide +kernel
theorem dX8_weightOf_77 : decode cX8_weightOf 77 = .ok (.getfield 38, 3) := by decide +kernel
theorem dX8_weightOf_80 : decode cX8_weightOf 80 = .ok (.iload 5, 2) := by decide +kernel
theorem dX8_weightOf_82 : decode cX8_weightOf 82 = .ok (.iaload, 1) := by decide +kernel
theorem dX8_weightOf_83 : decode cX8_weightOf 83 = .ok (.goto 5, 3) := by decide +kernel
theorem dX8_weightOf_86 : decode cX8_weightOf 86 = .ok (.iload 7, 2) := by decide +kernel
theorem dX8_weightOf_88 : decode cX8_weightOf 88 = .ok (.istore 8, 2) := by decide +kernel
theorem dX8_weightOf_90 : decode cX8_weightOf 90 = .ok (.aload_n 0, 1) := by decide +kernel
theorem dX8_weightOf_91 : decode cX8_weightOf 91 = .ok (.getfield 26, 3) := by decide +kernel
theorem dX8_weightOf_94 : decode cX8_weightOf 94 = .ok (.aload_n 0, 1) := by decide +kernel
theorem dX8_weightOf_95 : decode cX8_weightOf 95 = .ok (.getfield 32, 3) := by decide +kernel
theorem dX8_weightOf_98 : decode cX8_weightOf 98 = .ok (.iload 5, 2) := by decide +kernel
theorem dX8_weightOf_100 : decode cX8_weightOf 100 = .ok (.iaload, 1) := by decide +kernel
theorem dX8_weightOf_101 : decode cX8_weightOf 101 = .ok (.iaload, 1) := by decide +kernel
theorem dX8_weightOf_102 : decode cX8_weightOf 102 = .ok (.iload_n 1, 1) := by decide +kernel
theorem dX8_weightOf_103 : decode cX8_weightOf 103 = .ok (.if_icmp .ne 14, 3) := by decide +kernel
theorem dX8_weightOf_106 : decode cX8_weightOf 106 = .ok (.iload 8, 2) := by decide +kernel
theorem dX8_weightOf_108 : decode cX8_weightOf 108 = .ok (.iload 6, 2) := by decide +kernel
theorem dX8_weightOf_110 : decode cX8_weightOf 110 = .ok (.if_icmp .le 7, 3) := by decide +kernel
theorem dX8_weightOf_113 : decode cX8_weightOf 113 = .ok (.iconst 1, 1) := by decide +kernel
theorem dX8_weightOf_114 : decode cX8_weightOf 114 = .ok (.goto 4, 3) := by decide +kernel
theorem dX8_weightOf_117 : decode cX8_weightOf 117 = .ok (.iconst 0, 1) := by decide +kernel
theorem dX8_weightOf_118 : decode cX8_weightOf 118 = .ok (.istore 9, 2) := by decide +kernel
theorem dX8_weightOf_120 : decode cX8_weightOf 120 = .ok (.lload_n 3, 1) := by decide +kernel
theorem dX8_weightOf_121 : decode cX8_weightOf 121 = .ok (.iload 9, 2) := by decide +kernel
theorem dX8_weightOf_123 : decode cX8_weightOf 123 = .ok (.ifCond .eq 26, 3) := by decide +kernel
theorem dX8_weightOf_126 : decode cX8_weightOf 126 = .ok (.aload_n 0, 1) := by decide +kernel
theorem dX8_weightOf_127 : decode cX8_weightOf 127 = .ok (.getfield 29, 3) := by decide +kernel
theorem dX8_weightOf_130 : decode cX8_weightOf 130 = .ok (.aload_n 0, 1) := by decide +kernel
theorem dX8_weightOf_131 : decode cX8_weightOf 131 = .ok (.getfield 32, 3) := by decide +kernel
theorem dX8_weightOf_134 : decode cX8_weightOf 134 = .ok (.iload 5, 2) := by decide +kernel
theorem dX8_weightOf_136 : decode cX8_weightOf 136 = .ok (.iaload, 1) := by decide +kernel
theorem dX8_weightOf_137 : decode cX8_weightOf 137 = .ok (.iaload, 1) := by decide +kernel
theorem dX8_weightOf_138 : decode cX8_weightOf 138 = .ok (.i2l, 1) := by decide +kernel
theorem dX8_weightOf_139 : decode cX8_weightOf 139 = .ok (.iload 8, 2) := by decide +kernel
theorem dX8_weightOf_141 : decode cX8_weightOf 141 = .ok (.iload 6, 2) := by decide +kernel
theorem dX8_weightOf_143 : decode cX8_weightOf 143 = .ok (.isub, 1) := by decide +kernel
theorem dX8_weightOf_144 : decode cX8_weightOf 144 = .ok (.i2l, 1) := by decide +kernel
theorem dX8_weightOf_145 : decode cX8_weightOf 145 = .ok (.lmul, 1) := by decide +kernel
theorem dX8_weightOf_146 : decode cX8_weightOf 146 = .ok (.goto 4, 3) := by decide +kernel
theorem dX8_weightOf_149 : decode cX8_weightOf 149 = .ok (.lconst 0, 1) := by decide +kernel
theorem dX8_weightOf_150 : decode cX8_weightOf 150 = .ok (.ladd, 1) := by decide +kernel
theorem dX8_weightOf_151 : decode cX8_weightOf 151 = .ok (.lstore_n 3, 1) := by decide +kernel
theorem dX8_weightOf_152 : decode cX8_weightOf 152 = .ok (.iinc 5 1, 3) := by decide +kernel
theorem dX8_weightOf_155 : decode cX8_weightOf 155 = .ok (.goto (-150), 3) := by decide +kernel
theorem dX8_weightOf_158 : decode cX8_weightOf 158 = .ok (.lload_n 3, 1) := by decide +kernel
theorem dX8_weightOf_159 : decode cX8_weightOf 159 = .ok (.aload_n 0, 1) := by decide +kernel
theorem dX8_weightOf_160 : decode cX8_weightOf 160 = .ok (.getfield 7, 3) := by decide +kernel
theorem dX8_weightOf_163 : decode cX8_weightOf 163 = .ok (.bipush 20, 2) := by decide +kernel
theorem dX8_weightOf_165 : decode cX8_weightOf 165 = .ok (.iload_n 1, 1) := by decide +kernel
theorem dX8_weightOf_166 : decode cX8_weightOf 166 = .ok (.imul, 1) := by decide +kernel
theorem dX8_weightOf_167 : decode cX8_weightOf 167 = .ok (.iload_n 2, 1) := by decide +kernel
theorem dX8_weightOf_168 : decode cX8_weightOf 168 = .ok (.iadd, 1) := by decide +kernel
theorem dX8_weightOf_169 : decode cX8_weightOf 169 = .ok (.iaload, 1) := by decide +kernel
theorem dX8_weightOf_170 : decode cX8_weightOf 170 = .ok (.i2l, 1) := by decide +kernel
theorem dX8_weightOf_171 : decode cX8_weightOf 171 = .ok (.lmul, 1) := by decide +kernel
theorem dX8_weightOf_172 : decode cX8_weightOf 172 = .ok (.ldc2_w 137, 3) := by decide +kernel
theorem dX8_weightOf_175 : decode cX8_weightOf 175 = .ok (.ldiv, 1) := by decide +kernel
theorem dX8_weightOf_176 : decode cX8_weightOf 176 = .ok (.lreturn, 1) := by decide +kernel
set_option maxRecDepth 20000 in
theorem ggX8_weight_X8_isMember : GoodIn wsX8_weight wsX8_isMember := goodIn_r _ [6, 7, 8, 9, 5, 10, 26, 27, 28, 29, 30, 31, 32, 33, 34, 35, 36, 37, 38, 39, 40, 41, 42, 43, 44, 45, 46, 47, 48, 49, 50, 51, 52, 53, 54, 55, 56, 57, 58, 59, 60, 61, 62] (by decide +kernel) (by decide +kernel)
set_option maxRecDepth 20000 in
theorem gX8_weight_X8_isMember : GoodIn wsX8_weight (wsV RX8 114 RX8 yX8_isMember wsX8_isMember) := goodIn_app (goodIn_of _ (by decide +kernel)) ggX8_weight_X8_isMember
set_option maxRecDepth 20000 in
theorem ggX8_weight_X8_isYear : GoodIn wsX8_weight wsX8_isYear := goodIn_r _ [13, 8, 9, 5, 10] (by decide +kernel) (by decide +kernel)
set_option maxRecDepth 20000 in
theorem gX8_weight_X8_isYear : GoodIn wsX8_weight (va_wsS RX8 131 yX8_isYear wsX8_isYear) := goodIn_app (goodIn_of _ (by decide +kernel)) ggX8_weight_X8_isYear
set_option maxRecDepth 20000 in
theorem ggX8_weight_X8_weightOf : GoodIn wsX8_weight wsX8_weightOf := goodIn_r _ [17, 18, 19, 20, 21, 22, 23, 24, 25, 26, 27, 28, 29, 30, 31, 32, 33, 34, 35, 36, 37, 38, 39, 40, 41, 42, 43, 44, 45, 46, 47, 48, 49, 50, 51, 52, 53, 54, 55, 56, 57, 58, 59, 60, 61, 62] (by decide +kernel) (by decide +kernel)
set_option maxRecDepth 20000 in
theorem gX8_weight_X8_weightOf : GoodIn wsX8_weight (wsV RX8 139 RX8 yX8_weightOf wsX8_weightOf) := goodIn_app (goodIn_of _ (by decide +kernel)) ggX8_weight_X8_weightOf
theorem dX8_weight_0 : decode cX8_weight 0 = .ok (.aload_n 0, 1) := by decide +kernel
theorem dX8_weight_1 : decode cX8_weight 1 = .ok (.aload_n 0, 1) := by decide +kernel
theorem dX8_weight_2 : decode cX8_weight 2 = .ok (.iload_n 1, 1) := by decide +kernel
theorem dX8_weight_3 : decode cX8_weight 3 = .ok (.invokevirtual 114, 3) := by decide +kernel
theorem dX8_weight_6 : decode cX8_weight 6 = .ok (.ifCond .ne 7, 3) := by decide +kernel
theorem dX8_weight_9 : decode cX8_weight 9 = .ok (.iconst 1, 1) := by decide +kernel
theorem dX8_weight_10 : decode cX8_weight 10 = .ok (.goto 15, 3) := by decide +kernel
theorem dX8_weight_13 : decode cX8_weight 13 = .ok (.iload_n 2, 1) := by decide +kernel
theorem dX8_weight_14 : decode cX8_weight 14 = .ok (.invokestatic 131, 3) := by decide +kernel
theorem dX8_weight_17 : decode cX8_weight 17 = .ok (.ifCond .ne 7, 3) := by decide +kernel
theorem dX8_weight_20 : decode cX8_weight 20 = .ok (.iconst 2, 1) := by decide +kernel
theorem dX8_weight_21 : decode cX8_weight 21 = .ok (.goto 4, 3) := by decide +kernel
theorem dX8_weight_24 : decode cX8_weight 24 = .ok (.iconst 0, 1) := by decide +kernel
theorem dX8_weight_25 : decode cX8_weight 25 = .ok (.putfield 96, 3) := by decide +kernel
theorem dX8_weight_28 : decode cX8_weight 28 = .ok (.aload_n 0, 1) := by decide +kernel
theorem dX8_weight_29 : decode cX8_weight 29 = .ok (.getfield 96, 3) := by decide +kernel
theorem dX8_weight_32 : decode cX8_weight 32 = .ok (.ifCond .le 7, 3) := by decide +kernel
theorem dX8_weight_35 : decode cX8_weight 35 = .ok (.lconst 0, 1) := by decide +kernel
theorem dX8_weight_36 : decode cX8_weight 36 = .ok (.goto 9, 3) := by decide +kernel
theorem dX8_weight_39 : decode cX8_weight 39 = .ok (.aload_n 0, 1) := by decide +kernel
theorem dX8_weight_40 : decode cX8_weight 40 = .ok (.iload_n 1, 1) := by decide +kernel
theorem dX8_weight_41 : decode cX8_weight 41 = .ok (.iload_n 2, 1) := by decide +kernel
theorem dX8_weight_42 : decode cX8_weight 42 = .ok (.invokevirtual 139, 3) := by decide +kernel
theorem dX8_weight_45 : decode cX8_weight 45 = .ok (.lreturn, 1) := by decide +kernel
set_option maxRecDepth 20000 in
theorem ggX8_weightAnew_X8_isMember : GoodIn wsX8_weightAnew wsX8_isMember := goodIn_r _ [6, 7, 8, 9, 5, 10, 26, 27, 28, 29, 30, 31, 32, 33, 34, 35, 36, 37, 38, 39, 40, 41, 42, 43, 44, 45, 46, 47, 48, 49, 50, 51, 52, 53, 54, 55, 56, 57, 58, 59, 60, 61, 62] (by decide +kernel) (by decide +kernel)
set_option maxRecDepth 20000 in
theorem gX8_weightAnew_X8_isMember : GoodIn wsX8_weightAnew (wsV RX8 114 RX8 yX8_isMember wsX8_isMember) := goodIn_app (goodIn_of _ (by decide +kernel)) ggX8_weightAnew_X8_isMember
set_option maxRecDepth 20000 in
theorem ggX8_weightAnew_X8_isYear : GoodIn wsX8_weightAnew wsX8_isYear := goodIn_r _ [13, 8, 9, 5, 10] (by decide +kernel) (by decide +kernel)
set_option maxRecDepth 20000 in
theorem gX8_weightAnew_X8_isYear : GoodIn wsX8_weightAnew (va_wsS RX8 131 yX8_isYear wsX8_isYear) := goodIn_app (goodIn_of _ (by decide +kernel)) ggX8_weightAnew_X8_isYear
set_option maxRecDepth 20000 in
theorem ggX8_weightAnew_X8_weightOf : GoodIn wsX8_weightAnew wsX8_weightOf := goodIn_r _ [17, 18, 19, 20, 21, 22, 23, 24, 25, 26, 27, 28, 29, 30, 31, 32, 33, 34, 35, 36, 37, 38, 39, 40, 41, 42, 43, 44, 45, 46, 47, 48, 49, 50, 51, 52, 53, 54, 55, 56, 57, 58, 59, 60, 61, 62] (by decide +kernel) (by decide +kernel)
set_option maxRecDepth 20000 in
theorem gX8_weightAnew_X8_weightOf : GoodIn wsX8_weightAnew (wsV RX8 139 RX8 yX8_weightOf wsX8_weightOf) := goodIn_app (goodIn_of _ (by decide +kernel)) ggX8_weightAnew_X8_weightOf
theorem dX8_weightAnew_0 : decode cX8_weightAnew 0 = .ok (.aload_n 0, 1) := by decide +kernel
theorem dX8_weightAnew_1 : decode cX8_weightAnew 1 = .ok (.aload_n 0, 1) := by decide +kernel
theorem dX8_weightAnew_2 : decode cX8_weightAnew 2 = .ok (.iload_n 1, 1) := by decide +kernel
theorem dX8_weightAnew_3 : decode cX8_weightAnew 3 = .ok (.invokevirtual 114, 3) := by decide +kernel
theorem dX8_weightAnew_6 : decode cX8_weightAnew 6 = .ok (.ifCond .ne 7, 3) := by decide +kernel
theorem dX8_weightAnew_9 : decode cX8_weightAnew 9 = .ok (.iconst 1, 1) := by decide +kernel
theorem dX8_weightAnew_10 : decode cX8_weightAnew 10 = .ok (.goto 15, 3) := by decide +kernel
theorem dX8_weightAnew_13 : decode cX8_weightAnew 13 = .ok (.iload_n 2, 1) := by decide +kernel
theorem dX8_weightAnew_14 : decode cX8_weightAnew 14 = .ok (.invokestatic 131, 3) := by decide +kernel
theorem dX8_weightAnew_17 : decode cX8_weightAnew 17 = .ok (.ifCond .ne 7, 3) := by decide +kernel
theorem dX8_weightAnew_20 : decode cX8_weightAnew 20 = .ok (.iconst 2, 1) := by decide +kernel
theorem dX8_weightAnew_21 : decode cX8_weightAnew 21 = .ok (.goto 4, 3) := by decide +kernel
theorem dX8_weightAnew_24 : decode cX8_weightAnew 24 = .ok (.iconst 0, 1) := by decide +kernel
theorem dX8_weightAnew_25 : decode cX8_weightAnew 25 = .ok (.putfield 96, 3) := by decide +kernel
theorem dX8_weightAnew_28 : decode cX8_weightAnew 28 = .ok (.aload_n 0, 1) := by decide +kernel
theorem dX8_weightAnew_29 : decode cX8_weightAnew 29 = .ok (.getfield 96, 3) := by decide +kernel
theorem dX8_weightAnew_32 : decode cX8_weightAnew 32 = .ok (.ifCond .le 7, 3) := by decide +kernel
theorem dX8_weightAnew_35 : decode cX8_weightAnew 35 = .ok (.lconst 0, 1) := by decide +kernel
theorem dX8_weightAnew_36 : decode cX8_weightAnew 36 = .ok (.goto 9, 3) := by decide +kernel
theorem dX8_weightAnew_39 : decode cX8_weightAnew 39 = .ok (.aload_n 0, 1) := by decide +kernel
theorem dX8_weightAnew_40 : decode cX8_weightAnew 40 = .ok (.iload_n 1, 1) := by decide +kernel
theorem dX8_weightAnew_41 : decode cX8_weightAnew 41 = .ok (.iload_n 2, 1) := by decide +kernel
theorem dX8_weightAnew_42 : decode cX8_weightAnew 42 = .ok (.invokevirtual 139, 3) := by decide +kernel
theorem dX8_weightAnew_45 : decode cX8_weightAnew 45 = .ok (.lreturn, 1) := by decide +kernel
set_option maxRecDepth 20000 in
theorem ggX8_isKind_X8_isIn : GoodIn wsX8_isKind wsX8_isIn := goodIn_r _ [4] (by decide +kernel) (by decide +kernel)
set_option maxRecDepth 20000 in
theorem gX8_isKind_X8_isIn : GoodIn wsX8_isKind (va_wsS RX8 103 yX8_isIn wsX8_isIn) := goodIn_app (goodIn_of _ (by decide +kernel)) ggX8_isKind_X8_isIn
theorem dX8_isKind_0 : decode cX8_isKind 0 = .ok (.iload_n 0, 1) := by decide +kernel
theorem dX8_isKind_1 : decode cX8_isKind 1 = .ok (.iconst 0, 1) := by decide +kernel
theorem dX8_isKind_2 : decode cX8_isKind 2 = .ok (.iconst 3, 1) := by decide +kernel
theorem dX8_isKind_3 : decode cX8_isKind 3 = .ok (.invokestatic 103, 3) := by decide +kernel
theorem dX8_isKind_6 : decode cX8_isKind 6 = .ok (.ireturn, 1) := by decide +kernel
set_option maxRecDepth 20000 in
theorem ggX8_rule_X8_isKind : GoodIn wsX8_rule wsX8_isKind := goodIn_r _ [10, 11, 12, 9, 13] (by decide +kernel) (by decide +kernel)
set_option maxRecDepth 20000 in
theorem gX8_rule_X8_isKind : GoodIn wsX8_rule (va_wsS RX8 143 yX8_isKind wsX8_isKind) := goodIn_app (goodIn_of _ (by decide +kernel)) ggX8_rule_X8_isKind
set_option maxRecDepth 20000 in
theorem ggX8_rule_X8_isYear : GoodIn wsX8_rule wsX8_isYear := goodIn_r _ [16, 11, 12, 9, 13] (by decide +kernel) (by decide +kernel)
set_option maxRecDepth 20000 in
theorem gX8_rule_X8_isYear : GoodIn wsX8_rule (va_wsS RX8 131 yX8_isYear wsX8_isYear) := goodIn_app (goodIn_of _ (by decide +kernel)) ggX8_rule_X8_isYear
set_option maxRecDepth 20000 in
theorem ggX8_rule_X8_isIn : GoodIn wsX8_rule wsX8_isIn := goodIn_r _ [13] (by decide +kernel) (by decide +kernel)
set_option maxRecDepth 20000 in
theorem gX8_rule_X8_isIn : GoodIn wsX8_rule (va_wsS RX8 103 yX8_isIn wsX8_isIn) := goodIn_app (goodIn_of _ (by decide +kernel)) ggX8_rule_X8_isIn
theorem dX8_rule_0 : decode cX8_rule 0 = .ok (.iload_n 1, 1) := by decide +kernel
theorem dX8_rule_1 : decode cX8_rule 1 = .ok (.invokestatic 143, 3) := by decide +kernel
theorem dX8_rule_4 : decode cX8_rule 4 = .ok (.ifCond .eq 35, 3) := by decide +kernel
theorem dX8_rule_7 : decode cX8_rule 7 = .ok (.iload_n 2, 1) := by decide +kernel
theorem dX8_rule_8 : decode cX8_rule 8 = .ok (.invokestatic 131, 3) := by decide +kernel
theorem dX8_rule_11 : decode cX8_rule 11 = .ok (.ifCond .eq 28, 3) := by decide +kernel
theorem dX8_rule_14 : decode cX8_rule 14 = .ok (.iload_n 3, 1) := by decide +kernel
theorem dX8_rule_15 : decode cX8_rule 15 = .ok (.iconst 0, 1) := by decide +kernel
theorem dX8_rule_16 : decode cX8_rule 16 = .ok (.ldc 146, 2) := by decide +kernel
theorem dX8_rule_18 : decode cX8_rule 18 = .ok (.invokestatic 103, 3) := by decide +kernel
theorem dX8_rule_21 : decode cX8_rule 21 = .ok (.ifCond .eq 18, 3) := by decide +kernel
theorem dX8_rule_24 : decode cX8_rule 24 = .ok (.iload 4, 2) := by decide +kernel
theorem dX8_rule_26 : decode cX8_rule 26 = .ok (.iconst 0, 1) := by decide +kernel
theorem dX8_rule_27 : decode cX8_rule 27 = .ok (.ldc 147, 2) := by decide +kernel
theorem dX8_rule_29 : decode cX8_rule 29 = .ok (.invokestatic 103, 3) := by decide +kernel
theorem dX8_rule_32 : decode cX8_rule 32 = .ok (.ifCond .eq 7, 3) := by decide +kernel
theorem dX8_rule_35 : decode cX8_rule 35 = .ok (.iconst 1, 1) := by decide +kernel
theorem dX8_rule_36 : decode cX8_rule 36 = .ok (.goto 4, 3) := by decide +kernel
theorem dX8_rule_39 : decode cX8_rule 39 = .ok (.iconst 0, 1) := by decide +kernel
theorem dX8_rule_40 : decode cX8_rule 40 = .ok (.istore 5, 2) := by decide +kernel
theorem dX8_rule_42 : decode cX8_rule 42 = .ok (.aload_n 0, 1) := by decide +kernel
theorem dX8_rule_43 : decode cX8_rule 43 = .ok (.iload 5, 2) := by decide +kernel
theorem dX8_rule_45 : decode cX8_rule 45 = .ok (.ifCond .ne 7, 3) := by decide +kernel
theorem dX8_rule_48 : decode cX8_rule 48 = .ok (.iconst 1, 1) := by decide +kernel
theorem dX8_rule_49 : decode cX8_rule 49 = .ok (.goto 16, 3) := by decide +kernel
theorem dX8_rule_52 : decode cX8_rule 52 = .ok (.iload_n 2, 1) := by decide +kernel
theorem dX8_rule_53 : decode cX8_rule 53 = .ok (.aload_n 0, 1) := by decide +kernel
theorem dX8_rule_54 : decode cX8_rule 54 = .ok (.getfield 134, 3) := by decide +kernel
theorem dX8_rule_57 : decode cX8_rule 57 = .ok (.if_icmp .ge 7, 3) := by decide +kernel
theorem dX8_rule_60 : decode cX8_rule 60 = .ok (.iconst 2, 1) := by decide +kernel
theorem dX8_rule_61 : decode cX8_rule 61 = .ok (.goto 4, 3) := by decide +kernel
theorem dX8_rule_64 : decode cX8_rule 64 = .ok (.iconst 0, 1) := by decide +kernel
theorem dX8_rule_65 : decode cX8_rule 65 = .ok (.putfield 96, 3) := by decide +kernel
theorem dX8_rule_68 : decode cX8_rule 68 = .ok (.aload_n 0, 1) := by decide +kernel
theorem dX8_rule_69 : decode cX8_rule 69 = .ok (.getfield 96, 3) := by decide +kernel
theorem dX8_rule_72 : decode cX8_rule 72 = .ok (.ifCond .ne 28, 3) := by decide +kernel
theorem dX8_rule_75 : decode cX8_rule 75 = .ok (.aload_n 0, 1) := by decide +kernel
theorem dX8_rule_76 : decode cX8_rule 76 = .ok (.getfield 41, 3) := by decide +kernel
theorem dX8_rule_79 : decode cX8_rule 79 = .ok (.bipush 20, 2) := by decide +kernel
theorem dX8_rule_81 : decode cX8_rule 81 = .ok (.iload_n 1, 1) := by decide +kernel
theorem dX8_rule_82 : decode cX8_rule 82 = .ok (.imul, 1) := by decide +kernel
theorem dX8_rule_83 : decode cX8_rule 83 = .ok (.iload_n 2, 1) := by decide +kernel
theorem dX8_rule_84 : decode cX8_rule 84 = .ok (.iadd, 1) := by decide +kernel
theorem dX8_rule_85 : decode cX8_rule 85 = .ok (.iload_n 3, 1) := by decide +kernel
theorem dX8_rule_86 : decode cX8_rule 86 = .ok (.iastore, 1) := by decide +kernel
theorem dX8_rule_87 : decode cX8_rule 87 = .ok (.aload_n 0, 1) := by decide +kernel
theorem dX8_rule_88 : decode cX8_rule 88 = .ok (.getfield 44, 3) := by decide +kernel
theorem dX8_rule_91 : decode cX8_rule 91 = .ok (.bipush 20, 2) := by decide +kernel
theorem dX8_rule_93 : decode cX8_rule 93 = .ok (.iload_n 1, 1) := by decide +kernel
theorem dX8_rule_94 : decode cX8_rule 94 = .ok (.imul, 1) := by decide +kernel
theorem dX8_rule_95 : decode cX8_rule 95 = .ok (.iload_n 2, 1) := by decide +kernel
theorem dX8_rule_96 : decode cX8_rule 96 = .ok (.iadd, 1) := by decide +kernel
theorem dX8_rule_97 : decode cX8_rule 97 = .ok (.iload 4, 2) := by decide +kernel
theorem dX8_rule_99 : decode cX8_rule 99 = .ok (.iastore, 1) := by decide +kernel
theorem dX8_rule_100 : decode cX8_rule 100 = .ok (.return_, 1) := by decide +kernel
set_option maxRecDepth 20000 in
theorem ggX8_pool_X8_isYear : GoodIn wsX8_pool wsX8_isYear := goodIn_r _ [11, 12, 13, 10, 14] (by decide +kernel) (by decide +kernel)
set_option maxRecDepth 20000 in
theorem gX8_pool_X8_isYear : GoodIn wsX8_pool (va_wsS RX8 131 yX8_isYear wsX8_isYear) := goodIn_app (goodIn_of _ (by decide +kernel)) ggX8_pool_X8_isYear
set_option maxRecDepth 20000 in
theorem ggX8_pool_X8_isIn : GoodIn wsX8_pool wsX8_isIn := goodIn_r _ [14] (by decide +kernel) (by decide +kernel)
set_option maxRecDepth 20000 in
theorem gX8_pool_X8_isIn : GoodIn wsX8_pool (va_wsS RX8 103 yX8_isIn wsX8_isIn) := goodIn_app (goodIn_of _ (by decide +kernel)) ggX8_pool_X8_isIn
theorem dX8_pool_0 : decode cX8_pool 0 = .ok (.iload_n 1, 1) := by decide +kernel
theorem dX8_pool_1 : decode cX8_pool 1 = .ok (.invokestatic 131, 3) := by decide +kernel
theorem dX8_pool_4 : decode cX8_pool 4 = .ok (.ifCond .eq 38, 3) := by decide +kernel
theorem dX8_pool_7 : decode cX8_pool 7 = .ok (.iload_n 2, 1) := by decide +kernel
theorem dX8_pool_8 : decode cX8_pool 8 = .ok (.iconst 0, 1) := by decide +kernel
theorem dX8_pool_9 : decode cX8_pool 9 = .ok (.ldc 147, 2) := by decide +kernel
theorem dX8_pool_11 : decode cX8_pool 11 = .ok (.invokestatic 103, 3) := by decide +kernel
theorem dX8_pool_14 : decode cX8_pool 14 = .ok (.ifCond .eq 28, 3) := by decide +kernel
theorem dX8_pool_17 : decode cX8_pool 17 = .ok (.iload_n 3, 1) := by decide +kernel
theorem dX8_pool_18 : decode cX8_pool 18 = .ok (.iload_n 2, 1) := by decide +kernel
theorem dX8_pool_19 : decode cX8_pool 19 = .ok (.ldc 113, 2) := by decide +kernel
theorem dX8_pool_21 : decode cX8_pool 21 = .ok (.invokestatic 103, 3) := by decide +kernel
theorem dX8_pool_24 : decode cX8_pool 24 = .ok (.ifCond .eq 18, 3) := by decide +kernel
theorem dX8_pool_27 : decode cX8_pool 27 = .ok (.iload 4, 2) := by decide +kernel
theorem dX8_pool_29 : decode cX8_pool 29 = .ok (.iconst 0, 1) := by decide +kernel
theorem dX8_pool_30 : decode cX8_pool 30 = .ok (.bipush 100, 2) := by decide +kernel
theorem dX8_pool_32 : decode cX8_pool 32 = .ok (.invokestatic 103, 3) := by decide +kernel
theorem dX8_pool_35 : decode cX8_pool 35 = .ok (.ifCond .eq 7, 3) := by decide +kernel
theorem dX8_pool_38 : decode cX8_pool 38 = .ok (.iconst 1, 1) := by decide +kernel
theorem dX8_pool_39 : decode cX8_pool 39 = .ok (.goto 4, 3) := by decide +kernel
theorem dX8_pool_42 : decode cX8_pool 42 = .ok (.iconst 0, 1) := by decide +kernel
theorem dX8_pool_43 : decode cX8_pool 43 = .ok (.istore 5, 2) := by decide +kernel
theorem dX8_pool_45 : decode cX8_pool 45 = .ok (.aload_n 0, 1) := by decide +kernel
theorem dX8_pool_46 : decode cX8_pool 46 = .ok (.iload 5, 2) := by decide +kernel
theorem dX8_pool_48 : decode cX8_pool 48 = .ok (.ifCond .ne 7, 3) := by decide +kernel
theorem dX8_pool_51 : decode cX8_pool 51 = .ok (.iconst 1, 1) := by decide +kernel
theorem dX8_pool_52 : decode cX8_pool 52 = .ok (.goto 16, 3) := by decide +kernel
theorem dX8_pool_55 : decode cX8_pool 55 = .ok (.iload_n 1, 1) := by decide +kernel
theorem dX8_pool_56 : decode cX8_pool 56 = .ok (.aload_n 0, 1) := by decide +kernel
theorem dX8_pool_57 : decode cX8_pool 57 = .ok (.getfield 134, 3) := by decide +kernel
theorem dX8_pool_60 : decode cX8_pool 60 = .ok (.if_icmp .ge 7, 3) := by decide +kernel
theorem dX8_pool_63 : decode cX8_pool 63 = .ok (.iconst 2, 1) := by decide +kernel
theorem dX8_pool_64 : decode cX8_pool 64 = .ok (.goto 4, 3) := by decide +kernel
theorem dX8_pool_67 : decode cX8_pool 67 = .ok (.iconst 0, 1) := by decide +kernel
theorem dX8_pool_68 : decode cX8_pool 68 = .ok (.putfield 96, 3) := by decide +kernel
theorem dX8_pool_71 : decode cX8_pool 71 = .ok (.aload_n 0, 1) := by decide +kernel
theorem dX8_pool_72 : decode cX8_pool 72 = .ok (.getfield 96, 3) := by decide +kernel
theorem dX8_pool_75 : decode cX8_pool 75 = .ok (.ifCond .ne 25, 3) := by decide +kernel
theorem dX8_pool_78 : decode cX8_pool 78 = .ok (.aload_n 0, 1) := by decide +kernel
theorem dX8_pool_79 : decode cX8_pool 79 = .ok (.getfield 47, 3) := by decide +kernel
theorem dX8_pool_82 : decode cX8_pool 82 = .ok (.iload_n 1, 1) := by decide +kernel
theorem dX8_pool_83 : decode cX8_pool 83 = .ok (.iload_n 2, 1) := by decide +kernel
theorem dX8_pool_84 : decode cX8_pool 84 = .ok (.iastore, 1) := by decide +kernel
theorem dX8_pool_85 : decode cX8_pool 85 = .ok (.aload_n 0, 1) := by decide +kernel
theorem dX8_pool_86 : decode cX8_pool 86 = .ok (.getfield 50, 3) := by decide +kernel
theorem dX8_pool_89 : decode cX8_pool 89 = .ok (.iload_n 1, 1) := by decide +kernel
theorem dX8_pool_90 : decode cX8_pool 90 = .ok (.iload_n 3, 1) := by decide +kernel
theorem dX8_pool_91 : decode cX8_pool 91 = .ok (.iastore, 1) := by decide +kernel
theorem dX8_pool_92 : decode cX8_pool 92 = .ok (.aload_n 0, 1) := by decide +kernel
theorem dX8_pool_93 : decode cX8_pool 93 = .ok (.getfield 53, 3) := by decide +kernel
theorem dX8_pool_96 : decode cX8_pool 96 = .ok (.iload_n 1, 1) := by decide +kernel
theorem dX8_pool_97 : decode cX8_pool 97 = .ok (.iload 4, 2) := by decide +kernel
theorem dX8_pool_99 : decode cX8_pool 99 = .ok (.iastore, 1) := by decide +kernel
theorem dX8_pool_100 : decode cX8_pool 100 = .ok (.return_, 1) := by decide +kernel
theorem dX8_adds_0 : decode cX8_adds 0 = .ok (.aload_n 0, 1) := by decide +kernel
theorem dX8_adds_1 : decode cX8_adds 1 = .ok (.getfield 56, 3) := by decide +kernel
theorem dX8_adds_4 : decode cX8_adds 4 = .ok (.aload_n 0, 1) := by decide +kernel
theorem dX8_adds_5 : decode cX8_adds 5 = .ok (.getfield 110, 3) := by decide +kernel
theorem dX8_adds_8 : decode cX8_adds 8 = .ok (.iload_n 1, 1) := by decide +kernel
theorem dX8_adds_9 : decode cX8_adds 9 = .ok (.iastore, 1) := by decide +kernel
theorem dX8_adds_10 : decode cX8_adds 10 = .ok (.aload_n 0, 1) := by decide +kernel
theorem dX8_adds_11 : decode cX8_adds 11 = .ok (.getfield 59, 3) := by decide +kernel
theorem dX8_adds_14 : decode cX8_adds 14 = .ok (.aload_n 0, 1) := by decide +kernel
theorem dX8_adds_15 : decode cX8_adds 15 = .ok (.getfield 110, 3) := by decide +kernel
theorem dX8_adds_18 : decode cX8_adds 18 = .ok (.iload_n 2, 1) := by decide +kernel
theorem dX8_adds_19 : decode cX8_adds 19 = .ok (.iastore, 1) := by decide +kernel
theorem dX8_adds_20 : decode cX8_adds 20 = .ok (.aload_n 0, 1) := by decide +kernel
theorem dX8_adds_21 : decode cX8_adds 21 = .ok (.getfield 62, 3) := by decide +kernel
theorem dX8_adds_24 : decode cX8_adds 24 = .ok (.aload_n 0, 1) := by decide +kernel
theorem dX8_adds_25 : decode cX8_adds 25 = .ok (.getfield 110, 3) := by decide +kernel
theorem dX8_adds_28 : decode cX8_adds 28 = .ok (.iload_n 3, 1) := by decide +kernel
theorem dX8_adds_29 : decode cX8_adds 29 = .ok (.iastore, 1) := by decide +kernel
theorem dX8_adds_30 : decode cX8_adds 30 = .ok (.aload_n 0, 1) := by decide +kernel
theorem dX8_adds_31 : decode cX8_adds 31 = .ok (.getfield 65, 3) := by decide +kernel
theorem dX8_adds_34 : decode cX8_adds 34 = .ok (.aload_n 0, 1) := by decide +kernel
theorem dX8_adds_35 : decode cX8_adds 35 = .ok (.getfield 110, 3) := by decide +kernel
theorem dX8_adds_38 : decode cX8_adds 38 = .ok (.iload 4, 2) := by decide +kernel
theorem dX8_adds_40 : decode cX8_adds 40 = .ok (.iastore, 1) := by decide +kernel
theorem dX8_adds_41 : decode cX8_adds 41 = .ok (.aload_n 0, 1) := by decide +kernel
theorem dX8_adds_42 : decode cX8_adds 42 = .ok (.getfield 68, 3) := by decide +kernel
theorem dX8_adds_45 : decode cX8_adds 45 = .ok (.aload_n 0, 1) := by decide +kernel
theorem dX8_adds_46 : decode cX8_adds 46 = .ok (.getfield 110, 3) := by decide +kernel
theorem dX8_adds_49 : decode cX8_adds 49 = .ok (.iload 5, 2) := by decide +kernel
theorem dX8_adds_51 : decode cX8_adds 51 = .ok (.iastore, 1) := by decide +kernel
theorem dX8_adds_52 : decode cX8_adds 52 = .ok (.aload_n 0, 1) := by decide +kernel
theorem dX8_adds_53 : decode cX8_adds 53 = .ok (.getfield 84, 3) := by decide +kernel
theorem dX8_adds_56 : decode cX8_adds 56 = .ok (.iload 5, 2) := by decide +kernel
theorem dX8_adds_58 : decode cX8_adds 58 = .ok (.iload_n 3, 1) := by decide +kernel
theorem dX8_adds_59 : decode cX8_adds 59 = .ok (.iastore, 1) := by decide +kernel
theorem dX8_adds_60 : decode cX8_adds 60 = .ok (.aload_n 0, 1) := by decide +kernel
theorem dX8_adds_61 : decode cX8_adds 61 = .ok (.dup, 1) := by decide +kernel
theorem dX8_adds_62 : decode cX8_adds 62 = .ok (.getfield 110, 3) := by decide +kernel
theorem dX8_adds_65 : decode cX8_adds 65 = .ok (.iconst 1, 1) := by decide +kernel
theorem dX8_adds_66 : decode cX8_adds 66 = .ok (.iadd, 1) := by decide +kernel
theorem dX8_adds_67 : decode cX8_adds 67 = .ok (.putfield 110, 3) := by decide +kernel
theorem dX8_adds_70 : decode cX8_adds 70 = .ok (.aload_n 0, 1) := by decide +kernel
theorem dX8_adds_71 : decode cX8_adds 71 = .ok (.getfield 110, 3) := by decide +kernel
theorem dX8_adds_74 : decode cX8_adds 74 = .ok (.iconst 1, 1) := by decide +kernel
theorem dX8_adds_75 : decode cX8_adds 75 = .ok (.isub, 1) := by decide +kernel
theorem dX8_adds_76 : decode cX8_adds 76 = .ok (.ireturn, 1) := by decide +kernel
set_option maxRecDepth 20000 in
theorem ggX8_claim_X8_isShip : GoodIn wsX8_claim wsX8_isShip := goodIn_r _ [11, 12, 13, 14, 10, 15, 32, 33, 34, 35, 36, 37, 38, 39, 40, 41, 42, 43, 44, 45, 46, 47, 48, 49, 50, 51, 52, 53, 54, 55, 56, 57, 58, 59, 60, 61, 62, 63, 64, 65, 66, 67, 68] (by decide +kernel) (by decide +kernel)
set_option maxRecDepth 20000 in
theorem gX8_claim_X8_isShip : GoodIn wsX8_claim (wsV RX8 121 RX8 yX8_isShip wsX8_isShip) := goodIn_app (goodIn_of _ (by decide +kernel)) ggX8_claim_X8_isShip
set_option maxRecDepth 20000 in
theorem ggX8_claim_X8_isIn : GoodIn wsX8_claim wsX8_isIn := goodIn_r _ [15] (by decide +kernel) (by decide +kernel)
set_option maxRecDepth 20000 in
theorem gX8_claim_X8_isIn : GoodIn wsX8_claim (va_wsS RX8 103 yX8_isIn wsX8_isIn) := goodIn_app (goodIn_of _ (by decide +kernel)) ggX8_claim_X8_isIn
set_option maxRecDepth 20000 in
theorem ggX8_claim_X8_isKind : GoodIn wsX8_claim wsX8_isKind := goodIn_r _ [18, 13, 14, 10, 15] (by decide +kernel) (by decide +kernel)
set_option maxRecDepth 20000 in
theorem gX8_claim_X8_isKind : GoodIn wsX8_claim (va_wsS RX8 143 yX8_isKind wsX8_isKind) := goodIn_app (goodIn_of _ (by decide +kernel)) ggX8_claim_X8_isKind
set_option maxRecDepth 20000 in
theorem ggX8_claim_X8_isLoss : GoodIn wsX8_claim wsX8_isLoss := goodIn_r _ [21, 22, 13, 14, 10, 15] (by decide +kernel) (by decide +kernel)
set_option maxRecDepth 20000 in
theorem gX8_claim_X8_isLoss : GoodIn wsX8_claim (va_wsS RX8 151 yX8_isLoss wsX8_isLoss) := goodIn_app (goodIn_of _ (by decide +kernel)) ggX8_claim_X8_isLoss
set_option maxRecDepth 20000 in
theorem ggX8_claim_X8_adds : GoodIn wsX8_claim wsX8_adds := goodIn_r _ [26, 27, 5, 28, 29, 30, 31, 3, 32, 33, 34, 35, 36, 37, 38, 39, 40, 41, 42, 43, 44, 45, 46, 47, 48, 49, 50, 51, 52, 53, 54, 55, 56, 57, 58, 59, 60, 61, 62, 63, 64, 65, 66, 67, 68] (by decide +kernel) (by decide +kernel)
set_option maxRecDepth 20000 in
theorem gX8_claim_X8_adds : GoodIn wsX8_claim (wsV RX8 154 RX8 yX8_adds wsX8_adds) := goodIn_app (goodIn_of _ (by decide +kernel)) ggX8_claim_X8_adds
theorem dX8_claim_0 : decode cX8_claim 0 = .ok (.aload_n 0, 1) := by decide +kernel
theorem dX8_claim_1 : decode cX8_claim 1 = .ok (.iload_n 1, 1) := by decide +kernel
theorem dX8_claim_2 : decode cX8_claim 2 = .ok (.invokevirtual 121, 3) := by decide +kernel
theorem dX8_claim_5 : decode cX8_claim 5 = .ok (.ifCond .eq 28, 3) := by decide +kernel
theorem dX8_claim_8 : decode cX8_claim 8 = .ok (.iload 5, 2) := by decide +kernel
theorem dX8_claim_10 : decode cX8_claim 10 = .ok (.iconst (-1), 1) := by decide +kernel
theorem dX8_claim_11 : decode cX8_claim 11 = .ok (.if_icmp .eq 18, 3) := by decide +kernel
theorem dX8_claim_14 : decode cX8_claim 14 = .ok (.iload 5, 2) := by decide +kernel
theorem dX8_claim_16 : decode cX8_claim 16 = .ok (.iconst 0, 1) := by decide +kernel
theorem dX8_claim_17 : decode cX8_claim 17 = .ok (.aload_n 0, 1) := by decide +kernel
theorem dX8_claim_18 : decode cX8_claim 18 = .ok (.getfield 148, 3) := by decide +kernel
theorem dX8_claim_21 : decode cX8_claim 21 = .ok (.iconst 1, 1) := by decide +kernel
theorem dX8_claim_22 : decode cX8_claim 22 = .ok (.isub, 1) := by decide +kernel
theorem dX8_claim_23 : decode cX8_claim 23 = .ok (.invokestatic 103, 3) := by decide +kernel
theorem dX8_claim_26 : decode cX8_claim 26 = .ok (.ifCond .eq 7, 3) := by decide +kernel
theorem dX8_claim_29 : decode cX8_claim 29 = .ok (.iconst 1, 1) := by decide +kernel
theorem dX8_claim_30 : decode cX8_claim 30 = .ok (.goto 4, 3) := by decide +kernel
theorem dX8_claim_33 : decode cX8_claim 33 = .ok (.iconst 0, 1) := by decide +kernel
theorem dX8_claim_34 : decode cX8_claim 34 = .ok (.istore 6, 2) := by decide +kernel
theorem dX8_claim_36 : decode cX8_claim 36 = .ok (.iload 6, 2) := by decide +kernel
theorem dX8_claim_38 : decode cX8_claim 38 = .ok (.ifCond .eq 51, 3) := by decide +kernel
theorem dX8_claim_41 : decode cX8_claim 41 = .ok (.iload_n 2, 1) := by decide +kernel
theorem dX8_claim_42 : decode cX8_claim 42 = .ok (.invokestatic 143, 3) := by decide +kernel
theorem dX8_claim_45 : decode cX8_claim 45 = .ok (.ifCond .eq 44, 3) := by decide +kernel
theorem dX8_claim_48 : decode cX8_claim 48 = .ok (.iload_n 3, 1) := by decide +kernel
theorem dX8_claim_49 : decode cX8_claim 49 = .ok (.iconst 0, 1) := by decide +kernel
theorem dX8_claim_50 : decode cX8_claim 50 = .ok (.aload_n 0, 1) := by decide +kernel
theorem dX8_claim_51 : decode cX8_claim 51 = .ok (.getfield 128, 3) := by decide +kernel
theorem dX8_claim_54 : decode cX8_claim 54 = .ok (.invokestatic 103, 3) := by decide +kernel
theorem dX8_claim_57 : decode cX8_claim 57 = .ok (.ifCond .eq 32, 3) := by decide +kernel
theorem dX8_claim_60 : decode cX8_claim 60 = .ok (.iload 4, 2) := by decide +kernel
theorem dX8_claim_62 : decode cX8_claim 62 = .ok (.invokestatic 151, 3) := by decide +kernel
theorem dX8_claim_65 : decode cX8_claim 65 = .ok (.ifCond .eq 24, 3) := by decide +kernel
theorem dX8_claim_68 : decode cX8_claim 68 = .ok (.iload 5, 2) := by decide +kernel
theorem dX8_claim_70 : decode cX8_claim 70 = .ok (.iconst (-1), 1) := by decide +kernel
theorem dX8_claim_71 : decode cX8_claim 71 = .ok (.if_icmp .eq 14, 3) := by decide +kernel
theorem dX8_claim_74 : decode cX8_claim 74 = .ok (.aload_n 0, 1) := by decide +kernel
theorem dX8_claim_75 : decode cX8_claim 75 = .ok (.getfield 84, 3) := by decide +kernel
theorem dX8_claim_78 : decode cX8_claim 78 = .ok (.iload 5, 2) := by decide +kernel
theorem dX8_claim_80 : decode cX8_claim 80 = .ok (.iaload, 1) := by decide +kernel
theorem dX8_claim_81 : decode cX8_claim 81 = .ok (.iload_n 3, 1) := by decide +kernel
theorem dX8_claim_82 : decode cX8_claim 82 = .ok (.if_icmp .ne 7, 3) := by decide +kernel
theorem dX8_claim_85 : decode cX8_claim 85 = .ok (.iconst 1, 1) := by decide +kernel
theorem dX8_claim_86 : decode cX8_claim 86 = .ok (.goto 4, 3) := by decide +kernel
theorem dX8_claim_89 : decode cX8_claim 89 = .ok (.iconst 0, 1) := by decide +kernel
theorem dX8_claim_90 : decode cX8_claim 90 = .ok (.istore 7, 2) := by decide +kernel
theorem dX8_claim_92 : decode cX8_claim 92 = .ok (.aload_n 0, 1) := by decide +kernel
theorem dX8_claim_93 : decode cX8_claim 93 = .ok (.iload 6, 2) := by decide +kernel
theorem dX8_claim_95 : decode cX8_claim 95 = .ok (.ifCond .ne 7, 3) := by decide +kernel
theorem dX8_claim_98 : decode cX8_claim 98 = .ok (.iconst 1, 1) := by decide +kernel
theorem dX8_claim_99 : decode cX8_claim 99 = .ok (.goto 37, 3) := by decide +kernel
theorem dX8_claim_102 : decode cX8_claim 102 = .ok (.iload 7, 2) := by decide +kernel
theorem dX8_claim_104 : decode cX8_claim 104 = .ok (.ifCond .ne 7, 3) := by decide +kernel
theorem dX8_claim_107 : decode cX8_claim 107 = .ok (.iconst 2, 1) := by decide +kernel
theorem dX8_claim_108 : decode cX8_claim 108 = .ok (.goto 28, 3) := by decide +kernel
theorem dX8_claim_111 : decode cX8_claim 111 = .ok (.iload_n 3, 1) := by decide +kernel
theorem dX8_claim_112 : decode cX8_claim 112 = .ok (.bipush 100, 2) := by decide +kernel
theorem dX8_claim_114 : decode cX8_claim 114 = .ok (.idiv, 1) := by decide +kernel
theorem dX8_claim_115 : decode cX8_claim 115 = .ok (.aload_n 0, 1) := by decide +kernel
theorem dX8_claim_116 : decode cX8_claim 116 = .ok (.getfield 134, 3) := by decide +kernel
theorem dX8_claim_119 : decode cX8_claim 119 = .ok (.if_icmp .lt 12, 3) := by decide +kernel
theorem dX8_claim_122 : decode cX8_claim 122 = .ok (.aload_n 0, 1) := by decide +kernel
theorem dX8_claim_123 : decode cX8_claim 123 = .ok (.getfield 110, 3) := by decide +kernel
theorem dX8_claim_126 : decode cX8_claim 126 = .ok (.bipush 60, 2) := by decide +kernel
theorem dX8_claim_128 : decode cX8_claim 128 = .ok (.if_icmp .ne 7, 3) := by decide +kernel
theorem dX8_claim_131 : decode cX8_claim 131 = .ok (.iconst 3, 1) := by decide +kernel
theorem dX8_claim_132 : decode cX8_claim 132 = .ok (.goto 4, 3) := by decide +kernel
theorem dX8_claim_135 : decode cX8_claim 135 = .ok (.iconst 0, 1) := by decide +kernel
theorem dX8_claim_136 : decode cX8_claim 136 = .ok (.putfield 96, 3) := by decide +kernel
theorem dX8_claim_139 : decode cX8_claim 139 = .ok (.aload_n 0, 1) := by decide +kernel
theorem dX8_claim_140 : decode cX8_claim 140 = .ok (.getfield 96, 3) := by decide +kernel
theorem dX8_claim_143 : decode cX8_claim 143 = .ok (.ifCond .le 5, 3) := by decide +kernel
theorem dX8_claim_146 : decode cX8_claim 146 = .ok (.iconst 0, 1) := by decide +kernel
theorem dX8_claim_147 : decode cX8_claim 147 = .ok (.ireturn, 1) := by decide +kernel
theorem dX8_claim_148 : decode cX8_claim 148 = .ok (.aload_n 0, 1) := by decide +kernel
theorem dX8_claim_149 : decode cX8_claim 149 = .ok (.dup, 1) := by decide +kernel
theorem dX8_claim_150 : decode cX8_claim 150 = .ok (.getfield 148, 3) := by decide +kernel
theorem dX8_claim_153 : decode cX8_claim 153 = .ok (.iload 5, 2) := by decide +kernel
theorem dX8_claim_155 : decode cX8_claim 155 = .ok (.iconst (-1), 1) := by decide +kernel
theorem dX8_claim_156 : decode cX8_claim 156 = .ok (.if_icmp .ne 7, 3) := by decide +kernel
theorem dX8_claim_159 : decode cX8_claim 159 = .ok (.iconst 1, 1) := by decide +kernel
theorem dX8_claim_160 : decode cX8_claim 160 = .ok (.goto 4, 3) := by decide +kernel
theorem dX8_claim_163 : decode cX8_claim 163 = .ok (.iconst 0, 1) := by decide +kernel
theorem dX8_claim_164 : decode cX8_claim 164 = .ok (.iadd, 1) := by decide +kernel
theorem dX8_claim_165 : decode cX8_claim 165 = .ok (.putfield 148, 3) := by decide +kernel
theorem dX8_claim_168 : decode cX8_claim 168 = .ok (.aload_n 0, 1) := by decide +kernel
theorem dX8_claim_169 : decode cX8_claim 169 = .ok (.iload_n 1, 1) := by decide +kernel
theorem dX8_claim_170 : decode cX8_claim 170 = .ok (.iload_n 2, 1) := by decide +kernel
theorem dX8_claim_171 : decode cX8_claim 171 = .ok (.iload_n 3, 1) := by decide +kernel
theorem dX8_claim_172 : decode cX8_claim 172 = .ok (.iload 4, 2) := by decide +kernel
theorem dX8_claim_174 : decode cX8_claim 174 = .ok (.iload 5, 2) := by decide +kernel
theorem dX8_claim_176 : decode cX8_claim 176 = .ok (.iconst (-1), 1) := by decide +kernel
theorem dX8_claim_177 : decode cX8_claim 177 = .ok (.if_icmp .ne 12, 3) := by decide +kernel
theorem dX8_claim_180 : decode cX8_claim 180 = .ok (.aload_n 0, 1) := by decide +kernel
theorem dX8_claim_181 : decode cX8_claim 181 = .ok (.getfield 148, 3) := by decide +kernel
theorem dX8_claim_184 : decode cX8_claim 184 = .ok (.iconst 1, 1) := by decide +kernel
theorem dX8_claim_185 : decode cX8_claim 185 = .ok (.isub, 1) := by decide +kernel
theorem dX8_claim_186 : decode cX8_claim 186 = .ok (.goto 5, 3) := by decide +kernel
theorem dX8_claim_189 : decode cX8_claim 189 = .ok (.iload 5, 2) := by decide +kernel
theorem dX8_claim_191 : decode cX8_claim 191 = .ok (.invokevirtual 154, 3) := by decide +kernel
theorem dX8_claim_194 : decode cX8_claim 194 = .ok (.ireturn, 1) := by decide +kernel
set_option maxRecDepth 20000 in
theorem ggX8_collide_X8_isShip : GoodIn wsX8_collide wsX8_isShip := goodIn_r _ [10, 11, 12, 13, 9, 14, 29, 30, 31, 32, 33, 34, 35, 36, 37, 38, 39, 40, 41, 42, 43, 44, 45, 46, 47, 48, 49, 50, 51, 52, 53, 54, 55, 56, 57, 58, 59, 60, 61, 62, 63, 64, 65] (by decide +kernel) (by decide +kernel)
set_option maxRecDepth 20000 in
theorem gX8_collide_X8_isShip : GoodIn wsX8_collide (wsV RX8 121 RX8 yX8_isShip wsX8_isShip) := goodIn_app (goodIn_of _ (by decide +kernel)) ggX8_collide_X8_isShip
set_option maxRecDepth 20000 in
theorem ggX8_collide_X8_isIn : GoodIn wsX8_collide wsX8_isIn := goodIn_r _ [14] (by decide +kernel) (by decide +kernel)
set_option maxRecDepth 20000 in
theorem gX8_collide_X8_isIn : GoodIn wsX8_collide (va_wsS RX8 103 yX8_isIn wsX8_isIn) := goodIn_app (goodIn_of _ (by decide +kernel)) ggX8_collide_X8_isIn
set_option maxRecDepth 20000 in
theorem ggX8_collide_X8_isLoss : GoodIn wsX8_collide wsX8_isLoss := goodIn_r _ [17, 18, 12, 13, 9, 14] (by decide +kernel) (by decide +kernel)
set_option maxRecDepth 20000 in
theorem gX8_collide_X8_isLoss : GoodIn wsX8_collide (va_wsS RX8 151 yX8_isLoss wsX8_isLoss) := goodIn_app (goodIn_of _ (by decide +kernel)) ggX8_collide_X8_isLoss
set_option maxRecDepth 20000 in
theorem ggX8_collide_X8_adds : GoodIn wsX8_collide wsX8_adds := goodIn_r _ [22, 23, 1, 24, 25, 26, 27, 28, 29, 30, 31, 32, 33, 34, 35, 36, 37, 38, 39, 40, 41, 42, 43, 44, 45, 46, 47, 48, 49, 50, 51, 52, 53, 54, 55, 56, 57, 58, 59, 60, 61, 62, 63, 64, 65] (by decide +kernel) (by decide +kernel)
set_option maxRecDepth 20000 in
theorem gX8_collide_X8_adds : GoodIn wsX8_collide (wsV RX8 154 RX8 yX8_adds wsX8_adds) := goodIn_app (goodIn_of _ (by decide +kernel)) ggX8_collide_X8_adds
theorem dX8_collide_0 : decode cX8_collide 0 = .ok (.aload_n 0, 1) := by decide +kernel
theorem dX8_collide_1 : decode cX8_collide 1 = .ok (.iload_n 1, 1) := by decide +kernel
theorem dX8_collide_2 : decode cX8_collide 2 = .ok (.invokevirtual 121, 3) := by decide +kernel
theorem dX8_collide_5 : decode cX8_collide 5 = .ok (.ifCond .eq 15, 3) := by decide +kernel
theorem dX8_collide_8 : decode cX8_collide 8 = .ok (.aload_n 0, 1) := by decide +kernel
theorem dX8_collide_9 : decode cX8_collide 9 = .ok (.iload_n 2, 1) := by decide +kernel
theorem dX8_collide_10 : decode cX8_collide 10 = .ok (.invokevirtual 121, 3) := by decide +kernel
theorem dX8_collide_13 : decode cX8_collide 13 = .ok (.ifCond .eq 7, 3) := by decide +kernel
theorem dX8_collide_16 : decode cX8_collide 16 = .ok (.iconst 1, 1) := by decide +kernel
theorem dX8_collide_17 : decode cX8_collide 17 = .ok (.goto 4, 3) := by decide +kernel
theorem dX8_collide_20 : decode cX8_collide 20 = .ok (.iconst 0, 1) := by decide +kernel
theorem dX8_collide_21 : decode cX8_collide 21 = .ok (.istore 6, 2) := by decide +kernel
theorem dX8_collide_23 : decode cX8_collide 23 = .ok (.iload_n 1, 1) := by decide +kernel
theorem dX8_collide_24 : decode cX8_collide 24 = .ok (.iload_n 2, 1) := by decide +kernel
theorem dX8_collide_25 : decode cX8_collide 25 = .ok (.if_icmp .eq 33, 3) := by decide +kernel
theorem dX8_collide_28 : decode cX8_collide 28 = .ok (.iload_n 3, 1) := by decide +kernel
theorem dX8_collide_29 : decode cX8_collide 29 = .ok (.iconst 0, 1) := by decide +kernel
theorem dX8_collide_30 : decode cX8_collide 30 = .ok (.bipush 100, 2) := by decide +kernel
theorem dX8_collide_32 : decode cX8_collide 32 = .ok (.invokestatic 103, 3) := by decide +kernel
theorem dX8_collide_35 : decode cX8_collide 35 = .ok (.ifCond .eq 23, 3) := by decide +kernel
theorem dX8_collide_38 : decode cX8_collide 38 = .ok (.iload 4, 2) := by decide +kernel
theorem dX8_collide_40 : decode cX8_collide 40 = .ok (.invokestatic 151, 3) := by decide +kernel
theorem dX8_collide_43 : decode cX8_collide 43 = .ok (.ifCond .eq 15, 3) := by decide +kernel
theorem dX8_collide_46 : decode cX8_collide 46 = .ok (.iload 5, 2) := by decide +kernel
theorem dX8_collide_48 : decode cX8_collide 48 = .ok (.invokestatic 151, 3) := by decide +kernel
theorem dX8_collide_51 : decode cX8_collide 51 = .ok (.ifCond .eq 7, 3) := by decide +kernel
theorem dX8_collide_54 : decode cX8_collide 54 = .ok (.iconst 1, 1) := by decide +kernel
theorem dX8_collide_55 : decode cX8_collide 55 = .ok (.goto 4, 3) := by decide +kernel
theorem dX8_collide_58 : decode cX8_collide 58 = .ok (.iconst 0, 1) := by decide +kernel
theorem dX8_collide_59 : decode cX8_collide 59 = .ok (.istore 7, 2) := by decide +kernel
theorem dX8_collide_61 : decode cX8_collide 61 = .ok (.aload_n 0, 1) := by decide +kernel
theorem dX8_collide_62 : decode cX8_collide 62 = .ok (.iload 6, 2) := by decide +kernel
theorem dX8_collide_64 : decode cX8_collide 64 = .ok (.ifCond .ne 7, 3) := by decide +kernel
theorem dX8_collide_67 : decode cX8_collide 67 = .ok (.iconst 1, 1) := by decide +kernel
theorem dX8_collide_68 : decode cX8_collide 68 = .ok (.goto 26, 3) := by decide +kernel
theorem dX8_collide_71 : decode cX8_collide 71 = .ok (.iload 7, 2) := by decide +kernel
theorem dX8_collide_73 : decode cX8_collide 73 = .ok (.ifCond .ne 7, 3) := by decide +kernel
theorem dX8_collide_76 : decode cX8_collide 76 = .ok (.iconst 2, 1) := by decide +kernel
theorem dX8_collide_77 : decode cX8_collide 77 = .ok (.goto 17, 3) := by decide +kernel
theorem dX8_collide_80 : decode cX8_collide 80 = .ok (.aload_n 0, 1) := by decide +kernel
theorem dX8_collide_81 : decode cX8_collide 81 = .ok (.getfield 110, 3) := by decide +kernel
theorem dX8_collide_84 : decode cX8_collide 84 = .ok (.bipush 58, 2) := by decide +kernel
theorem dX8_collide_86 : decode cX8_collide 86 = .ok (.if_icmp .le 7, 3) := by decide +kernel
theorem dX8_collide_89 : decode cX8_collide 89 = .ok (.iconst 3, 1) := by decide +kernel
theorem dX8_collide_90 : decode cX8_collide 90 = .ok (.goto 4, 3) := by decide +kernel
theorem dX8_collide_93 : decode cX8_collide 93 = .ok (.iconst 0, 1) := by decide +kernel
theorem dX8_collide_94 : decode cX8_collide 94 = .ok (.putfield 96, 3) := by decide +kernel
theorem dX8_collide_97 : decode cX8_collide 97 = .ok (.aload_n 0, 1) := by decide +kernel
theorem dX8_collide_98 : decode cX8_collide 98 = .ok (.getfield 96, 3) := by decide +kernel
theorem dX8_collide_101 : decode cX8_collide 101 = .ok (.ifCond .le 5, 3) := by decide +kernel
theorem dX8_collide_104 : decode cX8_collide 104 = .ok (.iconst 0, 1) := by decide +kernel
theorem dX8_collide_105 : decode cX8_collide 105 = .ok (.ireturn, 1) := by decide +kernel
theorem dX8_collide_106 : decode cX8_collide 106 = .ok (.aload_n 0, 1) := by decide +kernel
theorem dX8_collide_107 : decode cX8_collide 107 = .ok (.dup, 1) := by decide +kernel
theorem dX8_collide_108 : decode cX8_collide 108 = .ok (.getfield 148, 3) := by decide +kernel
theorem dX8_collide_111 : decode cX8_collide 111 = .ok (.iconst 1, 1) := by decide +kernel
theorem dX8_collide_112 : decode cX8_collide 112 = .ok (.iadd, 1) := by decide +kernel
theorem dX8_collide_113 : decode cX8_collide 113 = .ok (.putfield 148, 3) := by decide +kernel
theorem dX8_collide_116 : decode cX8_collide 116 = .ok (.aload_n 0, 1) := by decide +kernel
theorem dX8_collide_117 : decode cX8_collide 117 = .ok (.iload_n 1, 1) := by decide +kernel
theorem dX8_collide_118 : decode cX8_collide 118 = .ok (.iconst 2, 1) := by decide +kernel
theorem dX8_collide_119 : decode cX8_collide 119 = .ok (.aload_n 0, 1) := by decide +kernel
theorem dX8_collide_120 : decode cX8_collide 120 = .ok (.getfield 128, 3) := by decide +kernel
theorem dX8_collide_123 : decode cX8_collide 123 = .ok (.iload 5, 2) := by decide +kernel
theorem dX8_collide_125 : decode cX8_collide 125 = .ok (.i2l, 1) := by decide +kernel
theorem dX8_collide_126 : decode cX8_collide 126 = .ok (.iload_n 3, 1) := by decide +kernel
theorem dX8_collide_127 : decode cX8_collide 127 = .ok (.i2l, 1) := by decide +kernel
theorem dX8_collide_128 : decode cX8_collide 128 = .ok (.lmul, 1) := by decide +kernel
theorem dX8_collide_129 : decode cX8_collide 129 = .ok (.ldc2_w 137, 3) := by decide +kernel
theorem dX8_collide_132 : decode cX8_collide 132 = .ok (.ldiv, 1) := by decide +kernel
theorem dX8_collide_133 : decode cX8_collide 133 = .ok (.l2i, 1) := by decide +kernel
theorem dX8_collide_134 : decode cX8_collide 134 = .ok (.aload_n 0, 1) := by decide +kernel
theorem dX8_collide_135 : decode cX8_collide 135 = .ok (.getfield 148, 3) := by decide +kernel
theorem dX8_collide_138 : decode cX8_collide 138 = .ok (.iconst 1, 1) := by decide +kernel
theorem dX8_collide_139 : decode cX8_collide 139 = .ok (.isub, 1) := by decide +kernel
theorem dX8_collide_140 : decode cX8_collide 140 = .ok (.invokevirtual 154, 3) := by decide +kernel
theorem dX8_collide_143 : decode cX8_collide 143 = .ok (.pop, 1) := by decide +kernel
theorem dX8_collide_144 : decode cX8_collide 144 = .ok (.aload_n 0, 1) := by decide +kernel
theorem dX8_collide_145 : decode cX8_collide 145 = .ok (.iload_n 2, 1) := by decide +kernel
theorem dX8_collide_146 : decode cX8_collide 146 = .ok (.iconst 2, 1) := by decide +kernel
theorem dX8_collide_147 : decode cX8_collide 147 = .ok (.aload_n 0, 1) := by decide +kernel
theorem dX8_collide_148 : decode cX8_collide 148 = .ok (.getfield 128, 3) := by decide +kernel
theorem dX8_collide_151 : decode cX8_collide 151 = .ok (.iload 4, 2) := by decide +kernel
theorem dX8_collide_153 : decode cX8_collide 153 = .ok (.i2l, 1) := by decide +kernel
theorem dX8_collide_154 : decode cX8_collide 154 = .ok (.bipush 100, 2) := by decide +kernel
theorem dX8_collide_156 : decode cX8_collide 156 = .ok (.iload_n 3, 1) := by decide +kernel
theorem dX8_collide_157 : decode cX8_collide 157 = .ok (.isub, 1) := by decide +kernel
theorem dX8_collide_158 : decode cX8_collide 158 = .ok (.i2l, 1) := by decide +kernel
theorem dX8_collide_159 : decode cX8_collide 159 = .ok (.lmul, 1) := by decide +kernel
theorem dX8_collide_160 : decode cX8_collide 160 = .ok (.ldc2_w 137, 3) := by decide +kernel
theorem dX8_collide_163 : decode cX8_collide 163 = .ok (.ldiv, 1) := by decide +kernel
theorem dX8_collide_164 : decode cX8_collide 164 = .ok (.l2i, 1) := by decide +kernel
theorem dX8_collide_165 : decode cX8_collide 165 = .ok (.aload_n 0, 1) := by decide +kernel
theorem dX8_collide_166 : decode cX8_collide 166 = .ok (.getfield 148, 3) := by decide +kernel
theorem dX8_collide_169 : decode cX8_collide 169 = .ok (.iconst 1, 1) := by decide +kernel
theorem dX8_collide_170 : decode cX8_collide 170 = .ok (.isub, 1) := by decide +kernel
theorem dX8_collide_171 : decode cX8_collide 171 = .ok (.invokevirtual 154, 3) := by decide +kernel
theorem dX8_collide_174 : decode cX8_collide 174 = .ok (.iconst 1, 1) := by decide +kernel
theorem dX8_collide_175 : decode cX8_collide 175 = .ok (.isub, 1) := by decide +kernel
theorem dX8_collide_176 : decode cX8_collide 176 = .ok (.ireturn, 1) := by decide +kernel
set_option maxRecDepth 20000 in
theorem ggX8_estimate_X8_isClaim : GoodIn wsX8_estimate wsX8_isClaim := goodIn_r _ [8, 9, 10, 11, 7, 12, 17, 18, 19, 20, 21, 22, 23, 24, 25, 26, 27, 28, 29, 30, 31, 32, 33, 34, 35, 36, 37, 38, 39, 40, 41, 42, 43, 44, 45, 46, 47, 48, 49, 50, 51, 52, 53] (by decide +kernel) (by decide +kernel)
set_option maxRecDepth 20000 in
theorem gX8_estimate_X8_isClaim : GoodIn wsX8_estimate (wsV RX8 158 RX8 yX8_isClaim wsX8_isClaim) := goodIn_app (goodIn_of _ (by decide +kernel)) ggX8_estimate_X8_isClaim
set_option maxRecDepth 20000 in
theorem ggX8_estimate_X8_isLoss : GoodIn wsX8_estimate wsX8_isLoss := goodIn_r _ [15, 16, 10, 11, 7, 12] (by decide +kernel) (by decide +kernel)
set_option maxRecDepth 20000 in
theorem gX8_estimate_X8_isLoss : GoodIn wsX8_estimate (va_wsS RX8 151 yX8_isLoss wsX8_isLoss) := goodIn_app (goodIn_of _ (by decide +kernel)) ggX8_estimate_X8_isLoss
theorem dX8_estimate_0 : decode cX8_estimate 0 = .ok (.aload_n 0, 1) := by decide +kernel
theorem dX8_estimate_1 : decode cX8_estimate 1 = .ok (.iload_n 1, 1) := by decide +kernel
theorem dX8_estimate_2 : decode cX8_estimate 2 = .ok (.invokevirtual 158, 3) := by decide +kernel
theorem dX8_estimate_5 : decode cX8_estimate 5 = .ok (.istore_n 3, 1) := by decide +kernel
theorem dX8_estimate_6 : decode cX8_estimate 6 = .ok (.aload_n 0, 1) := by decide +kernel
theorem dX8_estimate_7 : decode cX8_estimate 7 = .ok (.iload_n 3, 1) := by decide +kernel
theorem dX8_estimate_8 : decode cX8_estimate 8 = .ok (.ifCond .ne 7, 3) := by decide +kernel
theorem dX8_estimate_11 : decode cX8_estimate 11 = .ok (.iconst 1, 1) := by decide +kernel
theorem dX8_estimate_12 : decode cX8_estimate 12 = .ok (.goto 28, 3) := by decide +kernel
theorem dX8_estimate_15 : decode cX8_estimate 15 = .ok (.iload_n 2, 1) := by decide +kernel
theorem dX8_estimate_16 : decode cX8_estimate 16 = .ok (.invokestatic 151, 3) := by decide +kernel
theorem dX8_estimate_19 : decode cX8_estimate 19 = .ok (.ifCond .ne 7, 3) := by decide +kernel
theorem dX8_estimate_22 : decode cX8_estimate 22 = .ok (.iconst 2, 1) := by decide +kernel
theorem dX8_estimate_23 : decode cX8_estimate 23 = .ok (.goto 17, 3) := by decide +kernel
theorem dX8_estimate_26 : decode cX8_estimate 26 = .ok (.aload_n 0, 1) := by decide +kernel
theorem dX8_estimate_27 : decode cX8_estimate 27 = .ok (.getfield 71, 3) := by decide +kernel
theorem dX8_estimate_30 : decode cX8_estimate 30 = .ok (.iload_n 1, 1) := by decide +kernel
theorem dX8_estimate_31 : decode cX8_estimate 31 = .ok (.baload, 1) := by decide +kernel
theorem dX8_estimate_32 : decode cX8_estimate 32 = .ok (.ifCond .eq 7, 3) := by decide +kernel
theorem dX8_estimate_35 : decode cX8_estimate 35 = .ok (.iconst 3, 1) := by decide +kernel
theorem dX8_estimate_36 : decode cX8_estimate 36 = .ok (.goto 4, 3) := by decide +kernel
theorem dX8_estimate_39 : decode cX8_estimate 39 = .ok (.iconst 0, 1) := by decide +kernel
theorem dX8_estimate_40 : decode cX8_estimate 40 = .ok (.putfield 96, 3) := by decide +kernel
theorem dX8_estimate_43 : decode cX8_estimate 43 = .ok (.aload_n 0, 1) := by decide +kernel
theorem dX8_estimate_44 : decode cX8_estimate 44 = .ok (.getfield 96, 3) := by decide +kernel
theorem dX8_estimate_47 : decode cX8_estimate 47 = .ok (.ifCond .le 5, 3) := by decide +kernel
theorem dX8_estimate_50 : decode cX8_estimate 50 = .ok (.iconst 0, 1) := by decide +kernel
theorem dX8_estimate_51 : decode cX8_estimate 51 = .ok (.ireturn, 1) := by decide +kernel
theorem dX8_estimate_52 : decode cX8_estimate 52 = .ok (.aload_n 0, 1) := by decide +kernel
theorem dX8_estimate_53 : decode cX8_estimate 53 = .ok (.getfield 65, 3) := by decide +kernel
theorem dX8_estimate_56 : decode cX8_estimate 56 = .ok (.iload_n 1, 1) := by decide +kernel
theorem dX8_estimate_57 : decode cX8_estimate 57 = .ok (.iaload, 1) := by decide +kernel
theorem dX8_estimate_58 : decode cX8_estimate 58 = .ok (.istore 4, 2) := by decide +kernel
theorem dX8_estimate_60 : decode cX8_estimate 60 = .ok (.aload_n 0, 1) := by decide +kernel
theorem dX8_estimate_61 : decode cX8_estimate 61 = .ok (.getfield 65, 3) := by decide +kernel
theorem dX8_estimate_64 : decode cX8_estimate 64 = .ok (.iload_n 1, 1) := by decide +kernel
theorem dX8_estimate_65 : decode cX8_estimate 65 = .ok (.iload_n 2, 1) := by decide +kernel
theorem dX8_estimate_66 : decode cX8_estimate 66 = .ok (.iastore, 1) := by decide +kernel
theorem dX8_estimate_67 : decode cX8_estimate 67 = .ok (.iload 4, 2) := by decide +kernel
theorem dX8_estimate_69 : decode cX8_estimate 69 = .ok (.ireturn, 1) := by decide +kernel
set_option maxRecDepth 20000 in
theorem ggX8_settle_X8_isClaim : GoodIn wsX8_settle wsX8_isClaim := goodIn_r _ [8, 9, 10, 11, 7, 12, 13, 14, 15, 16, 17, 18, 19, 20, 21, 22, 23, 24, 25, 26, 27, 28, 29, 30, 31, 32, 33, 34, 35, 36, 37, 38, 39, 40, 41, 42, 43, 44, 45, 46, 47, 48, 49] (by decide +kernel) (by decide +kernel)
set_option maxRecDepth 20000 in
theorem gX8_settle_X8_isClaim : GoodIn wsX8_settle (wsV RX8 158 RX8 yX8_isClaim wsX8_isClaim) := goodIn_app (goodIn_of _ (by decide +kernel)) ggX8_settle_X8_isClaim
theorem dX8_settle_0 : decode cX8_settle 0 = .ok (.aload_n 0, 1) := by decide +kernel
theorem dX8_settle_1 : decode cX8_settle 1 = .ok (.iload_n 1, 1) := by decide +kernel
theorem dX8_settle_2 : decode cX8_settle 2 = .ok (.invokevirtual 158, 3) := by decide +kernel
theorem dX8_settle_5 : decode cX8_settle 5 = .ok (.istore_n 3, 1) := by decide +kernel
theorem dX8_settle_6 : decode cX8_settle 6 = .ok (.aload_n 0, 1) := by decide +kernel
theorem dX8_settle_7 : decode cX8_settle 7 = .ok (.iload_n 3, 1) := by decide +kernel
theorem dX8_settle_8 : decode cX8_settle 8 = .ok (.ifCond .ne 7, 3) := by decide +kernel
theorem dX8_settle_11 : decode cX8_settle 11 = .ok (.iconst 1, 1) := by decide +kernel
theorem dX8_settle_12 : decode cX8_settle 12 = .ok (.goto 17, 3) := by decide +kernel
theorem dX8_settle_15 : decode cX8_settle 15 = .ok (.aload_n 0, 1) := by decide +kernel
theorem dX8_settle_16 : decode cX8_settle 16 = .ok (.getfield 71, 3) := by decide +kernel
theorem dX8_settle_19 : decode cX8_settle 19 = .ok (.iload_n 1, 1) := by decide +kernel
theorem dX8_settle_20 : decode cX8_settle 20 = .ok (.baload, 1) := by decide +kernel
theorem dX8_settle_21 : decode cX8_settle 21 = .ok (.ifCond .eq 7, 3) := by decide +kernel
theorem dX8_settle_24 : decode cX8_settle 24 = .ok (.iconst 2, 1) := by decide +kernel
theorem dX8_settle_25 : decode cX8_settle 25 = .ok (.goto 4, 3) := by decide +kernel
theorem dX8_settle_28 : decode cX8_settle 28 = .ok (.iconst 0, 1) := by decide +kernel
theorem dX8_settle_29 : decode cX8_settle 29 = .ok (.putfield 96, 3) := by decide +kernel
theorem dX8_settle_32 : decode cX8_settle 32 = .ok (.aload_n 0, 1) := by decide +kernel
theorem dX8_settle_33 : decode cX8_settle 33 = .ok (.getfield 96, 3) := by decide +kernel
theorem dX8_settle_36 : decode cX8_settle 36 = .ok (.ifCond .ne 30, 3) := by decide +kernel
theorem dX8_settle_39 : decode cX8_settle 39 = .ok (.aload_n 0, 1) := by decide +kernel
theorem dX8_settle_40 : decode cX8_settle 40 = .ok (.getfield 71, 3) := by decide +kernel
theorem dX8_settle_43 : decode cX8_settle 43 = .ok (.iload_n 1, 1) := by decide +kernel
theorem dX8_settle_44 : decode cX8_settle 44 = .ok (.iconst 1, 1) := by decide +kernel
theorem dX8_settle_45 : decode cX8_settle 45 = .ok (.bastore, 1) := by decide +kernel
theorem dX8_settle_46 : decode cX8_settle 46 = .ok (.aload_n 0, 1) := by decide +kernel
theorem dX8_settle_47 : decode cX8_settle 47 = .ok (.getfield 65, 3) := by decide +kernel
theorem dX8_settle_50 : decode cX8_settle 50 = .ok (.iload_n 1, 1) := by decide +kernel
theorem dX8_settle_51 : decode cX8_settle 51 = .ok (.iload_n 2, 1) := by decide +kernel
theorem dX8_settle_52 : decode cX8_settle 52 = .ok (.ifCond .eq 7, 3) := by decide +kernel
theorem dX8_settle_55 : decode cX8_settle 55 = .ok (.iconst 0, 1) := by decide +kernel
theorem dX8_settle_56 : decode cX8_settle 56 = .ok (.goto 9, 3) := by decide +kernel
theorem dX8_settle_59 : decode cX8_settle 59 = .ok (.aload_n 0, 1) := by decide +kernel
theorem dX8_settle_60 : decode cX8_settle 60 = .ok (.getfield 65, 3) := by decide +kernel
theorem dX8_settle_63 : decode cX8_settle 63 = .ok (.iload_n 1, 1) := by decide +kernel
theorem dX8_settle_64 : decode cX8_settle 64 = .ok (.iaload, 1) := by decide +kernel
theorem dX8_settle_65 : decode cX8_settle 65 = .ok (.iastore, 1) := by decide +kernel
theorem dX8_settle_66 : decode cX8_settle 66 = .ok (.return_, 1) := by decide +kernel
set_option maxRecDepth 20000 in
theorem ggX8_broken_X8_isClaim : GoodIn wsX8_broken wsX8_isClaim := goodIn_r _ [8, 9, 10, 11, 7, 12, 13, 14, 15, 16, 17, 18, 19, 20, 21, 22, 23, 24, 25, 26, 27, 28, 29, 30, 31, 32, 33, 34, 35, 36, 37, 38, 39, 40, 41, 42, 43, 44, 45, 46, 47, 48, 49] (by decide +kernel) (by decide +kernel)
set_option maxRecDepth 20000 in
theorem gX8_broken_X8_isClaim : GoodIn wsX8_broken (wsV RX8 158 RX8 yX8_isClaim wsX8_isClaim) := goodIn_app (goodIn_of _ (by decide +kernel)) ggX8_broken_X8_isClaim
theorem dX8_broken_0 : decode cX8_broken 0 = .ok (.aload_n 0, 1) := by decide +kernel
theorem dX8_broken_1 : decode cX8_broken 1 = .ok (.iload_n 1, 1) := by decide +kernel
theorem dX8_broken_2 : decode cX8_broken 2 = .ok (.invokevirtual 158, 3) := by decide +kernel
theorem dX8_broken_5 : decode cX8_broken 5 = .ok (.istore_n 2, 1) := by decide +kernel
theorem dX8_broken_6 : decode cX8_broken 6 = .ok (.aload_n 0, 1) := by decide +kernel
theorem dX8_broken_7 : decode cX8_broken 7 = .ok (.iload_n 2, 1) := by decide +kernel
theorem dX8_broken_8 : decode cX8_broken 8 = .ok (.ifCond .ne 7, 3) := by decide +kernel
theorem dX8_broken_11 : decode cX8_broken 11 = .ok (.iconst 1, 1) := by decide +kernel
theorem dX8_broken_12 : decode cX8_broken 12 = .ok (.goto 26, 3) := by decide +kernel
theorem dX8_broken_15 : decode cX8_broken 15 = .ok (.aload_n 0, 1) := by decide +kernel
theorem dX8_broken_16 : decode cX8_broken 16 = .ok (.getfield 71, 3) := by decide +kernel
theorem dX8_broken_19 : decode cX8_broken 19 = .ok (.iload_n 1, 1) := by decide +kernel
theorem dX8_broken_20 : decode cX8_broken 20 = .ok (.baload, 1) := by decide +kernel
theorem dX8_broken_21 : decode cX8_broken 21 = .ok (.ifCond .ne 12, 3) := by decide +kernel
theorem dX8_broken_24 : decode cX8_broken 24 = .ok (.aload_n 0, 1) := by decide +kernel
theorem dX8_broken_25 : decode cX8_broken 25 = .ok (.getfield 75, 3) := by decide +kernel
theorem dX8_broken_28 : decode cX8_broken 28 = .ok (.iload_n 1, 1) := by decide +kernel
theorem dX8_broken_29 : decode cX8_broken 29 = .ok (.baload, 1) := by decide +kernel
theorem dX8_broken_30 : decode cX8_broken 30 = .ok (.ifCond .eq 7, 3) := by decide +kernel
theorem dX8_broken_33 : decode cX8_broken 33 = .ok (.iconst 2, 1) := by decide +kernel
theorem dX8_broken_34 : decode cX8_broken 34 = .ok (.goto 4, 3) := by decide +kernel
theorem dX8_broken_37 : decode cX8_broken 37 = .ok (.iconst 0, 1) := by decide +kernel
theorem dX8_broken_38 : decode cX8_broken 38 = .ok (.putfield 96, 3) := by decide +kernel
theorem dX8_broken_41 : decode cX8_broken 41 = .ok (.aload_n 0, 1) := by decide +kernel
theorem dX8_broken_42 : decode cX8_broken 42 = .ok (.getfield 96, 3) := by decide +kernel
theorem dX8_broken_45 : decode cX8_broken 45 = .ok (.ifCond .ne 10, 3) := by decide +kernel
theorem dX8_broken_48 : decode cX8_broken 48 = .ok (.aload_n 0, 1) := by decide +kernel
theorem dX8_broken_49 : decode cX8_broken 49 = .ok (.getfield 75, 3) := by decide +kernel
theorem dX8_broken_52 : decode cX8_broken 52 = .ok (.iload_n 1, 1) := by decide +kernel
theorem dX8_broken_53 : decode cX8_broken 53 = .ok (.iconst 1, 1) := by decide +kernel
theorem dX8_broken_54 : decode cX8_broken 54 = .ok (.bastore, 1) := by decide +kernel
theorem dX8_broken_55 : decode cX8_broken 55 = .ok (.return_, 1) := by decide +kernel
theorem dX8_isCovered_0 : decode cX8_isCovered 0 = .ok (.aload_n 0, 1) := by decide +kernel
theorem dX8_isCovered_1 : decode cX8_isCovered 1 = .ok (.getfield 62, 3) := by decide +kernel
theorem dX8_isCovered_4 : decode cX8_isCovered 4 = .ok (.iload_n 1, 1) := by decide +kernel
theorem dX8_isCovered_5 : decode cX8_isCovered 5 = .ok (.iaload, 1) := by decide +kernel
theorem dX8_isCovered_6 : decode cX8_isCovered 6 = .ok (.bipush 100, 2) := by decide +kernel
theorem dX8_isCovered_8 : decode cX8_isCovered 8 = .ok (.idiv, 1) := by decide +kernel
theorem dX8_isCovered_9 : decode cX8_isCovered 9 = .ok (.aload_n 0, 1) := by decide +kernel
theorem dX8_isCovered_10 : decode cX8_isCovered 10 = .ok (.getfield 134, 3) := by decide +kernel
theorem dX8_isCovered_13 : decode cX8_isCovered 13 = .ok (.if_icmp .ge 10, 3) := by decide +kernel
theorem dX8_isCovered_16 : decode cX8_isCovered 16 = .ok (.aload_n 0, 1) := by decide +kernel
theorem dX8_isCovered_17 : decode cX8_isCovered 17 = .ok (.getfield 78, 3) := by decide +kernel
theorem dX8_isCovered_20 : decode cX8_isCovered 20 = .ok (.iload_n 1, 1) := by decide +kernel
theorem dX8_isCovered_21 : decode cX8_isCovered 21 = .ok (.baload, 1) := by decide +kernel
theorem dX8_isCovered_22 : decode cX8_isCovered 22 = .ok (.ireturn, 1) := by decide +kernel
theorem dX8_isCovered_23 : decode cX8_isCovered 23 = .ok (.iconst 0, 1) := by decide +kernel
theorem dX8_isCovered_24 : decode cX8_isCovered 24 = .ok (.istore_n 2, 1) := by decide +kernel
theorem dX8_isCovered_25 : decode cX8_isCovered 25 = .ok (.iconst 0, 1) := by decide +kernel
theorem dX8_isCovered_26 : decode cX8_isCovered 26 = .ok (.istore_n 3, 1) := by decide +kernel
theorem dX8_isCovered_27 : decode cX8_isCovered 27 = .ok (.iload_n 3, 1) := by decide +kernel
theorem dX8_isCovered_28 : decode cX8_isCovered 28 = .ok (.aload_n 0, 1) := by decide +kernel
theorem dX8_isCovered_29 : decode cX8_isCovered 29 = .ok (.getfield 118, 3) := by decide +kernel
theorem dX8_isCovered_32 : decode cX8_isCovered 32 = .ok (.if_icmp .ge 86, 3) := by decide +kernel
theorem dX8_isCovered_35 : decode cX8_isCovered 35 = .ok (.aload_n 0, 1) := by decide +kernel
theorem dX8_isCovered_36 : decode cX8_isCovered 36 = .ok (.getfield 35, 3) := by decide +kernel
theorem dX8_isCovered_39 : decode cX8_isCovered 39 = .ok (.iload_n 3, 1) := by decide +kernel
theorem dX8_isCovered_40 : decode cX8_isCovered 40 = .ok (.iaload, 1) := by decide +kernel
theorem dX8_isCovered_41 : decode cX8_isCovered 41 = .ok (.aload_n 0, 1) := by decide +kernel
theorem dX8_isCovered_42 : decode cX8_isCovered 42 = .ok (.getfield 62, 3) := by decide +kernel
theorem dX8_isCovered_45 : decode cX8_isCovered 45 = .ok (.iload_n 1, 1) := by decide +kernel
theorem dX8_isCovered_46 : decode cX8_isCovered 46 = .ok (.iaload, 1) := by decide +kernel
theorem dX8_isCovered_47 : decode cX8_isCovered 47 = .ok (.if_icmp .gt 32, 3) := by decide +kernel
theorem dX8_isCovered_50 : decode cX8_isCovered 50 = .ok (.aload_n 0, 1) := by decide +kernel
theorem dX8_isCovered_51 : decode cX8_isCovered 51 = .ok (.getfield 38, 3) := by decide +kernel
theorem dX8_isCovered_54 : decode cX8_isCovered 54 = .ok (.iload_n 3, 1) := by decide +kernel
theorem dX8_isCovered_55 : decode cX8_isCovered 55 = .ok (.iaload, 1) := by decide +kernel
theorem dX8_isCovered_56 : decode cX8_isCovered 56 = .ok (.iconst (-1), 1) := by decide +kernel
theorem dX8_isCovered_57 : decode cX8_isCovered 57 = .ok (.if_icmp .eq 18, 3) := by decide +kernel
theorem dX8_isCovered_60 : decode cX8_isCovered 60 = .ok (.aload_n 0, 1) := by decide +kernel
theorem dX8_isCovered_61 : decode cX8_isCovered 61 = .ok (.getfield 62, 3) := by decide +kernel
theorem dX8_isCovered_64 : decode cX8_isCovered 64 = .ok (.iload_n 1, 1) := by decide +kernel
theorem dX8_isCovered_65 : decode cX8_isCovered 65 = .ok (.iaload, 1) := by decide +kernel
theorem dX8_isCovered_66 : decode cX8_isCovered 66 = .ok (.aload_n 0, 1) := by decide +kernel
theorem dX8_isCovered_67 : decode cX8_isCovered 67 = .ok (.getfield 38, 3) := by decide +kernel
theorem dX8_isCovered_70 : decode cX8_isCovered 70 = .ok (.iload_n 3, 1) := by decide +kernel
theorem dX8_isCovered_71 : decode cX8_isCovered 71 = .ok (.iaload, 1) := by decide +kernel
theorem dX8_isCovered_72 : decode cX8_isCovered 72 = .ok (.if_icmp .ge 7, 3) := by decide +kernel
theorem dX8_isCovered_75 : decode cX8_isCovered 75 = .ok (.iconst 1, 1) := by decide +kernel
theorem dX8_isCovered_76 : decode cX8_isCovered 76 = .ok (.goto 4, 3) := by decide +kernel
theorem dX8_isCovered_79 : decode cX8_isCovered 79 = .ok (.iconst 0, 1) := by decide +kernel
theorem dX8_isCovered_80 : decode cX8_isCovered 80 = .ok (.istore 4, 2) := by decide +kernel
theorem dX8_isCovered_82 : decode cX8_isCovered 82 = .ok (.iload_n 2, 1) := by decide +kernel
theorem dX8_isCovered_83 : decode cX8_isCovered 83 = .ok (.ifCond .ne 23, 3) := by decide +kernel
theorem dX8_isCovered_86 : decode cX8_isCovered 86 = .ok (.aload_n 0, 1) := by decide +kernel
theorem dX8_isCovered_87 : decode cX8_isCovered 87 = .ok (.getfield 32, 3) := by decide +kernel
theorem dX8_isCovered_90 : decode cX8_isCovered 90 = .ok (.iload_n 3, 1) := by decide +kernel
theorem dX8_isCovered_91 : decode cX8_isCovered 91 = .ok (.iaload, 1) := by decide +kernel
theorem dX8_isCovered_92 : decode cX8_isCovered 92 = .ok (.aload_n 0, 1) := by decide +kernel
theorem dX8_isCovered_93 : decode cX8_isCovered 93 = .ok (.getfield 56, 3) := by decide +kernel
theorem dX8_isCovered_96 : decode cX8_isCovered 96 = .ok (.iload_n 1, 1) := by decide +kernel
theorem dX8_isCovered_97 : decode cX8_isCovered 97 = .ok (.iaload, 1) := by decide +kernel
theorem dX8_isCovered_98 : decode cX8_isCovered 98 = .ok (.if_icmp .ne 12, 3) := by decide +kernel
theorem dX8_isCovered_101 : decode cX8_isCovered 101 = .ok (.iload 4, 2) := by decide +kernel
theorem dX8_isCovered_103 : decode cX8_isCovered 103 = .ok (.ifCond .eq 7, 3) := by decide +kernel
theorem dX8_isCovered_106 : decode cX8_isCovered 106 = .ok (.iconst 1, 1) := by decide +kernel
theorem dX8_isCovered_107 : decode cX8_isCovered 107 = .ok (.goto 4, 3) := by decide +kernel
theorem dX8_isCovered_110 : decode cX8_isCovered 110 = .ok (.iconst 0, 1) := by decide +kernel
theorem dX8_isCovered_111 : decode cX8_isCovered 111 = .ok (.istore_n 2, 1) := by decide +kernel
theorem dX8_isCovered_112 : decode cX8_isCovered 112 = .ok (.iinc 3 1, 3) := by decide +kernel
theorem dX8_isCovered_115 : decode cX8_isCovered 115 = .ok (.goto (-88), 3) := by decide +kernel
theorem dX8_isCovered_118 : decode cX8_isCovered 118 = .ok (.aload_n 0, 1) := by decide +kernel
theorem dX8_isCovered_119 : decode cX8_isCovered 119 = .ok (.getfield 17, 3) := by decide +kernel
theorem dX8_isCovered_122 : decode cX8_isCovered 122 = .ok (.aload_n 0, 1) := by decide +kernel
theorem dX8_isCovered_123 : decode cX8_isCovered 123 = .ok (.getfield 26, 3) := by decide +kernel
theorem dX8_isCovered_126 : decode cX8_isCovered 126 = .ok (.aload_n 0, 1) := by decide +kernel
theorem dX8_isCovered_127 : decode cX8_isCovered 127 = .ok (.getfield 56, 3) := by decide +kernel
theorem dX8_isCovered_130 : decode cX8_isCovered 130 = .ok (.iload_n 1, 1) := by decide +kernel
theorem dX8_isCovered_131 : decode cX8_isCovered 131 = .ok (.iaload, 1) := by decide +kernel
theorem dX8_isCovered_132 : decode cX8_isCovered 132 = .ok (.iaload, 1) := by decide +kernel
theorem dX8_isCovered_133 : decode cX8_isCovered 133 = .ok (.iaload, 1) := by decide +kernel
theorem dX8_isCovered_134 : decode cX8_isCovered 134 = .ok (.istore_n 3, 1) := by decide +kernel
theorem dX8_isCovered_135 : decode cX8_isCovered 135 = .ok (.iload_n 2, 1) := by decide +kernel
theorem dX8_isCovered_136 : decode cX8_isCovered 136 = .ok (.ifCond .eq 22, 3) := by decide +kernel
theorem dX8_isCovered_139 : decode cX8_isCovered 139 = .ok (.iload_n 3, 1) := by decide +kernel
theorem dX8_isCovered_140 : decode cX8_isCovered 140 = .ok (.iconst (-1), 1) := by decide +kernel
theorem dX8_isCovered_141 : decode cX8_isCovered 141 = .ok (.if_icmp .eq 13, 3) := by decide +kernel
theorem dX8_isCovered_144 : decode cX8_isCovered 144 = .ok (.iload_n 3, 1) := by decide +kernel
theorem dX8_isCovered_145 : decode cX8_isCovered 145 = .ok (.aload_n 0, 1) := by decide +kernel
theorem dX8_isCovered_146 : decode cX8_isCovered 146 = .ok (.getfield 62, 3) := by decide +kernel
theorem dX8_isCovered_149 : decode cX8_isCovered 149 = .ok (.iload_n 1, 1) := by decide +kernel
theorem dX8_isCovered_150 : decode cX8_isCovered 150 = .ok (.iaload, 1) := by decide +kernel
theorem dX8_isCovered_151 : decode cX8_isCovered 151 = .ok (.if_icmp .le 7, 3) := by decide +kernel
theorem dX8_isCovered_154 : decode cX8_isCovered 154 = .ok (.iconst 1, 1) := by decide +kernel
theorem dX8_isCovered_155 : decode cX8_isCovered 155 = .ok (.goto 4, 3) := by decide +kernel
theorem dX8_isCovered_158 : decode cX8_isCovered 158 = .ok (.iconst 0, 1) := by decide +kernel
theorem dX8_isCovered_159 : decode cX8_isCovered 159 = .ok (.ireturn, 1) := by decide +kernel
set_option maxRecDepth 20000 in
theorem ggX8_counts_X8_isCovered : GoodIn wsX8_counts wsX8_isCovered := goodIn_r _ [9, 10, 11, 12, 13, 14, 15, 16, 2, 17, 18, 19, 20, 21, 22, 23, 24, 25, 26, 27, 28, 29, 30, 31, 32, 33, 34, 35, 36, 37, 38, 39, 40, 41, 42, 43, 44, 45, 46, 47, 48, 49, 50, 51, 52, 53, 54, 55] (by decide +kernel) (by decide +kernel)
set_option maxRecDepth 20000 in
theorem gX8_counts_X8_isCovered : GoodIn wsX8_counts (wsV RX8 161 RX8 yX8_isCovered wsX8_isCovered) := goodIn_app (goodIn_of _ (by decide +kernel)) ggX8_counts_X8_isCovered
theorem dX8_counts_0 : decode cX8_counts 0 = .ok (.sipush 5000, 3) := by decide +kernel
theorem dX8_counts_3 : decode cX8_counts 3 = .ok (.aload_n 0, 1) := by decide +kernel
theorem dX8_counts_4 : decode cX8_counts 4 = .ok (.getfield 29, 3) := by decide +kernel
theorem dX8_counts_7 : decode cX8_counts 7 = .ok (.aload_n 0, 1) := by decide +kernel
theorem dX8_counts_8 : decode cX8_counts 8 = .ok (.getfield 56, 3) := by decide +kernel
theorem dX8_counts_11 : decode cX8_counts 11 = .ok (.iload_n 1, 1) := by decide +kernel
theorem dX8_counts_12 : decode cX8_counts 12 = .ok (.iaload, 1) := by decide +kernel
theorem dX8_counts_13 : decode cX8_counts 13 = .ok (.iaload, 1) := by decide +kernel
theorem dX8_counts_14 : decode cX8_counts 14 = .ok (.imul, 1) := by decide +kernel
theorem dX8_counts_15 : decode cX8_counts 15 = .ok (.istore_n 2, 1) := by decide +kernel
theorem dX8_counts_16 : decode cX8_counts 16 = .ok (.aload_n 0, 1) := by decide +kernel
theorem dX8_counts_17 : decode cX8_counts 17 = .ok (.getfield 75, 3) := by decide +kernel
theorem dX8_counts_20 : decode cX8_counts 20 = .ok (.iload_n 1, 1) := by decide +kernel
theorem dX8_counts_21 : decode cX8_counts 21 = .ok (.baload, 1) := by decide +kernel
theorem dX8_counts_22 : decode cX8_counts 22 = .ok (.ifCond .ne 13, 3) := by decide +kernel
theorem dX8_counts_25 : decode cX8_counts 25 = .ok (.aload_n 0, 1) := by decide +kernel
theorem dX8_counts_26 : decode cX8_counts 26 = .ok (.getfield 65, 3) := by decide +kernel
theorem dX8_counts_29 : decode cX8_counts 29 = .ok (.iload_n 1, 1) := by decide +kernel
theorem dX8_counts_30 : decode cX8_counts 30 = .ok (.iaload, 1) := by decide +kernel
theorem dX8_counts_31 : decode cX8_counts 31 = .ok (.iload_n 2, 1) := by decide +kernel
theorem dX8_counts_32 : decode cX8_counts 32 = .ok (.if_icmp .ge 12, 3) := by decide +kernel
theorem dX8_counts_35 : decode cX8_counts 35 = .ok (.aload_n 0, 1) := by decide +kernel
theorem dX8_counts_36 : decode cX8_counts 36 = .ok (.getfield 65, 3) := by decide +kernel
theorem dX8_counts_39 : decode cX8_counts 39 = .ok (.iload_n 1, 1) := by decide +kernel
theorem dX8_counts_40 : decode cX8_counts 40 = .ok (.iaload, 1) := by decide +kernel
theorem dX8_counts_41 : decode cX8_counts 41 = .ok (.goto 4, 3) := by decide +kernel
theorem dX8_counts_44 : decode cX8_counts 44 = .ok (.iload_n 2, 1) := by decide +kernel
theorem dX8_counts_45 : decode cX8_counts 45 = .ok (.istore_n 3, 1) := by decide +kernel
theorem dX8_counts_46 : decode cX8_counts 46 = .ok (.aload_n 0, 1) := by decide +kernel
theorem dX8_counts_47 : decode cX8_counts 47 = .ok (.iload_n 1, 1) := by decide +kernel
theorem dX8_counts_48 : decode cX8_counts 48 = .ok (.invokevirtual 161, 3) := by decide +kernel
theorem dX8_counts_51 : decode cX8_counts 51 = .ok (.ifCond .eq 7, 3) := by decide +kernel
theorem dX8_counts_54 : decode cX8_counts 54 = .ok (.iload_n 3, 1) := by decide +kernel
theorem dX8_counts_55 : decode cX8_counts 55 = .ok (.goto 4, 3) := by decide +kernel
theorem dX8_counts_58 : decode cX8_counts 58 = .ok (.iconst 0, 1) := by decide +kernel
theorem dX8_counts_59 : decode cX8_counts 59 = .ok (.ireturn, 1) := by decide +kernel
set_option maxRecDepth 20000 in
theorem ggX8_ofClaim_X8_isClaim : GoodIn wsX8_ofClaim wsX8_isClaim := goodIn_r _ [10, 11, 12, 13, 9, 14, 35, 36, 37, 38, 39, 40, 41, 42, 43, 44, 45, 46, 47, 48, 49, 50, 51, 52, 53, 54, 55, 56, 57, 58, 59, 60, 61, 62, 63, 64, 65, 66, 67, 68, 69, 70, 71] (by decide +kernel) (by decide +kernel)
set_option maxRecDepth 20000 in
theorem gX8_ofClaim_X8_isClaim : GoodIn wsX8_ofClaim (wsV RX8 158 RX8 yX8_isClaim wsX8_isClaim) := goodIn_app (goodIn_of _ (by decide +kernel)) ggX8_ofClaim_X8_isClaim
set_option maxRecDepth 20000 in
theorem ggX8_ofClaim_X8_isIn : GoodIn wsX8_ofClaim wsX8_isIn := goodIn_r _ [14] (by decide +kernel) (by decide +kernel)
set_option maxRecDepth 20000 in
theorem gX8_ofClaim_X8_isIn : GoodIn wsX8_ofClaim (va_wsS RX8 103 yX8_isIn wsX8_isIn) := goodIn_app (goodIn_of _ (by decide +kernel)) ggX8_ofClaim_X8_isIn
set_option maxRecDepth 20000 in
theorem ggX8_ofClaim_X8_isCovered : GoodIn wsX8_ofClaim wsX8_isCovered := goodIn_r _ [18, 19, 20, 21, 22, 23, 24, 25, 26, 27, 28, 35, 36, 37, 38, 39, 40, 41, 42, 43, 44, 45, 46, 47, 48, 49, 50, 51, 52, 53, 54, 55, 56, 57, 58, 59, 60, 61, 62, 63, 64, 65, 66, 67, 68, 69, 70, 71] (by decide +kernel) (by decide +kernel)
set_option maxRecDepth 20000 in
theorem gX8_ofClaim_X8_isCovered : GoodIn wsX8_ofClaim (wsV RX8 161 RX8 yX8_isCovered wsX8_isCovered) := goodIn_app (goodIn_of _ (by decide +kernel)) ggX8_ofClaim_X8_isCovered
set_option maxRecDepth 20000 in
theorem ggX8_ofClaim_X8_counts : GoodIn wsX8_ofClaim wsX8_counts := goodIn_r _ [32, 33, 26, 34, 2, 15, 16, 17, 9, 18, 19, 20, 21, 22, 23, 24, 25, 27, 28, 35, 36, 37, 38, 39, 40, 41, 42, 43, 44, 45, 46, 47, 48, 49, 50, 51, 52, 53, 54, 55, 56, 57, 58, 59, 60, 61, 62, 63, 64, 65, 66, 67, 68, 69, 70, 71] (by decide +kernel) (by decide +kernel)
set_option maxRecDepth 20000 in
theorem gX8_ofClaim_X8_counts : GoodIn wsX8_ofClaim (wsV RX8 164 RX8 yX8_counts wsX8_counts) := goodIn_app (goodIn_of _ (by decide +kernel)) ggX8_ofClaim_X8_counts
theorem dX8_ofClaim_0 : decode cX8_ofClaim 0 = .ok (.aload_n 0, 1) := by decide +kernel
theorem dX8_ofClaim_1 : decode cX8_ofClaim 1 = .ok (.aload_n 0, 1) := by decide +kernel
theorem dX8_ofClaim_2 : decode cX8_ofClaim 2 = .ok (.iload_n 1, 1) := by decide +kernel
theorem dX8_ofClaim_3 : decode cX8_ofClaim 3 = .ok (.invokevirtual 158, 3) := by decide +kernel
theorem dX8_ofClaim_6 : decode cX8_ofClaim 6 = .ok (.ifCond .ne 7, 3) := by decide +kernel
theorem dX8_ofClaim_9 : decode cX8_ofClaim 9 = .ok (.iconst 1, 1) := by decide +kernel
theorem dX8_ofClaim_10 : decode cX8_ofClaim 10 = .ok (.goto 17, 3) := by decide +kernel
theorem dX8_ofClaim_13 : decode cX8_ofClaim 13 = .ok (.iload_n 2, 1) := by decide +kernel
theorem dX8_ofClaim_14 : decode cX8_ofClaim 14 = .ok (.iconst 0, 1) := by decide +kernel
theorem dX8_ofClaim_15 : decode cX8_ofClaim 15 = .ok (.iconst 5, 1) := by decide +kernel
theorem dX8_ofClaim_16 : decode cX8_ofClaim 16 = .ok (.invokestatic 103, 3) := by decide +kernel
theorem dX8_ofClaim_19 : decode cX8_ofClaim 19 = .ok (.ifCond .ne 7, 3) := by decide +kernel
theorem dX8_ofClaim_22 : decode cX8_ofClaim 22 = .ok (.iconst 2, 1) := by decide +kernel
theorem dX8_ofClaim_23 : decode cX8_ofClaim 23 = .ok (.goto 4, 3) := by decide +kernel
theorem dX8_ofClaim_26 : decode cX8_ofClaim 26 = .ok (.iconst 0, 1) := by decide +kernel
theorem dX8_ofClaim_27 : decode cX8_ofClaim 27 = .ok (.putfield 96, 3) := by decide +kernel
theorem dX8_ofClaim_30 : decode cX8_ofClaim 30 = .ok (.aload_n 0, 1) := by decide +kernel
theorem dX8_ofClaim_31 : decode cX8_ofClaim 31 = .ok (.getfield 96, 3) := by decide +kernel
theorem dX8_ofClaim_34 : decode cX8_ofClaim 34 = .ok (.ifCond .le 5, 3) := by decide +kernel
theorem dX8_ofClaim_37 : decode cX8_ofClaim 37 = .ok (.lconst 0, 1) := by decide +kernel
theorem dX8_ofClaim_38 : decode cX8_ofClaim 38 = .ok (.lreturn, 1) := by decide +kernel
theorem dX8_ofClaim_39 : decode cX8_ofClaim 39 = .ok (.iload_n 2, 1) := by decide +kernel
theorem dX8_ofClaim_40 : decode cX8_ofClaim 40 = .ok (.tableswitch 89 0 4 #[36, 44, 52, 66, 81], 36) := by decide +kernel
theorem dX8_ofClaim_76 : decode cX8_ofClaim 76 = .ok (.aload_n 0, 1) := by decide +kernel
theorem dX8_ofClaim_77 : decode cX8_ofClaim 77 = .ok (.getfield 65, 3) := by decide +kernel
theorem dX8_ofClaim_80 : decode cX8_ofClaim 80 = .ok (.iload_n 1, 1) := by decide +kernel
theorem dX8_ofClaim_81 : decode cX8_ofClaim 81 = .ok (.iaload, 1) := by decide +kernel
theorem dX8_ofClaim_82 : decode cX8_ofClaim 82 = .ok (.i2l, 1) := by decide +kernel
theorem dX8_ofClaim_83 : decode cX8_ofClaim 83 = .ok (.lreturn, 1) := by decide +kernel
theorem dX8_ofClaim_84 : decode cX8_ofClaim 84 = .ok (.aload_n 0, 1) := by decide +kernel
theorem dX8_ofClaim_85 : decode cX8_ofClaim 85 = .ok (.getfield 68, 3) := by decide +kernel
theorem dX8_ofClaim_88 : decode cX8_ofClaim 88 = .ok (.iload_n 1, 1) := by decide +kernel
theorem dX8_ofClaim_89 : decode cX8_ofClaim 89 = .ok (.iaload, 1) := by decide +kernel
theorem dX8_ofClaim_90 : decode cX8_ofClaim 90 = .ok (.i2l, 1) := by decide +kernel
theorem dX8_ofClaim_91 : decode cX8_ofClaim 91 = .ok (.lreturn, 1) := by decide +kernel
theorem dX8_ofClaim_92 : decode cX8_ofClaim 92 = .ok (.aload_n 0, 1) := by decide +kernel
theorem dX8_ofClaim_93 : decode cX8_ofClaim 93 = .ok (.iload_n 1, 1) := by decide +kernel
theorem dX8_ofClaim_94 : decode cX8_ofClaim 94 = .ok (.invokevirtual 161, 3) := by decide +kernel
theorem dX8_ofClaim_97 : decode cX8_ofClaim 97 = .ok (.ifCond .eq 7, 3) := by decide +kernel
theorem dX8_ofClaim_100 : decode cX8_ofClaim 100 = .ok (.lconst 1, 1) := by decide +kernel
theorem dX8_ofClaim_101 : decode cX8_ofClaim 101 = .ok (.goto 4, 3) := by decide +kernel
theorem dX8_ofClaim_104 : decode cX8_ofClaim 104 = .ok (.lconst 0, 1) := by decide +kernel
theorem dX8_ofClaim_105 : decode cX8_ofClaim 105 = .ok (.lreturn, 1) := by decide +kernel
theorem dX8_ofClaim_106 : decode cX8_ofClaim 106 = .ok (.aload_n 0, 1) := by decide +kernel
theorem dX8_ofClaim_107 : decode cX8_ofClaim 107 = .ok (.getfield 71, 3) := by decide +kernel
theorem dX8_ofClaim_110 : decode cX8_ofClaim 110 = .ok (.iload_n 1, 1) := by decide +kernel
theorem dX8_ofClaim_111 : decode cX8_ofClaim 111 = .ok (.baload, 1) := by decide +kernel
theorem dX8_ofClaim_112 : decode cX8_ofClaim 112 = .ok (.ifCond .eq 7, 3) := by decide +kernel
theorem dX8_ofClaim_115 : decode cX8_ofClaim 115 = .ok (.lconst 1, 1) := by decide +kernel
theorem dX8_ofClaim_116 : decode cX8_ofClaim 116 = .ok (.goto 4, 3) := by decide +kernel
theorem dX8_ofClaim_119 : decode cX8_ofClaim 119 = .ok (.lconst 0, 1) := by decide +kernel
theorem dX8_ofClaim_120 : decode cX8_ofClaim 120 = .ok (.lreturn, 1) := by decide +kernel
theorem dX8_ofClaim_121 : decode cX8_ofClaim 121 = .ok (.aload_n 0, 1) := by decide +kernel
theorem dX8_ofClaim_122 : decode cX8_ofClaim 122 = .ok (.getfield 81, 3) := by decide +kernel
theorem dX8_ofClaim_125 : decode cX8_ofClaim 125 = .ok (.iload_n 1, 1) := by decide +kernel
theorem dX8_ofClaim_126 : decode cX8_ofClaim 126 = .ok (.iaload, 1) := by decide +kernel
theorem dX8_ofClaim_127 : decode cX8_ofClaim 127 = .ok (.i2l, 1) := by decide +kernel
theorem dX8_ofClaim_128 : decode cX8_ofClaim 128 = .ok (.lreturn, 1) := by decide +kernel
theorem dX8_ofClaim_129 : decode cX8_ofClaim 129 = .ok (.aload_n 0, 1) := by decide +kernel
theorem dX8_ofClaim_130 : decode cX8_ofClaim 130 = .ok (.iload_n 1, 1) := by decide +kernel
theorem dX8_ofClaim_131 : decode cX8_ofClaim 131 = .ok (.invokevirtual 164, 3) := by decide +kernel
theorem dX8_ofClaim_134 : decode cX8_ofClaim 134 = .ok (.i2l, 1) := by decide +kernel
theorem dX8_ofClaim_135 : decode cX8_ofClaim 135 = .ok (.lreturn, 1) := by decide +kernel
theorem dX8_ruleOf_0 : decode cX8_ruleOf 0 = .ok (.iconst (-1), 1) := by decide +kernel
theorem dX8_ruleOf_1 : decode cX8_ruleOf 1 = .ok (.istore_n 3, 1) := by decide +kernel
theorem dX8_ruleOf_2 : decode cX8_ruleOf 2 = .ok (.iconst 0, 1) := by decide +kernel
theorem dX8_ruleOf_3 : decode cX8_ruleOf 3 = .ok (.istore 4, 2) := by decide +kernel
theorem dX8_ruleOf_5 : decode cX8_ruleOf 5 = .ok (.iload 4, 2) := by decide +kernel
theorem dX8_ruleOf_7 : decode cX8_ruleOf 7 = .ok (.iload_n 2, 1) := by decide +kernel
theorem dX8_ruleOf_8 : decode cX8_ruleOf 8 = .ok (.if_icmp .gt 37, 3) := by decide +kernel
theorem dX8_ruleOf_11 : decode cX8_ruleOf 11 = .ok (.aload_n 0, 1) := by decide +kernel
theorem dX8_ruleOf_12 : decode cX8_ruleOf 12 = .ok (.getfield 41, 3) := by decide +kernel
theorem dX8_ruleOf_15 : decode cX8_ruleOf 15 = .ok (.bipush 20, 2) := by decide +kernel
theorem dX8_ruleOf_17 : decode cX8_ruleOf 17 = .ok (.iload_n 1, 1) := by decide +kernel
theorem dX8_ruleOf_18 : decode cX8_ruleOf 18 = .ok (.imul, 1) := by decide +kernel
theorem dX8_ruleOf_19 : decode cX8_ruleOf 19 = .ok (.iload 4, 2) := by decide +kernel
theorem dX8_ruleOf_21 : decode cX8_ruleOf 21 = .ok (.iadd, 1) := by decide +kernel
theorem dX8_ruleOf_22 : decode cX8_ruleOf 22 = .ok (.iaload, 1) := by decide +kernel
theorem dX8_ruleOf_23 : decode cX8_ruleOf 23 = .ok (.iconst (-1), 1) := by decide +kernel
theorem dX8_ruleOf_24 : decode cX8_ruleOf 24 = .ok (.if_icmp .eq 13, 3) := by decide +kernel
theorem dX8_ruleOf_27 : decode cX8_ruleOf 27 = .ok (.bipush 20, 2) := by decide +kernel
theorem dX8_ruleOf_29 : decode cX8_ruleOf 29 = .ok (.iload_n 1, 1) := by decide +kernel
theorem dX8_ruleOf_30 : decode cX8_ruleOf 30 = .ok (.imul, 1) := by decide +kernel
theorem dX8_ruleOf_31 : decode cX8_ruleOf 31 = .ok (.iload 4, 2) := by decide +kernel
theorem dX8_ruleOf_33 : decode cX8_ruleOf 33 = .ok (.iadd, 1) := by decide +kernel
theorem dX8_ruleOf_34 : decode cX8_ruleOf 34 = .ok (.goto 4, 3) := by decide +kernel
theorem dX8_ruleOf_37 : decode cX8_ruleOf 37 = .ok (.iload_n 3, 1) := by decide +kernel
theorem dX8_ruleOf_38 : decode cX8_ruleOf 38 = .ok (.istore_n 3, 1) := by decide +kernel
theorem dX8_ruleOf_39 : decode cX8_ruleOf 39 = .ok (.iinc 4 1, 3) := by decide +kernel
theorem dX8_ruleOf_42 : decode cX8_ruleOf 42 = .ok (.goto (-37), 3) := by decide +kernel
theorem dX8_ruleOf_45 : decode cX8_ruleOf 45 = .ok (.iload_n 3, 1) := by decide +kernel
theorem dX8_ruleOf_46 : decode cX8_ruleOf 46 = .ok (.ireturn, 1) := by decide +kernel
set_option maxRecDepth 20000 in
theorem ggX8_together_X8_counts : GoodIn wsX8_together wsX8_counts := goodIn_r _ [13, 14, 3, 15, 16, 17, 18, 19, 12, 20, 5, 21, 22, 23, 24, 25, 26, 27, 28, 33, 34, 35, 36, 37, 38, 39, 40, 41, 42, 43, 44, 45, 46, 47, 48, 49, 50, 51, 52, 53, 54, 55, 56, 57, 58, 59, 60, 61, 62, 63, 64, 65, 66, 67, 68, 69] (by decide +kernel) (by decide +kernel)
set_option maxRecDepth 20000 in
theorem gX8_together_X8_counts : GoodIn wsX8_together (wsV RX8 164 RX8 yX8_counts wsX8_counts) := goodIn_app (goodIn_of _ (by decide +kernel)) ggX8_together_X8_counts
set_option maxRecDepth 20000 in
theorem ggX8_together_X8_ruleOf : GoodIn wsX8_together wsX8_ruleOf := goodIn_r _ [32, 8, 33, 34, 35, 36, 37, 38, 39, 40, 41, 42, 43, 44, 45, 46, 47, 48, 49, 50, 51, 52, 53, 54, 55, 56, 57, 58, 59, 60, 61, 62, 63, 64, 65, 66, 67, 68, 69] (by decide +kernel) (by decide +kernel)
set_option maxRecDepth 20000 in
theorem gX8_together_X8_ruleOf : GoodIn wsX8_together (wsV RX8 167 RX8 yX8_ruleOf wsX8_ruleOf) := goodIn_app (goodIn_of _ (by decide +kernel)) ggX8_together_X8_ruleOf
theorem dX8_together_0 : decode cX8_together 0 = .ok (.lconst 0, 1) := by decide +kernel
theorem dX8_together_1 : decode cX8_together 1 = .ok (.lstore_n 2, 1) := by decide +kernel
theorem dX8_together_2 : decode cX8_together 2 = .ok (.iconst 0, 1) := by decide +kernel
theorem dX8_together_3 : decode cX8_together 3 = .ok (.istore 4, 2) := by decide +kernel
theorem dX8_together_5 : decode cX8_together 5 = .ok (.iload 4, 2) := by decide +kernel
theorem dX8_together_7 : decode cX8_together 7 = .ok (.aload_n 0, 1) := by decide +kernel
theorem dX8_together_8 : decode cX8_together 8 = .ok (.getfield 110, 3) := by decide +kernel
theorem dX8_together_11 : decode cX8_together 11 = .ok (.if_icmp .ge 83, 3) := by decide +kernel
theorem dX8_together_14 : decode cX8_together 14 = .ok (.aload_n 0, 1) := by decide +kernel
theorem dX8_together_15 : decode cX8_together 15 = .ok (.getfield 68, 3) := by decide +kernel
theorem dX8_together_18 : decode cX8_together 18 = .ok (.iload 4, 2) := by decide +kernel
theorem dX8_together_20 : decode cX8_together 20 = .ok (.iaload, 1) := by decide +kernel
theorem dX8_together_21 : decode cX8_together 21 = .ok (.aload_n 0, 1) := by decide +kernel
theorem dX8_together_22 : decode cX8_together 22 = .ok (.getfield 68, 3) := by decide +kernel
theorem dX8_together_25 : decode cX8_together 25 = .ok (.iload_n 1, 1) := by decide +kernel
theorem dX8_together_26 : decode cX8_together 26 = .ok (.iaload, 1) := by decide +kernel
theorem dX8_together_27 : decode cX8_together 27 = .ok (.if_icmp .ne 39, 3) := by decide +kernel
theorem dX8_together_30 : decode cX8_together 30 = .ok (.aload_n 0, 1) := by decide +kernel
theorem dX8_together_31 : decode cX8_together 31 = .ok (.getfield 56, 3) := by decide +kernel
theorem dX8_together_34 : decode cX8_together 34 = .ok (.iload 4, 2) := by decide +kernel
theorem dX8_together_36 : decode cX8_together 36 = .ok (.iaload, 1) := by decide +kernel
theorem dX8_together_37 : decode cX8_together 37 = .ok (.aload_n 0, 1) := by decide +kernel
theorem dX8_together_38 : decode cX8_together 38 = .ok (.getfield 56, 3) := by decide +kernel
theorem dX8_together_41 : decode cX8_together 41 = .ok (.iload_n 1, 1) := by decide +kernel
theorem dX8_together_42 : decode cX8_together 42 = .ok (.iaload, 1) := by decide +kernel
theorem dX8_together_43 : decode cX8_together 43 = .ok (.if_icmp .ne 23, 3) := by decide +kernel
theorem dX8_together_46 : decode cX8_together 46 = .ok (.aload_n 0, 1) := by decide +kernel
theorem dX8_together_47 : decode cX8_together 47 = .ok (.getfield 59, 3) := by decide +kernel
theorem dX8_together_50 : decode cX8_together 50 = .ok (.iload 4, 2) := by decide +kernel
theorem dX8_together_52 : decode cX8_together 52 = .ok (.iaload, 1) := by decide +kernel
theorem dX8_together_53 : decode cX8_together 53 = .ok (.aload_n 0, 1) := by decide +kernel
theorem dX8_together_54 : decode cX8_together 54 = .ok (.getfield 59, 3) := by decide +kernel
theorem dX8_together_57 : decode cX8_together 57 = .ok (.iload_n 1, 1) := by decide +kernel
theorem dX8_together_58 : decode cX8_together 58 = .ok (.iaload, 1) := by decide +kernel
theorem dX8_together_59 : decode cX8_together 59 = .ok (.if_icmp .ne 7, 3) := by decide +kernel
theorem dX8_together_62 : decode cX8_together 62 = .ok (.iconst 1, 1) := by decide +kernel
theorem dX8_together_63 : decode cX8_together 63 = .ok (.goto 4, 3) := by decide +kernel
theorem dX8_together_66 : decode cX8_together 66 = .ok (.iconst 0, 1) := by decide +kernel
theorem dX8_together_67 : decode cX8_together 67 = .ok (.istore 5, 2) := by decide +kernel
theorem dX8_together_69 : decode cX8_together 69 = .ok (.lload_n 2, 1) := by decide +kernel
theorem dX8_together_70 : decode cX8_together 70 = .ok (.iload 5, 2) := by decide +kernel
theorem dX8_together_72 : decode cX8_together 72 = .ok (.ifCond .eq 13, 3) := by decide +kernel
theorem dX8_together_75 : decode cX8_together 75 = .ok (.aload_n 0, 1) := by decide +kernel
theorem dX8_together_76 : decode cX8_together 76 = .ok (.iload 4, 2) := by decide +kernel
theorem dX8_together_78 : decode cX8_together 78 = .ok (.invokevirtual 164, 3) := by decide +kernel
theorem dX8_together_81 : decode cX8_together 81 = .ok (.i2l, 1) := by decide +kernel
theorem dX8_together_82 : decode cX8_together 82 = .ok (.goto 4, 3) := by decide +kernel
theorem dX8_together_85 : decode cX8_together 85 = .ok (.lconst 0, 1) := by decide +kernel
theorem dX8_together_86 : decode cX8_together 86 = .ok (.ladd, 1) := by decide +kernel
theorem dX8_together_87 : decode cX8_together 87 = .ok (.lstore_n 2, 1) := by decide +kernel
theorem dX8_together_88 : decode cX8_together 88 = .ok (.iinc 4 1, 3) := by decide +kernel
theorem dX8_together_91 : decode cX8_together 91 = .ok (.goto (-86), 3) := by decide +kernel
theorem dX8_together_94 : decode cX8_together 94 = .ok (.aload_n 0, 1) := by decide +kernel
theorem dX8_together_95 : decode cX8_together 95 = .ok (.aload_n 0, 1) := by decide +kernel
theorem dX8_together_96 : decode cX8_together 96 = .ok (.getfield 59, 3) := by decide +kernel
theorem dX8_together_99 : decode cX8_together 99 = .ok (.iload_n 1, 1) := by decide +kernel
theorem dX8_together_100 : decode cX8_together 100 = .ok (.iaload, 1) := by decide +kernel
theorem dX8_together_101 : decode cX8_together 101 = .ok (.aload_n 0, 1) := by decide +kernel
theorem dX8_together_102 : decode cX8_together 102 = .ok (.getfield 62, 3) := by decide +kernel
theorem dX8_together_105 : decode cX8_together 105 = .ok (.iload_n 1, 1) := by decide +kernel
theorem dX8_together_106 : decode cX8_together 106 = .ok (.iaload, 1) := by decide +kernel
theorem dX8_together_107 : decode cX8_together 107 = .ok (.bipush 100, 2) := by decide +kernel
theorem dX8_together_109 : decode cX8_together 109 = .ok (.idiv, 1) := by decide +kernel
theorem dX8_together_110 : decode cX8_together 110 = .ok (.invokevirtual 167, 3) := by decide +kernel
theorem dX8_together_113 : decode cX8_together 113 = .ok (.istore 4, 2) := by decide +kernel
theorem dX8_together_115 : decode cX8_together 115 = .ok (.iload 4, 2) := by decide +kernel
theorem dX8_together_117 : decode cX8_together 117 = .ok (.iconst (-1), 1) := by decide +kernel
theorem dX8_together_118 : decode cX8_together 118 = .ok (.if_icmp .ne 9, 3) := by decide +kernel
theorem dX8_together_121 : decode cX8_together 121 = .ok (.ldc2_w 171, 3) := by decide +kernel
theorem dX8_together_124 : decode cX8_together 124 = .ok (.goto 11, 3) := by decide +kernel
theorem dX8_together_127 : decode cX8_together 127 = .ok (.aload_n 0, 1) := by decide +kernel
theorem dX8_together_128 : decode cX8_together 128 = .ok (.getfield 44, 3) := by decide +kernel
theorem dX8_together_131 : decode cX8_together 131 = .ok (.iload 4, 2) := by decide +kernel
theorem dX8_together_133 : decode cX8_together 133 = .ok (.iaload, 1) := by decide +kernel
theorem dX8_together_134 : decode cX8_together 134 = .ok (.i2l, 1) := by decide +kernel
theorem dX8_together_135 : decode cX8_together 135 = .ok (.lstore 5, 2) := by decide +kernel
theorem dX8_together_137 : decode cX8_together 137 = .ok (.lload_n 2, 1) := by decide +kernel
theorem dX8_together_138 : decode cX8_together 138 = .ok (.lload 5, 2) := by decide +kernel
theorem dX8_together_140 : decode cX8_together 140 = .ok (.lcmp, 1) := by decide +kernel
theorem dX8_together_141 : decode cX8_together 141 = .ok (.ifCond .ge 7, 3) := by decide +kernel
theorem dX8_together_144 : decode cX8_together 144 = .ok (.lload_n 2, 1) := by decide +kernel
theorem dX8_together_145 : decode cX8_together 145 = .ok (.goto 5, 3) := by decide +kernel
theorem dX8_together_148 : decode cX8_together 148 = .ok (.lload 5, 2) := by decide +kernel
theorem dX8_together_150 : decode cX8_together 150 = .ok (.iload 4, 2) := by decide +kernel
theorem dX8_together_152 : decode cX8_together 152 = .ok (.iconst (-1), 1) := by decide +kernel
theorem dX8_together_153 : decode cX8_together 153 = .ok (.if_icmp .ne 7, 3) := by decide +kernel
theorem dX8_together_156 : decode cX8_together 156 = .ok (.iconst 0, 1) := by decide +kernel
theorem dX8_together_157 : decode cX8_together 157 = .ok (.goto 10, 3) := by decide +kernel
theorem dX8_together_160 : decode cX8_together 160 = .ok (.aload_n 0, 1) := by decide +kernel
theorem dX8_together_161 : decode cX8_together 161 = .ok (.getfield 41, 3) := by decide +kernel
theorem dX8_together_164 : decode cX8_together 164 = .ok (.iload 4, 2) := by decide +kernel
theorem dX8_together_166 : decode cX8_together 166 = .ok (.iaload, 1) := by decide +kernel
theorem dX8_together_167 : decode cX8_together 167 = .ok (.i2l, 1) := by decide +kernel
theorem dX8_together_168 : decode cX8_together 168 = .ok (.lsub, 1) := by decide +kernel
theorem dX8_together_169 : decode cX8_together 169 = .ok (.lstore 7, 2) := by decide +kernel
theorem dX8_together_171 : decode cX8_together 171 = .ok (.lload 7, 2) := by decide +kernel
theorem dX8_together_173 : decode cX8_together 173 = .ok (.lconst 0, 1) := by decide +kernel
theorem dX8_together_174 : decode cX8_together 174 = .ok (.lcmp, 1) := by decide +kernel
theorem dX8_together_175 : decode cX8_together 175 = .ok (.ifCond .ge 7, 3) := by decide +kernel
theorem dX8_together_178 : decode cX8_together 178 = .ok (.lconst 0, 1) := by decide +kernel
theorem dX8_together_179 : decode cX8_together 179 = .ok (.goto 5, 3) := by decide +kernel
theorem dX8_together_182 : decode cX8_together 182 = .ok (.lload 7, 2) := by decide +kernel
theorem dX8_together_184 : decode cX8_together 184 = .ok (.lreturn, 1) := by decide +kernel
theorem dX8_isFirst_0 : decode cX8_isFirst 0 = .ok (.iconst 1, 1) := by decide +kernel
theorem dX8_isFirst_1 : decode cX8_isFirst 1 = .ok (.istore_n 2, 1) := by decide +kernel
theorem dX8_isFirst_2 : decode cX8_isFirst 2 = .ok (.iconst 0, 1) := by decide +kernel
theorem dX8_isFirst_3 : decode cX8_isFirst 3 = .ok (.istore_n 3, 1) := by decide +kernel
theorem dX8_isFirst_4 : decode cX8_isFirst 4 = .ok (.iload_n 3, 1) := by decide +kernel
theorem dX8_isFirst_5 : decode cX8_isFirst 5 = .ok (.iload_n 1, 1) := by decide +kernel
theorem dX8_isFirst_6 : decode cX8_isFirst 6 = .ok (.if_icmp .ge 64, 3) := by decide +kernel
theorem dX8_isFirst_9 : decode cX8_isFirst 9 = .ok (.iload_n 2, 1) := by decide +kernel
theorem dX8_isFirst_10 : decode cX8_isFirst 10 = .ok (.ifCond .eq 52, 3) := by decide +kernel
theorem dX8_isFirst_13 : decode cX8_isFirst 13 = .ok (.aload_n 0, 1) := by decide +kernel
theorem dX8_isFirst_14 : decode cX8_isFirst 14 = .ok (.getfield 68, 3) := by decide +kernel
theorem dX8_isFirst_17 : decode cX8_isFirst 17 = .ok (.iload_n 3, 1) := by decide +kernel
theorem dX8_isFirst_18 : decode cX8_isFirst 18 = .ok (.iaload, 1) := by decide +kernel
theorem dX8_isFirst_19 : decode cX8_isFirst 19 = .ok (.aload_n 0, 1) := by decide +kernel
theorem dX8_isFirst_20 : decode cX8_isFirst 20 = .ok (.getfield 68, 3) := by decide +kernel
theorem dX8_isFirst_23 : decode cX8_isFirst 23 = .ok (.iload_n 1, 1) := by decide +kernel
theorem dX8_isFirst_24 : decode cX8_isFirst 24 = .ok (.iaload, 1) := by decide +kernel
theorem dX8_isFirst_25 : decode cX8_isFirst 25 = .ok (.if_icmp .ne 33, 3) := by decide +kernel
theorem dX8_isFirst_28 : decode cX8_isFirst 28 = .ok (.aload_n 0, 1) := by decide +kernel
theorem dX8_isFirst_29 : decode cX8_isFirst 29 = .ok (.getfield 56, 3) := by decide +kernel
theorem dX8_isFirst_32 : decode cX8_isFirst 32 = .ok (.iload_n 3, 1) := by decide +kernel
theorem dX8_isFirst_33 : decode cX8_isFirst 33 = .ok (.iaload, 1) := by decide +kernel
theorem dX8_isFirst_34 : decode cX8_isFirst 34 = .ok (.aload_n 0, 1) := by decide +kernel
theorem dX8_isFirst_35 : decode cX8_isFirst 35 = .ok (.getfield 56, 3) := by decide +kernel
theorem dX8_isFirst_38 : decode cX8_isFirst 38 = .ok (.iload_n 1, 1) := by decide +kernel
theorem dX8_isFirst_39 : decode cX8_isFirst 39 = .ok (.iaload, 1) := by decide +kernel
theorem dX8_isFirst_40 : decode cX8_isFirst 40 = .ok (.if_icmp .ne 18, 3) := by decide +kernel
theorem dX8_isFirst_43 : decode cX8_isFirst 43 = .ok (.aload_n 0, 1) := by decide +kernel
theorem dX8_isFirst_44 : decode cX8_isFirst 44 = .ok (.getfield 59, 3) := by decide +kernel
theorem dX8_isFirst_47 : decode cX8_isFirst 47 = .ok (.iload_n 3, 1) := by decide +kernel
theorem dX8_isFirst_48 : decode cX8_isFirst 48 = .ok (.iaload, 1) := by decide +kernel
theorem dX8_isFirst_49 : decode cX8_isFirst 49 = .ok (.aload_n 0, 1) := by decide +kernel
theorem dX8_isFirst_50 : decode cX8_isFirst 50 = .ok (.getfield 59, 3) := by decide +kernel
theorem dX8_isFirst_53 : decode cX8_isFirst 53 = .ok (.iload_n 1, 1) := by decide +kernel
theorem dX8_isFirst_54 : decode cX8_isFirst 54 = .ok (.iaload, 1) := by decide +kernel
theorem dX8_isFirst_55 : decode cX8_isFirst 55 = .ok (.if_icmp .eq 7, 3) := by decide +kernel
theorem dX8_isFirst_58 : decode cX8_isFirst 58 = .ok (.iconst 1, 1) := by decide +kernel
theorem dX8_isFirst_59 : decode cX8_isFirst 59 = .ok (.goto 4, 3) := by decide +kernel
theorem dX8_isFirst_62 : decode cX8_isFirst 62 = .ok (.iconst 0, 1) := by decide +kernel
theorem dX8_isFirst_63 : decode cX8_isFirst 63 = .ok (.istore_n 2, 1) := by decide +kernel
theorem dX8_isFirst_64 : decode cX8_isFirst 64 = .ok (.iinc 3 1, 3) := by decide +kernel
theorem dX8_isFirst_67 : decode cX8_isFirst 67 = .ok (.goto (-63), 3) := by decide +kernel
theorem dX8_isFirst_70 : decode cX8_isFirst 70 = .ok (.iload_n 2, 1) := by decide +kernel
theorem dX8_isFirst_71 : decode cX8_isFirst 71 = .ok (.ireturn, 1) := by decide +kernel
set_option maxRecDepth 20000 in
theorem ggX8_costOf_X8_isFirst : GoodIn wsX8_costOf wsX8_isFirst := goodIn_r _ [7, 2, 8, 9, 41, 42, 43, 44, 45, 46, 47, 48, 49, 50, 51, 52, 53, 54, 55, 56, 57, 58, 59, 60, 61, 62, 63, 64, 65, 66, 67, 68, 69, 70, 71, 72, 73, 74, 75, 76, 77] (by decide +kernel) (by decide +kernel)
set_option maxRecDepth 20000 in
theorem gX8_costOf_X8_isFirst : GoodIn wsX8_costOf (wsV RX8 173 RX8 yX8_isFirst wsX8_isFirst) := goodIn_app (goodIn_of _ (by decide +kernel)) ggX8_costOf_X8_isFirst
set_option maxRecDepth 20000 in
theorem ggX8_costOf_X8_together : GoodIn wsX8_costOf wsX8_together := goodIn_r _ [13, 1, 2, 8, 9, 14, 15, 16, 17, 18, 19, 20, 6, 21, 22, 23, 24, 25, 26, 27, 28, 29, 30, 31, 32, 33, 34, 35, 36, 37, 38, 39, 40, 41, 42, 43, 44, 45, 46, 47, 48, 49, 50, 51, 52, 53, 54, 55, 56, 57, 58, 59, 60, 61, 62, 63, 64, 65, 66, 67, 68, 69, 70, 71, 72, 73, 74, 75, 76, 77] (by decide +kernel) (by decide +kernel)
set_option maxRecDepth 20000 in
theorem gX8_costOf_X8_together : GoodIn wsX8_costOf (wsV RX8 176 RX8 yX8_together wsX8_together) := goodIn_app (goodIn_of _ (by decide +kernel)) ggX8_costOf_X8_together
theorem dX8_costOf_0 : decode cX8_costOf 0 = .ok (.lconst 0, 1) := by decide +kernel
theorem dX8_costOf_1 : decode cX8_costOf 1 = .ok (.lstore_n 2, 1) := by decide +kernel
theorem dX8_costOf_2 : decode cX8_costOf 2 = .ok (.iconst 0, 1) := by decide +kernel
theorem dX8_costOf_3 : decode cX8_costOf 3 = .ok (.istore 4, 2) := by decide +kernel
theorem dX8_costOf_5 : decode cX8_costOf 5 = .ok (.iload 4, 2) := by decide +kernel
theorem dX8_costOf_7 : decode cX8_costOf 7 = .ok (.aload_n 0, 1) := by decide +kernel
theorem dX8_costOf_8 : decode cX8_costOf 8 = .ok (.getfield 110, 3) := by decide +kernel
theorem dX8_costOf_11 : decode cX8_costOf 11 = .ok (.if_icmp .ge 42, 3) := by decide +kernel
theorem dX8_costOf_14 : decode cX8_costOf 14 = .ok (.lload_n 2, 1) := by decide +kernel
theorem dX8_costOf_15 : decode cX8_costOf 15 = .ok (.aload_n 0, 1) := by decide +kernel
theorem dX8_costOf_16 : decode cX8_costOf 16 = .ok (.getfield 68, 3) := by decide +kernel
theorem dX8_costOf_19 : decode cX8_costOf 19 = .ok (.iload 4, 2) := by decide +kernel
theorem dX8_costOf_21 : decode cX8_costOf 21 = .ok (.iaload, 1) := by decide +kernel
theorem dX8_costOf_22 : decode cX8_costOf 22 = .ok (.iload_n 1, 1) := by decide +kernel
theorem dX8_costOf_23 : decode cX8_costOf 23 = .ok (.if_icmp .ne 21, 3) := by decide +kernel
theorem dX8_costOf_26 : decode cX8_costOf 26 = .ok (.aload_n 0, 1) := by decide +kernel
theorem dX8_costOf_27 : decode cX8_costOf 27 = .ok (.iload 4, 2) := by decide +kernel
theorem dX8_costOf_29 : decode cX8_costOf 29 = .ok (.invokevirtual 173, 3) := by decide +kernel
theorem dX8_costOf_32 : decode cX8_costOf 32 = .ok (.ifCond .eq 12, 3) := by decide +kernel
theorem dX8_costOf_35 : decode cX8_costOf 35 = .ok (.aload_n 0, 1) := by decide +kernel
theorem dX8_costOf_36 : decode cX8_costOf 36 = .ok (.iload 4, 2) := by decide +kernel
theorem dX8_costOf_38 : decode cX8_costOf 38 = .ok (.invokevirtual 176, 3) := by decide +kernel
theorem dX8_costOf_41 : decode cX8_costOf 41 = .ok (.goto 4, 3) := by decide +kernel
theorem dX8_costOf_44 : decode cX8_costOf 44 = .ok (.lconst 0, 1) := by decide +kernel
theorem dX8_costOf_45 : decode cX8_costOf 45 = .ok (.ladd, 1) := by decide +kernel
theorem dX8_costOf_46 : decode cX8_costOf 46 = .ok (.lstore_n 2, 1) := by decide +kernel
theorem dX8_costOf_47 : decode cX8_costOf 47 = .ok (.iinc 4 1, 3) := by decide +kernel
theorem dX8_costOf_50 : decode cX8_costOf 50 = .ok (.goto (-45), 3) := by decide +kernel
theorem dX8_costOf_53 : decode cX8_costOf 53 = .ok (.lload_n 2, 1) := by decide +kernel
theorem dX8_costOf_54 : decode cX8_costOf 54 = .ok (.lreturn, 1) := by decide +kernel
set_option maxRecDepth 20000 in
theorem ggX8_bears_X8_costOf : GoodIn wsX8_bears wsX8_costOf := goodIn_r _ [11, 12, 13, 14, 15, 16, 10, 17, 18, 19, 20, 21, 22, 23, 24, 25, 26, 27, 28, 29, 30, 31, 32, 33, 34, 35, 36, 37, 38, 39, 40, 41, 42, 43, 44, 45, 46, 47, 48, 49, 50, 51, 52, 53, 54, 55, 56, 57, 58, 59, 60, 61, 62, 63, 64, 65, 66, 67, 68, 69, 70, 71, 72, 73, 74, 75, 76, 77, 78, 79, 80, 81, 82, 83, 84, 85, 86, 87] (by decide +kernel) (by decide +kernel)
set_option maxRecDepth 20000 in
theorem gX8_bears_X8_costOf : GoodIn wsX8_bears (wsV RX8 180 RX8 yX8_costOf wsX8_costOf) := goodIn_app (goodIn_of _ (by decide +kernel)) ggX8_bears_X8_costOf
theorem dX8_bears_0 : decode cX8_bears 0 = .ok (.aload_n 0, 1) := by decide +kernel
theorem dX8_bears_1 : decode cX8_bears 1 = .ok (.iload_n 1, 1) := by decide +kernel
theorem dX8_bears_2 : decode cX8_bears 2 = .ok (.invokevirtual 180, 3) := by decide +kernel
theorem dX8_bears_5 : decode cX8_bears 5 = .ok (.lstore_n 2, 1) := by decide +kernel
theorem dX8_bears_6 : decode cX8_bears 6 = .ok (.aload_n 0, 1) := by decide +kernel
theorem dX8_bears_7 : decode cX8_bears 7 = .ok (.getfield 84, 3) := by decide +kernel
theorem dX8_bears_10 : decode cX8_bears 10 = .ok (.iload_n 1, 1) := by decide +kernel
theorem dX8_bears_11 : decode cX8_bears 11 = .ok (.iaload, 1) := by decide +kernel
theorem dX8_bears_12 : decode cX8_bears 12 = .ok (.bipush 100, 2) := by decide +kernel
theorem dX8_bears_14 : decode cX8_bears 14 = .ok (.idiv, 1) := by decide +kernel
theorem dX8_bears_15 : decode cX8_bears 15 = .ok (.istore 4, 2) := by decide +kernel
theorem dX8_bears_17 : decode cX8_bears 17 = .ok (.aload_n 0, 1) := by decide +kernel
theorem dX8_bears_18 : decode cX8_bears 18 = .ok (.getfield 47, 3) := by decide +kernel
theorem dX8_bears_21 : decode cX8_bears 21 = .ok (.iload 4, 2) := by decide +kernel
theorem dX8_bears_23 : decode cX8_bears 23 = .ok (.iaload, 1) := by decide +kernel
theorem dX8_bears_24 : decode cX8_bears 24 = .ok (.i2l, 1) := by decide +kernel
theorem dX8_bears_25 : decode cX8_bears 25 = .ok (.lstore 5, 2) := by decide +kernel
theorem dX8_bears_27 : decode cX8_bears 27 = .ok (.lload 5, 2) := by decide +kernel
theorem dX8_bears_29 : decode cX8_bears 29 = .ok (.ldc2_w 183, 3) := by decide +kernel
theorem dX8_bears_32 : decode cX8_bears 32 = .ok (.lcmp, 1) := by decide +kernel
theorem dX8_bears_33 : decode cX8_bears 33 = .ok (.ifCond .eq 10, 3) := by decide +kernel
theorem dX8_bears_36 : decode cX8_bears 36 = .ok (.lload_n 2, 1) := by decide +kernel
theorem dX8_bears_37 : decode cX8_bears 37 = .ok (.lload 5, 2) := by decide +kernel
theorem dX8_bears_39 : decode cX8_bears 39 = .ok (.lcmp, 1) := by decide +kernel
theorem dX8_bears_40 : decode cX8_bears 40 = .ok (.ifCond .gt 5, 3) := by decide +kernel
theorem dX8_bears_43 : decode cX8_bears 43 = .ok (.lload_n 2, 1) := by decide +kernel
theorem dX8_bears_44 : decode cX8_bears 44 = .ok (.lreturn, 1) := by decide +kernel
theorem dX8_bears_45 : decode cX8_bears 45 = .ok (.aload_n 0, 1) := by decide +kernel
theorem dX8_bears_46 : decode cX8_bears 46 = .ok (.getfield 50, 3) := by decide +kernel
theorem dX8_bears_49 : decode cX8_bears 49 = .ok (.iload 4, 2) := by decide +kernel
theorem dX8_bears_51 : decode cX8_bears 51 = .ok (.iaload, 1) := by decide +kernel
theorem dX8_bears_52 : decode cX8_bears 52 = .ok (.i2l, 1) := by decide +kernel
theorem dX8_bears_53 : decode cX8_bears 53 = .ok (.lstore 7, 2) := by decide +kernel
theorem dX8_bears_55 : decode cX8_bears 55 = .ok (.lload_n 2, 1) := by decide +kernel
theorem dX8_bears_56 : decode cX8_bears 56 = .ok (.lload 7, 2) := by decide +kernel
theorem dX8_bears_58 : decode cX8_bears 58 = .ok (.lcmp, 1) := by decide +kernel
theorem dX8_bears_59 : decode cX8_bears 59 = .ok (.ifCond .ge 7, 3) := by decide +kernel
theorem dX8_bears_62 : decode cX8_bears 62 = .ok (.lload_n 2, 1) := by decide +kernel
theorem dX8_bears_63 : decode cX8_bears 63 = .ok (.goto 5, 3) := by decide +kernel
theorem dX8_bears_66 : decode cX8_bears 66 = .ok (.lload 7, 2) := by decide +kernel
theorem dX8_bears_68 : decode cX8_bears 68 = .ok (.lload 5, 2) := by decide +kernel
theorem dX8_bears_70 : decode cX8_bears 70 = .ok (.lsub, 1) := by decide +kernel
theorem dX8_bears_71 : decode cX8_bears 71 = .ok (.lstore 9, 2) := by decide +kernel
theorem dX8_bears_73 : decode cX8_bears 73 = .ok (.lload 5, 2) := by decide +kernel
theorem dX8_bears_75 : decode cX8_bears 75 = .ok (.lload 9, 2) := by decide +kernel
theorem dX8_bears_77 : decode cX8_bears 77 = .ok (.aload_n 0, 1) := by decide +kernel
theorem dX8_bears_78 : decode cX8_bears 78 = .ok (.getfield 53, 3) := by decide +kernel
theorem dX8_bears_81 : decode cX8_bears 81 = .ok (.iload 4, 2) := by decide +kernel
theorem dX8_bears_83 : decode cX8_bears 83 = .ok (.iaload, 1) := by decide +kernel
theorem dX8_bears_84 : decode cX8_bears 84 = .ok (.i2l, 1) := by decide +kernel
theorem dX8_bears_85 : decode cX8_bears 85 = .ok (.lmul, 1) := by decide +kernel
theorem dX8_bears_86 : decode cX8_bears 86 = .ok (.ldc2_w 137, 3) := by decide +kernel
theorem dX8_bears_89 : decode cX8_bears 89 = .ok (.ldiv, 1) := by decide +kernel
theorem dX8_bears_90 : decode cX8_bears 90 = .ok (.ladd, 1) := by decide +kernel
theorem dX8_bears_91 : decode cX8_bears 91 = .ok (.lload_n 2, 1) := by decide +kernel
theorem dX8_bears_92 : decode cX8_bears 92 = .ok (.lload 7, 2) := by decide +kernel
theorem dX8_bears_94 : decode cX8_bears 94 = .ok (.lcmp, 1) := by decide +kernel
theorem dX8_bears_95 : decode cX8_bears 95 = .ok (.ifCond .le 10, 3) := by decide +kernel
theorem dX8_bears_98 : decode cX8_bears 98 = .ok (.lload_n 2, 1) := by decide +kernel
theorem dX8_bears_99 : decode cX8_bears 99 = .ok (.lload 7, 2) := by decide +kernel
theorem dX8_bears_101 : decode cX8_bears 101 = .ok (.lsub, 1) := by decide +kernel
theorem dX8_bears_102 : decode cX8_bears 102 = .ok (.goto 4, 3) := by decide +kernel
theorem dX8_bears_105 : decode cX8_bears 105 = .ok (.lconst 0, 1) := by decide +kernel
theorem dX8_bears_106 : decode cX8_bears 106 = .ok (.ladd, 1) := by decide +kernel
theorem dX8_bears_107 : decode cX8_bears 107 = .ok (.lreturn, 1) := by decide +kernel
set_option maxRecDepth 20000 in
theorem ggX8_ofEvent_X8_isIn : GoodIn wsX8_ofEvent wsX8_isIn := goodIn_r _ [9] (by decide +kernel) (by decide +kernel)
set_option maxRecDepth 20000 in
theorem gX8_ofEvent_X8_isIn : GoodIn wsX8_ofEvent (va_wsS RX8 103 yX8_isIn wsX8_isIn) := goodIn_app (goodIn_of _ (by decide +kernel)) ggX8_ofEvent_X8_isIn
set_option maxRecDepth 20000 in
theorem ggX8_ofEvent_X8_costOf : GoodIn wsX8_ofEvent wsX8_costOf := goodIn_r _ [13, 3, 4, 14, 15, 16, 8, 17, 18, 19, 20, 21, 22, 23, 24, 25, 26, 27, 28, 29, 30, 31, 32, 33, 34, 35, 36, 37, 38, 39, 40, 41, 42, 43, 44, 45, 46, 47, 48, 49, 50, 60, 61, 62, 63, 64, 65, 66, 67, 68, 69, 70, 71, 72, 73, 74, 75, 76, 77, 78, 79, 80, 81, 82, 83, 84, 85, 86, 87, 88, 89, 90, 91, 92, 93, 94, 95, 96] (by decide +kernel) (by decide +kernel)
set_option maxRecDepth 20000 in
theorem gX8_ofEvent_X8_costOf : GoodIn wsX8_ofEvent (wsV RX8 180 RX8 yX8_costOf wsX8_costOf) := goodIn_app (goodIn_of _ (by decide +kernel)) ggX8_ofEvent_X8_costOf
set_option maxRecDepth 20000 in
theorem ggX8_ofEvent_X8_bears : GoodIn wsX8_ofEvent wsX8_bears := goodIn_r _ [54, 5, 55, 56, 57, 58, 59, 10, 11, 12, 8, 13, 3, 4, 14, 15, 16, 17, 18, 19, 20, 21, 22, 23, 24, 25, 26, 27, 28, 29, 30, 31, 32, 33, 34, 35, 36, 37, 38, 39, 40, 41, 42, 43, 44, 45, 46, 47, 48, 49, 50, 60, 61, 62, 63, 64, 65, 66, 67, 68, 69, 70, 71, 72, 73, 74, 75, 76, 77, 78, 79, 80, 81, 82, 83, 84, 85, 86, 87, 88, 89, 90, 91, 92, 93, 94, 95, 96] (by decide +kernel) (by decide +kernel)
set_option maxRecDepth 20000 in
theorem gX8_ofEvent_X8_bears : GoodIn wsX8_ofEvent (wsV RX8 185 RX8 yX8_bears wsX8_bears) := goodIn_app (goodIn_of _ (by decide +kernel)) ggX8_ofEvent_X8_bears
theorem dX8_ofEvent_0 : decode cX8_ofEvent 0 = .ok (.aload_n 0, 1) := by decide +kernel
theorem dX8_ofEvent_1 : decode cX8_ofEvent 1 = .ok (.iload_n 1, 1) := by decide +kernel
theorem dX8_ofEvent_2 : decode cX8_ofEvent 2 = .ok (.iconst 0, 1) := by decide +kernel
theorem dX8_ofEvent_3 : decode cX8_ofEvent 3 = .ok (.aload_n 0, 1) := by decide +kernel
theorem dX8_ofEvent_4 : decode cX8_ofEvent 4 = .ok (.getfield 148, 3) := by decide +kernel
theorem dX8_ofEvent_7 : decode cX8_ofEvent 7 = .ok (.iconst 1, 1) := by decide +kernel
theorem dX8_ofEvent_8 : decode cX8_ofEvent 8 = .ok (.isub, 1) := by decide +kernel
theorem dX8_ofEvent_9 : decode cX8_ofEvent 9 = .ok (.invokestatic 103, 3) := by decide +kernel
theorem dX8_ofEvent_12 : decode cX8_ofEvent 12 = .ok (.ifCond .ne 7, 3) := by decide +kernel
theorem dX8_ofEvent_15 : decode cX8_ofEvent 15 = .ok (.iconst 1, 1) := by decide +kernel
theorem dX8_ofEvent_16 : decode cX8_ofEvent 16 = .ok (.goto 17, 3) := by decide +kernel
theorem dX8_ofEvent_19 : decode cX8_ofEvent 19 = .ok (.iload_n 2, 1) := by decide +kernel
theorem dX8_ofEvent_20 : decode cX8_ofEvent 20 = .ok (.iconst 0, 1) := by decide +kernel
theorem dX8_ofEvent_21 : decode cX8_ofEvent 21 = .ok (.iconst 3, 1) := by decide +kernel
theorem dX8_ofEvent_22 : decode cX8_ofEvent 22 = .ok (.invokestatic 103, 3) := by decide +kernel
theorem dX8_ofEvent_25 : decode cX8_ofEvent 25 = .ok (.ifCond .ne 7, 3) := by decide +kernel
theorem dX8_ofEvent_28 : decode cX8_ofEvent 28 = .ok (.iconst 2, 1) := by decide +kernel
theorem dX8_ofEvent_29 : decode cX8_ofEvent 29 = .ok (.goto 4, 3) := by decide +kernel
theorem dX8_ofEvent_32 : decode cX8_ofEvent 32 = .ok (.iconst 0, 1) := by decide +kernel
theorem dX8_ofEvent_33 : decode cX8_ofEvent 33 = .ok (.putfield 96, 3) := by decide +kernel
theorem dX8_ofEvent_36 : decode cX8_ofEvent 36 = .ok (.aload_n 0, 1) := by decide +kernel
theorem dX8_ofEvent_37 : decode cX8_ofEvent 37 = .ok (.getfield 96, 3) := by decide +kernel
theorem dX8_ofEvent_40 : decode cX8_ofEvent 40 = .ok (.ifCond .le 5, 3) := by decide +kernel
theorem dX8_ofEvent_43 : decode cX8_ofEvent 43 = .ok (.lconst 0, 1) := by decide +kernel
theorem dX8_ofEvent_44 : decode cX8_ofEvent 44 = .ok (.lreturn, 1) := by decide +kernel
theorem dX8_ofEvent_45 : decode cX8_ofEvent 45 = .ok (.iconst 0, 1) := by decide +kernel
theorem dX8_ofEvent_46 : decode cX8_ofEvent 46 = .ok (.istore_n 3, 1) := by decide +kernel
theorem dX8_ofEvent_47 : decode cX8_ofEvent 47 = .ok (.iconst 0, 1) := by decide +kernel
theorem dX8_ofEvent_48 : decode cX8_ofEvent 48 = .ok (.istore 4, 2) := by decide +kernel
theorem dX8_ofEvent_50 : decode cX8_ofEvent 50 = .ok (.iload 4, 2) := by decide +kernel
theorem dX8_ofEvent_52 : decode cX8_ofEvent 52 = .ok (.aload_n 0, 1) := by decide +kernel
theorem dX8_ofEvent_53 : decode cX8_ofEvent 53 = .ok (.getfield 110, 3) := by decide +kernel
theorem dX8_ofEvent_56 : decode cX8_ofEvent 56 = .ok (.if_icmp .ge 28, 3) := by decide +kernel
theorem dX8_ofEvent_59 : decode cX8_ofEvent 59 = .ok (.iload_n 3, 1) := by decide +kernel
theorem dX8_ofEvent_60 : decode cX8_ofEvent 60 = .ok (.aload_n 0, 1) := by decide +kernel
theorem dX8_ofEvent_61 : decode cX8_ofEvent 61 = .ok (.getfield 68, 3) := by decide +kernel
theorem dX8_ofEvent_64 : decode cX8_ofEvent 64 = .ok (.iload 4, 2) := by decide +kernel
theorem dX8_ofEvent_66 : decode cX8_ofEvent 66 = .ok (.iaload, 1) := by decide +kernel
theorem dX8_ofEvent_67 : decode cX8_ofEvent 67 = .ok (.iload_n 1, 1) := by decide +kernel
theorem dX8_ofEvent_68 : decode cX8_ofEvent 68 = .ok (.if_icmp .ne 7, 3) := by decide +kernel
theorem dX8_ofEvent_71 : decode cX8_ofEvent 71 = .ok (.iconst 1, 1) := by decide +kernel
theorem dX8_ofEvent_72 : decode cX8_ofEvent 72 = .ok (.goto 4, 3) := by decide +kernel
theorem dX8_ofEvent_75 : decode cX8_ofEvent 75 = .ok (.iconst 0, 1) := by decide +kernel
theorem dX8_ofEvent_76 : decode cX8_ofEvent 76 = .ok (.iadd, 1) := by decide +kernel
theorem dX8_ofEvent_77 : decode cX8_ofEvent 77 = .ok (.istore_n 3, 1) := by decide +kernel
theorem dX8_ofEvent_78 : decode cX8_ofEvent 78 = .ok (.iinc 4 1, 3) := by decide +kernel
theorem dX8_ofEvent_81 : decode cX8_ofEvent 81 = .ok (.goto (-31), 3) := by decide +kernel
theorem dX8_ofEvent_84 : decode cX8_ofEvent 84 = .ok (.iload_n 2, 1) := by decide +kernel
theorem dX8_ofEvent_85 : decode cX8_ofEvent 85 = .ok (.ifCond .ne 11, 3) := by decide +kernel
theorem dX8_ofEvent_88 : decode cX8_ofEvent 88 = .ok (.aload_n 0, 1) := by decide +kernel
theorem dX8_ofEvent_89 : decode cX8_ofEvent 89 = .ok (.iload_n 1, 1) := by decide +kernel
theorem dX8_ofEvent_90 : decode cX8_ofEvent 90 = .ok (.invokevirtual 180, 3) := by decide +kernel
theorem dX8_ofEvent_93 : decode cX8_ofEvent 93 = .ok (.goto 33, 3) := by decide +kernel
theorem dX8_ofEvent_96 : decode cX8_ofEvent 96 = .ok (.iload_n 2, 1) := by decide +kernel
theorem dX8_ofEvent_97 : decode cX8_ofEvent 97 = .ok (.iconst 1, 1) := by decide +kernel
theorem dX8_ofEvent_98 : decode cX8_ofEvent 98 = .ok (.if_icmp .ne 11, 3) := by decide +kernel
theorem dX8_ofEvent_101 : decode cX8_ofEvent 101 = .ok (.aload_n 0, 1) := by decide +kernel
theorem dX8_ofEvent_102 : decode cX8_ofEvent 102 = .ok (.iload_n 1, 1) := by decide +kernel
theorem dX8_ofEvent_103 : decode cX8_ofEvent 103 = .ok (.invokevirtual 185, 3) := by decide +kernel
theorem dX8_ofEvent_106 : decode cX8_ofEvent 106 = .ok (.goto 20, 3) := by decide +kernel
theorem dX8_ofEvent_109 : decode cX8_ofEvent 109 = .ok (.iload_n 2, 1) := by decide +kernel
theorem dX8_ofEvent_110 : decode cX8_ofEvent 110 = .ok (.iconst 2, 1) := by decide +kernel
theorem dX8_ofEvent_111 : decode cX8_ofEvent 111 = .ok (.if_icmp .ne 13, 3) := by decide +kernel
theorem dX8_ofEvent_114 : decode cX8_ofEvent 114 = .ok (.aload_n 0, 1) := by decide +kernel
theorem dX8_ofEvent_115 : decode cX8_ofEvent 115 = .ok (.getfield 84, 3) := by decide +kernel
theorem dX8_ofEvent_118 : decode cX8_ofEvent 118 = .ok (.iload_n 1, 1) := by decide +kernel
theorem dX8_ofEvent_119 : decode cX8_ofEvent 119 = .ok (.iaload, 1) := by decide +kernel
theorem dX8_ofEvent_120 : decode cX8_ofEvent 120 = .ok (.i2l, 1) := by decide +kernel
theorem dX8_ofEvent_121 : decode cX8_ofEvent 121 = .ok (.goto 5, 3) := by decide +kernel
theorem dX8_ofEvent_124 : decode cX8_ofEvent 124 = .ok (.iload_n 3, 1) := by decide +kernel
theorem dX8_ofEvent_125 : decode cX8_ofEvent 125 = .ok (.i2l, 1) := by decide +kernel
theorem dX8_ofEvent_126 : decode cX8_ofEvent 126 = .ok (.lreturn, 1) := by decide +kernel
set_option maxRecDepth 20000 in
theorem ggX8_costIn_X8_bears : GoodIn wsX8_costIn wsX8_bears := goodIn_r _ [7, 2, 8, 9, 10, 11, 12, 13, 14, 15, 6, 16, 17, 18, 19, 20, 21, 22, 23, 24, 25, 26, 27, 28, 29, 30, 31, 32, 33, 34, 35, 36, 37, 38, 39, 40, 41, 42, 43, 44, 45, 46, 47, 48, 49, 50, 51, 52, 53, 54, 55, 56, 57, 58, 59, 60, 61, 62, 63, 64, 65, 66, 67, 68, 69, 70, 71, 72, 73, 74, 75, 76, 77, 78, 79, 80, 81, 82, 83, 84, 85, 86, 87, 88, 89, 90, 91, 92] (by decide +kernel) (by decide +kernel)
set_option maxRecDepth 20000 in
theorem gX8_costIn_X8_bears : GoodIn wsX8_costIn (wsV RX8 185 RX8 yX8_bears wsX8_bears) := goodIn_app (goodIn_of _ (by decide +kernel)) ggX8_costIn_X8_bears
theorem dX8_costIn_0 : decode cX8_costIn 0 = .ok (.lconst 0, 1) := by decide +kernel
theorem dX8_costIn_1 : decode cX8_costIn 1 = .ok (.lstore_n 2, 1) := by decide +kernel
theorem dX8_costIn_2 : decode cX8_costIn 2 = .ok (.iconst 0, 1) := by decide +kernel
theorem dX8_costIn_3 : decode cX8_costIn 3 = .ok (.istore 4, 2) := by decide +kernel
theorem dX8_costIn_5 : decode cX8_costIn 5 = .ok (.iload 4, 2) := by decide +kernel
theorem dX8_costIn_7 : decode cX8_costIn 7 = .ok (.aload_n 0, 1) := by decide +kernel
theorem dX8_costIn_8 : decode cX8_costIn 8 = .ok (.getfield 148, 3) := by decide +kernel
theorem dX8_costIn_11 : decode cX8_costIn 11 = .ok (.if_icmp .ge 36, 3) := by decide +kernel
theorem dX8_costIn_14 : decode cX8_costIn 14 = .ok (.lload_n 2, 1) := by decide +kernel
theorem dX8_costIn_15 : decode cX8_costIn 15 = .ok (.aload_n 0, 1) := by decide +kernel
theorem dX8_costIn_16 : decode cX8_costIn 16 = .ok (.getfield 84, 3) := by decide +kernel
theorem dX8_costIn_19 : decode cX8_costIn 19 = .ok (.iload 4, 2) := by decide +kernel
theorem dX8_costIn_21 : decode cX8_costIn 21 = .ok (.iaload, 1) := by decide +kernel
theorem dX8_costIn_22 : decode cX8_costIn 22 = .ok (.bipush 100, 2) := by decide +kernel
theorem dX8_costIn_24 : decode cX8_costIn 24 = .ok (.idiv, 1) := by decide +kernel
theorem dX8_costIn_25 : decode cX8_costIn 25 = .ok (.iload_n 1, 1) := by decide +kernel
theorem dX8_costIn_26 : decode cX8_costIn 26 = .ok (.if_icmp .ne 12, 3) := by decide +kernel
theorem dX8_costIn_29 : decode cX8_costIn 29 = .ok (.aload_n 0, 1) := by decide +kernel
theorem dX8_costIn_30 : decode cX8_costIn 30 = .ok (.iload 4, 2) := by decide +kernel
theorem dX8_costIn_32 : decode cX8_costIn 32 = .ok (.invokevirtual 185, 3) := by decide +kernel
theorem dX8_costIn_35 : decode cX8_costIn 35 = .ok (.goto 4, 3) := by decide +kernel
theorem dX8_costIn_38 : decode cX8_costIn 38 = .ok (.lconst 0, 1) := by decide +kernel
theorem dX8_costIn_39 : decode cX8_costIn 39 = .ok (.ladd, 1) := by decide +kernel
theorem dX8_costIn_40 : decode cX8_costIn 40 = .ok (.lstore_n 2, 1) := by decide +kernel
theorem dX8_costIn_41 : decode cX8_costIn 41 = .ok (.iinc 4 1, 3) := by decide +kernel
theorem dX8_costIn_44 : decode cX8_costIn 44 = .ok (.goto (-39), 3) := by decide +kernel
theorem dX8_costIn_47 : decode cX8_costIn 47 = .ok (.lload_n 2, 1) := by decide +kernel
theorem dX8_costIn_48 : decode cX8_costIn 48 = .ok (.lreturn, 1) := by decide +kernel
set_option maxRecDepth 20000 in
theorem ggX8_cost_X8_isYear : GoodIn wsX8_cost wsX8_isYear := goodIn_r _ [5, 6, 7, 4, 8] (by decide +kernel) (by decide +kernel)
set_option maxRecDepth 20000 in
theorem gX8_cost_X8_isYear : GoodIn wsX8_cost (va_wsS RX8 131 yX8_isYear wsX8_isYear) := goodIn_app (goodIn_of _ (by decide +kernel)) ggX8_cost_X8_isYear
set_option maxRecDepth 20000 in
theorem ggX8_cost_X8_costIn : GoodIn wsX8_cost wsX8_costIn := goodIn_r _ [12, 13, 14, 15, 16, 17, 4, 18, 19, 20, 21, 22, 23, 24, 25, 26, 27, 28, 29, 30, 31, 32, 33, 34, 35, 36, 37, 38, 39, 40, 41, 42, 43, 44, 45, 46, 47, 48, 49, 50, 51, 52, 53, 54, 55, 56, 57, 58, 59, 60, 61, 62, 63, 64, 65, 66, 67, 68, 69, 70, 71, 72, 73, 74, 75, 76, 77, 78, 79, 80, 81, 82, 83, 84, 85, 86, 87, 88, 89, 90, 91, 92, 93, 94, 95, 96, 97, 98, 99, 100, 101, 102, 103] (by decide +kernel) (by decide +kernel)
set_option maxRecDepth 20000 in
theorem gX8_cost_X8_costIn : GoodIn wsX8_cost (wsV RX8 188 RX8 yX8_costIn wsX8_costIn) := goodIn_app (goodIn_of _ (by decide +kernel)) ggX8_cost_X8_costIn
theorem dX8_cost_0 : decode cX8_cost 0 = .ok (.aload_n 0, 1) := by decide +kernel
theorem dX8_cost_1 : decode cX8_cost 1 = .ok (.iload_n 1, 1) := by decide +kernel
theorem dX8_cost_2 : decode cX8_cost 2 = .ok (.invokestatic 131, 3) := by decide +kernel
theorem dX8_cost_5 : decode cX8_cost 5 = .ok (.ifCond .eq 7, 3) := by decide +kernel
theorem dX8_cost_8 : decode cX8_cost 8 = .ok (.iconst 0, 1) := by decide +kernel
theorem dX8_cost_9 : decode cX8_cost 9 = .ok (.goto 4, 3) := by decide +kernel
theorem dX8_cost_12 : decode cX8_cost 12 = .ok (.iconst 1, 1) := by decide +kernel
theorem dX8_cost_13 : decode cX8_cost 13 = .ok (.putfield 96, 3) := by decide +kernel
theorem dX8_cost_16 : decode cX8_cost 16 = .ok (.aload_n 0, 1) := by decide +kernel
theorem dX8_cost_17 : decode cX8_cost 17 = .ok (.getfield 96, 3) := by decide +kernel
theorem dX8_cost_20 : decode cX8_cost 20 = .ok (.ifCond .le 7, 3) := by decide +kernel
theorem dX8_cost_23 : decode cX8_cost 23 = .ok (.lconst 0, 1) := by decide +kernel
theorem dX8_cost_24 : decode cX8_cost 24 = .ok (.goto 8, 3) := by decide +kernel
theorem dX8_cost_27 : decode cX8_cost 27 = .ok (.aload_n 0, 1) := by decide +kernel
theorem dX8_cost_28 : decode cX8_cost 28 = .ok (.iload_n 1, 1) := by decide +kernel
theorem dX8_cost_29 : decode cX8_cost 29 = .ok (.invokevirtual 188, 3) := by decide +kernel
theorem dX8_cost_32 : decode cX8_cost 32 = .ok (.lreturn, 1) := by decide +kernel
theorem dX8_hasReleased_0 : decode cX8_hasReleased 0 = .ok (.iconst 0, 1) := by decide +kernel
theorem dX8_hasReleased_1 : decode cX8_hasReleased 1 = .ok (.istore_n 2, 1) := by decide +kernel
theorem dX8_hasReleased_2 : decode cX8_hasReleased 2 = .ok (.iconst 0, 1) := by decide +kernel
theorem dX8_hasReleased_3 : decode cX8_hasReleased 3 = .ok (.istore_n 3, 1) := by decide +kernel
theorem dX8_hasReleased_4 : decode cX8_hasReleased 4 = .ok (.iload_n 3, 1) := by decide +kernel
theorem dX8_hasReleased_5 : decode cX8_hasReleased 5 = .ok (.aload_n 0, 1) := by decide +kernel
theorem dX8_hasReleased_6 : decode cX8_hasReleased 6 = .ok (.getfield 100, 3) := by decide +kernel
theorem dX8_hasReleased_9 : decode cX8_hasReleased 9 = .ok (.if_icmp .ge 34, 3) := by decide +kernel
theorem dX8_hasReleased_12 : decode cX8_hasReleased 12 = .ok (.iload_n 2, 1) := by decide +kernel
theorem dX8_hasReleased_13 : decode cX8_hasReleased 13 = .ok (.ifCond .ne 18, 3) := by decide +kernel
theorem dX8_hasReleased_16 : decode cX8_hasReleased 16 = .ok (.aload_n 0, 1) := by decide +kernel
theorem dX8_hasReleased_17 : decode cX8_hasReleased 17 = .ok (.getfield 20, 3) := by decide +kernel
theorem dX8_hasReleased_20 : decode cX8_hasReleased 20 = .ok (.bipush 20, 2) := by decide +kernel
theorem dX8_hasReleased_22 : decode cX8_hasReleased 22 = .ok (.iload_n 3, 1) := by decide +kernel
theorem dX8_hasReleased_23 : decode cX8_hasReleased 23 = .ok (.imul, 1) := by decide +kernel
theorem dX8_hasReleased_24 : decode cX8_hasReleased 24 = .ok (.iload_n 1, 1) := by decide +kernel
theorem dX8_hasReleased_25 : decode cX8_hasReleased 25 = .ok (.iadd, 1) := by decide +kernel
theorem dX8_hasReleased_26 : decode cX8_hasReleased 26 = .ok (.iaload, 1) := by decide +kernel
theorem dX8_hasReleased_27 : decode cX8_hasReleased 27 = .ok (.iconst 1, 1) := by decide +kernel
theorem dX8_hasReleased_28 : decode cX8_hasReleased 28 = .ok (.if_icmp .ne 7, 3) := by decide +kernel
theorem dX8_hasReleased_31 : decode cX8_hasReleased 31 = .ok (.iconst 1, 1) := by decide +kernel
theorem dX8_hasReleased_32 : decode cX8_hasReleased 32 = .ok (.goto 4, 3) := by decide +kernel
theorem dX8_hasReleased_35 : decode cX8_hasReleased 35 = .ok (.iconst 0, 1) := by decide +kernel
theorem dX8_hasReleased_36 : decode cX8_hasReleased 36 = .ok (.istore_n 2, 1) := by decide +kernel
theorem dX8_hasReleased_37 : decode cX8_hasReleased 37 = .ok (.iinc 3 1, 3) := by decide +kernel
theorem dX8_hasReleased_40 : decode cX8_hasReleased 40 = .ok (.goto (-36), 3) := by decide +kernel
theorem dX8_hasReleased_43 : decode cX8_hasReleased 43 = .ok (.iload_n 2, 1) := by decide +kernel
theorem dX8_hasReleased_44 : decode cX8_hasReleased 44 = .ok (.ireturn, 1) := by decide +kernel
set_option maxRecDepth 20000 in
theorem ggX8_advance_X8_isYear : GoodIn wsX8_advance wsX8_isYear := goodIn_r _ [8, 9, 10, 7, 11] (by decide +kernel) (by decide +kernel)
set_option maxRecDepth 20000 in
theorem gX8_advance_X8_isYear : GoodIn wsX8_advance (va_wsS RX8 131 yX8_isYear wsX8_isYear) := goodIn_app (goodIn_of _ (by decide +kernel)) ggX8_advance_X8_isYear
set_option maxRecDepth 20000 in
theorem ggX8_advance_X8_isIn : GoodIn wsX8_advance wsX8_isIn := goodIn_r _ [11] (by decide +kernel) (by decide +kernel)
set_option maxRecDepth 20000 in
theorem gX8_advance_X8_isIn : GoodIn wsX8_advance (va_wsS RX8 103 yX8_isIn wsX8_isIn) := goodIn_app (goodIn_of _ (by decide +kernel)) ggX8_advance_X8_isIn
set_option maxRecDepth 20000 in
theorem ggX8_advance_X8_hasReleased : GoodIn wsX8_advance wsX8_hasReleased := goodIn_r _ [15, 16, 17, 18, 19, 20, 21, 22, 23, 24, 25, 26, 27, 28, 29, 30, 31, 32, 33, 34, 35, 36, 37, 38, 39, 40, 41, 42, 43, 44, 45, 46, 47, 48, 49, 50, 51, 52, 53, 54] (by decide +kernel) (by decide +kernel)
set_option maxRecDepth 20000 in
theorem gX8_advance_X8_hasReleased : GoodIn wsX8_advance (wsV RX8 191 RX8 yX8_hasReleased wsX8_hasReleased) := goodIn_app (goodIn_of _ (by decide +kernel)) ggX8_advance_X8_hasReleased
theorem dX8_advance_0 : decode cX8_advance 0 = .ok (.iload_n 1, 1) := by decide +kernel
theorem dX8_advance_1 : decode cX8_advance 1 = .ok (.invokestatic 131, 3) := by decide +kernel
theorem dX8_advance_4 : decode cX8_advance 4 = .ok (.ifCond .eq 17, 3) := by decide +kernel
theorem dX8_advance_7 : decode cX8_advance 7 = .ok (.iload_n 2, 1) := by decide +kernel
theorem dX8_advance_8 : decode cX8_advance 8 = .ok (.iconst 0, 1) := by decide +kernel
theorem dX8_advance_9 : decode cX8_advance 9 = .ok (.ldc 146, 2) := by decide +kernel
theorem dX8_advance_11 : decode cX8_advance 11 = .ok (.invokestatic 103, 3) := by decide +kernel
theorem dX8_advance_14 : decode cX8_advance 14 = .ok (.ifCond .eq 7, 3) := by decide +kernel
theorem dX8_advance_17 : decode cX8_advance 17 = .ok (.iconst 1, 1) := by decide +kernel
theorem dX8_advance_18 : decode cX8_advance 18 = .ok (.goto 4, 3) := by decide +kernel
theorem dX8_advance_21 : decode cX8_advance 21 = .ok (.iconst 0, 1) := by decide +kernel
theorem dX8_advance_22 : decode cX8_advance 22 = .ok (.istore_n 3, 1) := by decide +kernel
theorem dX8_advance_23 : decode cX8_advance 23 = .ok (.aload_n 0, 1) := by decide +kernel
theorem dX8_advance_24 : decode cX8_advance 24 = .ok (.iload_n 3, 1) := by decide +kernel
theorem dX8_advance_25 : decode cX8_advance 25 = .ok (.ifCond .ne 7, 3) := by decide +kernel
theorem dX8_advance_28 : decode cX8_advance 28 = .ok (.iconst 1, 1) := by decide +kernel
theorem dX8_advance_29 : decode cX8_advance 29 = .ok (.goto 24, 3) := by decide +kernel
theorem dX8_advance_32 : decode cX8_advance 32 = .ok (.iload_n 1, 1) := by decide +kernel
theorem dX8_advance_33 : decode cX8_advance 33 = .ok (.aload_n 0, 1) := by decide +kernel
theorem dX8_advance_34 : decode cX8_advance 34 = .ok (.getfield 134, 3) := by decide +kernel
theorem dX8_advance_37 : decode cX8_advance 37 = .ok (.if_icmp .lt 11, 3) := by decide +kernel
theorem dX8_advance_40 : decode cX8_advance 40 = .ok (.aload_n 0, 1) := by decide +kernel
theorem dX8_advance_41 : decode cX8_advance 41 = .ok (.iload_n 1, 1) := by decide +kernel
theorem dX8_advance_42 : decode cX8_advance 42 = .ok (.invokevirtual 191, 3) := by decide +kernel
theorem dX8_advance_45 : decode cX8_advance 45 = .ok (.ifCond .eq 7, 3) := by decide +kernel
theorem dX8_advance_48 : decode cX8_advance 48 = .ok (.iconst 2, 1) := by decide +kernel
theorem dX8_advance_49 : decode cX8_advance 49 = .ok (.goto 4, 3) := by decide +kernel
theorem dX8_advance_52 : decode cX8_advance 52 = .ok (.iconst 0, 1) := by decide +kernel
theorem dX8_advance_53 : decode cX8_advance 53 = .ok (.putfield 96, 3) := by decide +kernel
theorem dX8_advance_56 : decode cX8_advance 56 = .ok (.aload_n 0, 1) := by decide +kernel
theorem dX8_advance_57 : decode cX8_advance 57 = .ok (.getfield 96, 3) := by decide +kernel
theorem dX8_advance_60 : decode cX8_advance 60 = .ok (.ifCond .le 5, 3) := by decide +kernel
theorem dX8_advance_63 : decode cX8_advance 63 = .ok (.iconst 0, 1) := by decide +kernel
theorem dX8_advance_64 : decode cX8_advance 64 = .ok (.ireturn, 1) := by decide +kernel
theorem dX8_advance_65 : decode cX8_advance 65 = .ok (.aload_n 0, 1) := by decide +kernel
theorem dX8_advance_66 : decode cX8_advance 66 = .ok (.getfield 87, 3) := by decide +kernel
theorem dX8_advance_69 : decode cX8_advance 69 = .ok (.iload_n 1, 1) := by decide +kernel
theorem dX8_advance_70 : decode cX8_advance 70 = .ok (.iaload, 1) := by decide +kernel
theorem dX8_advance_71 : decode cX8_advance 71 = .ok (.istore 4, 2) := by decide +kernel
theorem dX8_advance_73 : decode cX8_advance 73 = .ok (.aload_n 0, 1) := by decide +kernel
theorem dX8_advance_74 : decode cX8_advance 74 = .ok (.getfield 87, 3) := by decide +kernel
theorem dX8_advance_77 : decode cX8_advance 77 = .ok (.iload_n 1, 1) := by decide +kernel
theorem dX8_advance_78 : decode cX8_advance 78 = .ok (.iload_n 2, 1) := by decide +kernel
theorem dX8_advance_79 : decode cX8_advance 79 = .ok (.iastore, 1) := by decide +kernel
theorem dX8_advance_80 : decode cX8_advance 80 = .ok (.iload 4, 2) := by decide +kernel
theorem dX8_advance_82 : decode cX8_advance 82 = .ok (.ireturn, 1) := by decide +kernel
set_option maxRecDepth 20000 in
theorem ggX8_further_X8_isYear : GoodIn wsX8_further wsX8_isYear := goodIn_r _ [7, 8, 9, 6, 10] (by decide +kernel) (by decide +kernel)
set_option maxRecDepth 20000 in
theorem gX8_further_X8_isYear : GoodIn wsX8_further (va_wsS RX8 131 yX8_isYear wsX8_isYear) := goodIn_app (goodIn_of _ (by decide +kernel)) ggX8_further_X8_isYear
set_option maxRecDepth 20000 in
theorem ggX8_further_X8_isIn : GoodIn wsX8_further wsX8_isIn := goodIn_r _ [10] (by decide +kernel) (by decide +kernel)
set_option maxRecDepth 20000 in
theorem gX8_further_X8_isIn : GoodIn wsX8_further (va_wsS RX8 103 yX8_isIn wsX8_isIn) := goodIn_app (goodIn_of _ (by decide +kernel)) ggX8_further_X8_isIn
theorem dX8_further_0 : decode cX8_further 0 = .ok (.iload_n 1, 1) := by decide +kernel
theorem dX8_further_1 : decode cX8_further 1 = .ok (.invokestatic 131, 3) := by decide +kernel
theorem dX8_further_4 : decode cX8_further 4 = .ok (.ifCond .eq 18, 3) := by decide +kernel
theorem dX8_further_7 : decode cX8_further 7 = .ok (.iload_n 2, 1) := by decide +kernel
theorem dX8_further_8 : decode cX8_further 8 = .ok (.iconst 1, 1) := by decide +kernel
theorem dX8_further_9 : decode cX8_further 9 = .ok (.sipush 200, 3) := by decide +kernel
theorem dX8_further_12 : decode cX8_further 12 = .ok (.invokestatic 103, 3) := by decide +kernel
theorem dX8_further_15 : decode cX8_further 15 = .ok (.ifCond .eq 7, 3) := by decide +kernel
theorem dX8_further_18 : decode cX8_further 18 = .ok (.iconst 1, 1) := by decide +kernel
theorem dX8_further_19 : decode cX8_further 19 = .ok (.goto 4, 3) := by decide +kernel
theorem dX8_further_22 : decode cX8_further 22 = .ok (.iconst 0, 1) := by decide +kernel
theorem dX8_further_23 : decode cX8_further 23 = .ok (.istore_n 3, 1) := by decide +kernel
theorem dX8_further_24 : decode cX8_further 24 = .ok (.aload_n 0, 1) := by decide +kernel
theorem dX8_further_25 : decode cX8_further 25 = .ok (.iload_n 3, 1) := by decide +kernel
theorem dX8_further_26 : decode cX8_further 26 = .ok (.ifCond .ne 7, 3) := by decide +kernel
theorem dX8_further_29 : decode cX8_further 29 = .ok (.iconst 1, 1) := by decide +kernel
theorem dX8_further_30 : decode cX8_further 30 = .ok (.goto 30, 3) := by decide +kernel
theorem dX8_further_33 : decode cX8_further 33 = .ok (.iload_n 1, 1) := by decide +kernel
theorem dX8_further_34 : decode cX8_further 34 = .ok (.aload_n 0, 1) := by decide +kernel
theorem dX8_further_35 : decode cX8_further 35 = .ok (.getfield 134, 3) := by decide +kernel
theorem dX8_further_38 : decode cX8_further 38 = .ok (.if_icmp .lt 17, 3) := by decide +kernel
theorem dX8_further_41 : decode cX8_further 41 = .ok (.aload_n 0, 1) := by decide +kernel
theorem dX8_further_42 : decode cX8_further 42 = .ok (.getfield 90, 3) := by decide +kernel
theorem dX8_further_45 : decode cX8_further 45 = .ok (.iload_n 1, 1) := by decide +kernel
theorem dX8_further_46 : decode cX8_further 46 = .ok (.iaload, 1) := by decide +kernel
theorem dX8_further_47 : decode cX8_further 47 = .ok (.iload_n 2, 1) := by decide +kernel
theorem dX8_further_48 : decode cX8_further 48 = .ok (.iadd, 1) := by decide +kernel
theorem dX8_further_49 : decode cX8_further 49 = .ok (.sipush 1000, 3) := by decide +kernel
theorem dX8_further_52 : decode cX8_further 52 = .ok (.if_icmp .le 7, 3) := by decide +kernel
theorem dX8_further_55 : decode cX8_further 55 = .ok (.iconst 2, 1) := by decide +kernel
theorem dX8_further_56 : decode cX8_further 56 = .ok (.goto 4, 3) := by decide +kernel
theorem dX8_further_59 : decode cX8_further 59 = .ok (.iconst 0, 1) := by decide +kernel
theorem dX8_further_60 : decode cX8_further 60 = .ok (.putfield 96, 3) := by decide +kernel
theorem dX8_further_63 : decode cX8_further 63 = .ok (.aload_n 0, 1) := by decide +kernel
theorem dX8_further_64 : decode cX8_further 64 = .ok (.getfield 96, 3) := by decide +kernel
theorem dX8_further_67 : decode cX8_further 67 = .ok (.ifCond .le 5, 3) := by decide +kernel
theorem dX8_further_70 : decode cX8_further 70 = .ok (.iconst 0, 1) := by decide +kernel
theorem dX8_further_71 : decode cX8_further 71 = .ok (.ireturn, 1) := by decide +kernel
theorem dX8_further_72 : decode cX8_further 72 = .ok (.aload_n 0, 1) := by decide +kernel
theorem dX8_further_73 : decode cX8_further 73 = .ok (.getfield 90, 3) := by decide +kernel
theorem dX8_further_76 : decode cX8_further 76 = .ok (.iload_n 1, 1) := by decide +kernel
theorem dX8_further_77 : decode cX8_further 77 = .ok (.dup2, 1) := by decide +kernel
theorem dX8_further_78 : decode cX8_further 78 = .ok (.iaload, 1) := by decide +kernel
theorem dX8_further_79 : decode cX8_further 79 = .ok (.iload_n 2, 1) := by decide +kernel
theorem dX8_further_80 : decode cX8_further 80 = .ok (.iadd, 1) := by decide +kernel
theorem dX8_further_81 : decode cX8_further 81 = .ok (.iastore, 1) := by decide +kernel
theorem dX8_further_82 : decode cX8_further 82 = .ok (.aload_n 0, 1) := by decide +kernel
theorem dX8_further_83 : decode cX8_further 83 = .ok (.getfield 90, 3) := by decide +kernel
theorem dX8_further_86 : decode cX8_further 86 = .ok (.iload_n 1, 1) := by decide +kernel
theorem dX8_further_87 : decode cX8_further 87 = .ok (.iaload, 1) := by decide +kernel
theorem dX8_further_88 : decode cX8_further 88 = .ok (.ireturn, 1) := by decide +kernel
set_option maxRecDepth 20000 in
theorem ggX8_base_X8_weightOf : GoodIn wsX8_base wsX8_weightOf := goodIn_r _ [7, 8, 9, 10, 11, 12, 13, 14, 15, 16, 17, 18, 19, 20, 21, 22, 23, 24, 25, 26, 27, 28, 29, 30, 31, 32, 33, 34, 35, 36, 37, 38, 39, 40, 41, 42, 43, 44, 45, 46, 47, 48, 49, 50, 51, 52] (by decide +kernel) (by decide +kernel)
set_option maxRecDepth 20000 in
theorem gX8_base_X8_weightOf : GoodIn wsX8_base (wsV RX8 139 RX8 yX8_weightOf wsX8_weightOf) := goodIn_app (goodIn_of _ (by decide +kernel)) ggX8_base_X8_weightOf
theorem dX8_base_0 : decode cX8_base 0 = .ok (.aload_n 0, 1) := by decide +kernel
theorem dX8_base_1 : decode cX8_base 1 = .ok (.iload_n 1, 1) := by decide +kernel
theorem dX8_base_2 : decode cX8_base 2 = .ok (.iload_n 2, 1) := by decide +kernel
theorem dX8_base_3 : decode cX8_base 3 = .ok (.invokevirtual 139, 3) := by decide +kernel
theorem dX8_base_6 : decode cX8_base 6 = .ok (.aload_n 0, 1) := by decide +kernel
theorem dX8_base_7 : decode cX8_base 7 = .ok (.getfield 87, 3) := by decide +kernel
theorem dX8_base_10 : decode cX8_base 10 = .ok (.iload_n 2, 1) := by decide +kernel
theorem dX8_base_11 : decode cX8_base 11 = .ok (.iaload, 1) := by decide +kernel
theorem dX8_base_12 : decode cX8_base 12 = .ok (.i2l, 1) := by decide +kernel
theorem dX8_base_13 : decode cX8_base 13 = .ok (.lmul, 1) := by decide +kernel
theorem dX8_base_14 : decode cX8_base 14 = .ok (.ldc2_w 194, 3) := by decide +kernel
theorem dX8_base_17 : decode cX8_base 17 = .ok (.ldiv, 1) := by decide +kernel
theorem dX8_base_18 : decode cX8_base 18 = .ok (.lreturn, 1) := by decide +kernel
set_option maxRecDepth 20000 in
theorem ggX8_dueOf_X8_base : GoodIn wsX8_dueOf wsX8_base := goodIn_r _ [10, 11, 12, 13, 14, 15, 9, 16, 17, 18, 19, 20, 21, 22, 23, 5, 24, 25, 26, 27, 28, 29, 30, 31, 32, 33, 34, 35, 36, 37, 38, 39, 40, 41, 42, 43, 44, 45, 46, 47, 48, 49, 50, 51, 52, 53, 54, 55, 56, 57, 58, 59, 60] (by decide +kernel) (by decide +kernel)
set_option maxRecDepth 20000 in
theorem gX8_dueOf_X8_base : GoodIn wsX8_dueOf (wsV RX8 196 RX8 yX8_base wsX8_base) := goodIn_app (goodIn_of _ (by decide +kernel)) ggX8_dueOf_X8_base
theorem dX8_dueOf_0 : decode cX8_dueOf 0 = .ok (.bipush 20, 2) := by decide +kernel
theorem dX8_dueOf_2 : decode cX8_dueOf 2 = .ok (.iload_n 1, 1) := by decide +kernel
theorem dX8_dueOf_3 : decode cX8_dueOf 3 = .ok (.imul, 1) := by decide +kernel
theorem dX8_dueOf_4 : decode cX8_dueOf 4 = .ok (.iload_n 2, 1) := by decide +kernel
theorem dX8_dueOf_5 : decode cX8_dueOf 5 = .ok (.iadd, 1) := by decide +kernel
theorem dX8_dueOf_6 : decode cX8_dueOf 6 = .ok (.istore_n 3, 1) := by decide +kernel
theorem dX8_dueOf_7 : decode cX8_dueOf 7 = .ok (.aload_n 0, 1) := by decide +kernel
theorem dX8_dueOf_8 : decode cX8_dueOf 8 = .ok (.getfield 20, 3) := by decide +kernel
theorem dX8_dueOf_11 : decode cX8_dueOf 11 = .ok (.iload_n 3, 1) := by decide +kernel
theorem dX8_dueOf_12 : decode cX8_dueOf 12 = .ok (.iaload, 1) := by decide +kernel
theorem dX8_dueOf_13 : decode cX8_dueOf 13 = .ok (.ifCond .le 10, 3) := by decide +kernel
theorem dX8_dueOf_16 : decode cX8_dueOf 16 = .ok (.aload_n 0, 1) := by decide +kernel
theorem dX8_dueOf_17 : decode cX8_dueOf 17 = .ok (.getfield 23, 3) := by decide +kernel
theorem dX8_dueOf_20 : decode cX8_dueOf 20 = .ok (.iload_n 3, 1) := by decide +kernel
theorem dX8_dueOf_21 : decode cX8_dueOf 21 = .ok (.laload, 1) := by decide +kernel
theorem dX8_dueOf_22 : decode cX8_dueOf 22 = .ok (.lreturn, 1) := by decide +kernel
theorem dX8_dueOf_23 : decode cX8_dueOf 23 = .ok (.iload_n 2, 1) := by decide +kernel
theorem dX8_dueOf_24 : decode cX8_dueOf 24 = .ok (.aload_n 0, 1) := by decide +kernel
theorem dX8_dueOf_25 : decode cX8_dueOf 25 = .ok (.getfield 134, 3) := by decide +kernel
theorem dX8_dueOf_28 : decode cX8_dueOf 28 = .ok (.if_icmp .ge 7, 3) := by decide +kernel
theorem dX8_dueOf_31 : decode cX8_dueOf 31 = .ok (.lconst 0, 1) := by decide +kernel
theorem dX8_dueOf_32 : decode cX8_dueOf 32 = .ok (.goto 9, 3) := by decide +kernel
theorem dX8_dueOf_35 : decode cX8_dueOf 35 = .ok (.aload_n 0, 1) := by decide +kernel
theorem dX8_dueOf_36 : decode cX8_dueOf 36 = .ok (.iload_n 1, 1) := by decide +kernel
theorem dX8_dueOf_37 : decode cX8_dueOf 37 = .ok (.iload_n 2, 1) := by decide +kernel
theorem dX8_dueOf_38 : decode cX8_dueOf 38 = .ok (.invokevirtual 196, 3) := by decide +kernel
theorem dX8_dueOf_41 : decode cX8_dueOf 41 = .ok (.lstore 4, 2) := by decide +kernel
theorem dX8_dueOf_43 : decode cX8_dueOf 43 = .ok (.lload 4, 2) := by decide +kernel
theorem dX8_dueOf_45 : decode cX8_dueOf 45 = .ok (.lload 4, 2) := by decide +kernel
theorem dX8_dueOf_47 : decode cX8_dueOf 47 = .ok (.aload_n 0, 1) := by decide +kernel
theorem dX8_dueOf_48 : decode cX8_dueOf 48 = .ok (.getfield 90, 3) := by decide +kernel
theorem dX8_dueOf_51 : decode cX8_dueOf 51 = .ok (.iload_n 2, 1) := by decide +kernel
theorem dX8_dueOf_52 : decode cX8_dueOf 52 = .ok (.iaload, 1) := by decide +kernel
theorem dX8_dueOf_53 : decode cX8_dueOf 53 = .ok (.i2l, 1) := by decide +kernel
theorem dX8_dueOf_54 : decode cX8_dueOf 54 = .ok (.lmul, 1) := by decide +kernel
theorem dX8_dueOf_55 : decode cX8_dueOf 55 = .ok (.ldc2_w 137, 3) := by decide +kernel
theorem dX8_dueOf_58 : decode cX8_dueOf 58 = .ok (.ldiv, 1) := by decide +kernel
theorem dX8_dueOf_59 : decode cX8_dueOf 59 = .ok (.ladd, 1) := by decide +kernel
theorem dX8_dueOf_60 : decode cX8_dueOf 60 = .ok (.lreturn, 1) := by decide +kernel
set_option maxRecDepth 20000 in
theorem ggX8_canRelease_X8_weightOf : GoodIn wsX8_canRelease wsX8_weightOf := goodIn_r _ [7, 8, 9, 10, 11, 12, 13, 14, 15, 16, 17, 18, 19, 20, 21, 22, 23, 24, 25, 26, 27, 28, 29, 30, 31, 32, 33, 34, 35, 36, 37, 38, 39, 40, 41, 42, 43, 44, 45, 46, 47, 48, 49, 50, 51, 52] (by decide +kernel) (by decide +kernel)
set_option maxRecDepth 20000 in
theorem gX8_canRelease_X8_weightOf : GoodIn wsX8_canRelease (wsV RX8 139 RX8 yX8_weightOf wsX8_weightOf) := goodIn_app (goodIn_of _ (by decide +kernel)) ggX8_canRelease_X8_weightOf
theorem dX8_canRelease_0 : decode cX8_canRelease 0 = .ok (.iload_n 2, 1) := by decide +kernel
theorem dX8_canRelease_1 : decode cX8_canRelease 1 = .ok (.aload_n 0, 1) := by decide +kernel
theorem dX8_canRelease_2 : decode cX8_canRelease 2 = .ok (.getfield 134, 3) := by decide +kernel
theorem dX8_canRelease_5 : decode cX8_canRelease 5 = .ok (.if_icmp .lt 32, 3) := by decide +kernel
theorem dX8_canRelease_8 : decode cX8_canRelease 8 = .ok (.aload_n 0, 1) := by decide +kernel
theorem dX8_canRelease_9 : decode cX8_canRelease 9 = .ok (.getfield 20, 3) := by decide +kernel
theorem dX8_canRelease_12 : decode cX8_canRelease 12 = .ok (.bipush 20, 2) := by decide +kernel
theorem dX8_canRelease_14 : decode cX8_canRelease 14 = .ok (.iload_n 1, 1) := by decide +kernel
theorem dX8_canRelease_15 : decode cX8_canRelease 15 = .ok (.imul, 1) := by decide +kernel
theorem dX8_canRelease_16 : decode cX8_canRelease 16 = .ok (.iload_n 2, 1) := by decide +kernel
theorem dX8_canRelease_17 : decode cX8_canRelease 17 = .ok (.iadd, 1) := by decide +kernel
theorem dX8_canRelease_18 : decode cX8_canRelease 18 = .ok (.iaload, 1) := by decide +kernel
theorem dX8_canRelease_19 : decode cX8_canRelease 19 = .ok (.ifCond .ne 18, 3) := by decide +kernel
theorem dX8_canRelease_22 : decode cX8_canRelease 22 = .ok (.aload_n 0, 1) := by decide +kernel
theorem dX8_canRelease_23 : decode cX8_canRelease 23 = .ok (.iload_n 1, 1) := by decide +kernel
theorem dX8_canRelease_24 : decode cX8_canRelease 24 = .ok (.iload_n 2, 1) := by decide +kernel
theorem dX8_canRelease_25 : decode cX8_canRelease 25 = .ok (.invokevirtual 139, 3) := by decide +kernel
theorem dX8_canRelease_28 : decode cX8_canRelease 28 = .ok (.lconst 0, 1) := by decide +kernel
theorem dX8_canRelease_29 : decode cX8_canRelease 29 = .ok (.lcmp, 1) := by decide +kernel
theorem dX8_canRelease_30 : decode cX8_canRelease 30 = .ok (.ifCond .le 7, 3) := by decide +kernel
theorem dX8_canRelease_33 : decode cX8_canRelease 33 = .ok (.iconst 1, 1) := by decide +kernel
theorem dX8_canRelease_34 : decode cX8_canRelease 34 = .ok (.goto 4, 3) := by decide +kernel
theorem dX8_canRelease_37 : decode cX8_canRelease 37 = .ok (.iconst 0, 1) := by decide +kernel
theorem dX8_canRelease_38 : decode cX8_canRelease 38 = .ok (.ireturn, 1) := by decide +kernel
set_option maxRecDepth 20000 in
theorem ggX8_release_X8_isMember : GoodIn wsX8_release wsX8_isMember := goodIn_r _ [11, 12, 13, 14, 10, 15, 46, 47, 48, 49, 50, 51, 52, 53, 54, 55, 56, 57, 58, 59, 60, 61, 62, 63, 64, 65, 66, 67, 68, 69, 70, 71, 72, 73, 74, 75, 76, 77, 78, 79, 80, 81, 82] (by decide +kernel) (by decide +kernel)
set_option maxRecDepth 20000 in
theorem gX8_release_X8_isMember : GoodIn wsX8_release (wsV RX8 114 RX8 yX8_isMember wsX8_isMember) := goodIn_app (goodIn_of _ (by decide +kernel)) ggX8_release_X8_isMember
set_option maxRecDepth 20000 in
theorem ggX8_release_X8_open : GoodIn wsX8_release wsX8_open := goodIn_r _ [19, 20, 21, 22, 46, 47, 48, 49, 50, 51, 52, 53, 54, 55, 56, 57, 58, 59, 60, 61, 62, 63, 64, 65, 66, 67, 68, 69, 70, 71, 72, 73, 74, 75, 76, 77, 78, 79, 80, 81, 82] (by decide +kernel) (by decide +kernel)
set_option maxRecDepth 20000 in
theorem gX8_release_X8_open : GoodIn wsX8_release (wsV RX8 124 RX8 yX8_open wsX8_open) := goodIn_app (goodIn_of _ (by decide +kernel)) ggX8_release_X8_open
set_option maxRecDepth 20000 in
theorem ggX8_release_X8_canRelease : GoodIn wsX8_release wsX8_canRelease := goodIn_r _ [26, 27, 6, 28, 29, 30, 10, 31, 20, 32, 22, 2, 21, 33, 34, 5, 46, 47, 48, 49, 50, 51, 52, 53, 54, 55, 56, 57, 58, 59, 60, 61, 62, 63, 64, 65, 66, 67, 68, 69, 70, 71, 72, 73, 74, 75, 76, 77, 78, 79, 80, 81, 82] (by decide +kernel) (by decide +kernel)
set_option maxRecDepth 20000 in
theorem gX8_release_X8_canRelease : GoodIn wsX8_release (wsV RX8 199 RX8 yX8_canRelease wsX8_canRelease) := goodIn_app (goodIn_of _ (by decide +kernel)) ggX8_release_X8_canRelease
set_option maxRecDepth 20000 in
theorem ggX8_release_X8_isIn : GoodIn wsX8_release wsX8_isIn := goodIn_r _ [15] (by decide +kernel) (by decide +kernel)
set_option maxRecDepth 20000 in
theorem gX8_release_X8_isIn : GoodIn wsX8_release (va_wsS RX8 103 yX8_isIn wsX8_isIn) := goodIn_app (goodIn_of _ (by decide +kernel)) ggX8_release_X8_isIn
set_option maxRecDepth 20000 in
theorem ggX8_release_X8_dueOf : GoodIn wsX8_release wsX8_dueOf := goodIn_r _ [38, 6, 4, 27, 39, 5, 40, 41, 42, 10, 43, 44, 45, 28, 29, 30, 31, 20, 32, 22, 2, 21, 33, 34, 46, 47, 48, 49, 50, 51, 52, 53, 54, 55, 56, 57, 58, 59, 60, 61, 62, 63, 64, 65, 66, 67, 68, 69, 70, 71, 72, 73, 74, 75, 76, 77, 78, 79, 80, 81, 82] (by decide +kernel) (by decide +kernel)
set_option maxRecDepth 20000 in
theorem gX8_release_X8_dueOf : GoodIn wsX8_release (wsV RX8 203 RX8 yX8_dueOf wsX8_dueOf) := goodIn_app (goodIn_of _ (by decide +kernel)) ggX8_release_X8_dueOf
set_option maxRecDepth 20000 in
theorem ggX8_release_X8_base : GoodIn wsX8_release wsX8_base := goodIn_r _ [43, 44, 45, 28, 29, 30, 10, 31, 20, 32, 22, 2, 21, 33, 34, 5, 46, 47, 48, 49, 50, 51, 52, 53, 54, 55, 56, 57, 58, 59, 60, 61, 62, 63, 64, 65, 66, 67, 68, 69, 70, 71, 72, 73, 74, 75, 76, 77, 78, 79, 80, 81, 82] (by decide +kernel) (by decide +kernel)
set_option maxRecDepth 20000 in
theorem gX8_release_X8_base : GoodIn wsX8_release (wsV RX8 196 RX8 yX8_base wsX8_base) := goodIn_app (goodIn_of _ (by decide +kernel)) ggX8_release_X8_base
theorem dX8_release_0 : decode cX8_release 0 = .ok (.aload_n 0, 1) := by decide +kernel
theorem dX8_release_1 : decode cX8_release 1 = .ok (.iload_n 1, 1) := by decide +kernel
theorem dX8_release_2 : decode cX8_release 2 = .ok (.invokevirtual 114, 3) := by decide +kernel
theorem dX8_release_5 : decode cX8_release 5 = .ok (.istore_n 3, 1) := by decide +kernel
theorem dX8_release_6 : decode cX8_release 6 = .ok (.iconst 0, 1) := by decide +kernel
theorem dX8_release_7 : decode cX8_release 7 = .ok (.istore 4, 2) := by decide +kernel
theorem dX8_release_9 : decode cX8_release 9 = .ok (.iconst 0, 1) := by decide +kernel
theorem dX8_release_10 : decode cX8_release 10 = .ok (.istore 5, 2) := by decide +kernel
theorem dX8_release_12 : decode cX8_release 12 = .ok (.iload 5, 2) := by decide +kernel
theorem dX8_release_14 : decode cX8_release 14 = .ok (.aload_n 0, 1) := by decide +kernel
theorem dX8_release_15 : decode cX8_release 15 = .ok (.getfield 107, 3) := by decide +kernel
theorem dX8_release_18 : decode cX8_release 18 = .ok (.if_icmp .ge 46, 3) := by decide +kernel
theorem dX8_release_21 : decode cX8_release 21 = .ok (.iload 4, 2) := by decide +kernel
theorem dX8_release_23 : decode cX8_release 23 = .ok (.ifCond .ne 28, 3) := by decide +kernel
theorem dX8_release_26 : decode cX8_release 26 = .ok (.iload_n 3, 1) := by decide +kernel
theorem dX8_release_27 : decode cX8_release 27 = .ok (.ifCond .eq 28, 3) := by decide +kernel
theorem dX8_release_30 : decode cX8_release 30 = .ok (.aload_n 0, 1) := by decide +kernel
theorem dX8_release_31 : decode cX8_release 31 = .ok (.getfield 26, 3) := by decide +kernel
theorem dX8_release_34 : decode cX8_release 34 = .ok (.iload 5, 2) := by decide +kernel
theorem dX8_release_36 : decode cX8_release 36 = .ok (.iaload, 1) := by decide +kernel
theorem dX8_release_37 : decode cX8_release 37 = .ok (.iload_n 1, 1) := by decide +kernel
theorem dX8_release_38 : decode cX8_release 38 = .ok (.if_icmp .ne 17, 3) := by decide +kernel
theorem dX8_release_41 : decode cX8_release 41 = .ok (.aload_n 0, 1) := by decide +kernel
theorem dX8_release_42 : decode cX8_release 42 = .ok (.iload 5, 2) := by decide +kernel
theorem dX8_release_44 : decode cX8_release 44 = .ok (.invokevirtual 124, 3) := by decide +kernel
theorem dX8_release_47 : decode cX8_release 47 = .ok (.iconst (-1), 1) := by decide +kernel
theorem dX8_release_48 : decode cX8_release 48 = .ok (.if_icmp .eq 7, 3) := by decide +kernel
theorem dX8_release_51 : decode cX8_release 51 = .ok (.iconst 1, 1) := by decide +kernel
theorem dX8_release_52 : decode cX8_release 52 = .ok (.goto 4, 3) := by decide +kernel
theorem dX8_release_55 : decode cX8_release 55 = .ok (.iconst 0, 1) := by decide +kernel
theorem dX8_release_56 : decode cX8_release 56 = .ok (.istore 4, 2) := by decide +kernel
theorem dX8_release_58 : decode cX8_release 58 = .ok (.iinc 5 1, 3) := by decide +kernel
theorem dX8_release_61 : decode cX8_release 61 = .ok (.goto (-49), 3) := by decide +kernel
theorem dX8_release_64 : decode cX8_release 64 = .ok (.iconst 0, 1) := by decide +kernel
theorem dX8_release_65 : decode cX8_release 65 = .ok (.istore 5, 2) := by decide +kernel
theorem dX8_release_67 : decode cX8_release 67 = .ok (.iconst 0, 1) := by decide +kernel
theorem dX8_release_68 : decode cX8_release 68 = .ok (.istore 6, 2) := by decide +kernel
theorem dX8_release_70 : decode cX8_release 70 = .ok (.iload 6, 2) := by decide +kernel
theorem dX8_release_72 : decode cX8_release 72 = .ok (.bipush 20, 2) := by decide +kernel
theorem dX8_release_74 : decode cX8_release 74 = .ok (.if_icmp .ge 33, 3) := by decide +kernel
theorem dX8_release_77 : decode cX8_release 77 = .ok (.iload_n 3, 1) := by decide +kernel
theorem dX8_release_78 : decode cX8_release 78 = .ok (.ifCond .eq 29, 3) := by decide +kernel
theorem dX8_release_81 : decode cX8_release 81 = .ok (.iload 5, 2) := by decide +kernel
theorem dX8_release_83 : decode cX8_release 83 = .ok (.aload_n 0, 1) := by decide +kernel
theorem dX8_release_84 : decode cX8_release 84 = .ok (.iload_n 1, 1) := by decide +kernel
theorem dX8_release_85 : decode cX8_release 85 = .ok (.iload 6, 2) := by decide +kernel
theorem dX8_release_87 : decode cX8_release 87 = .ok (.invokevirtual 199, 3) := by decide +kernel
theorem dX8_release_90 : decode cX8_release 90 = .ok (.ifCond .eq 7, 3) := by decide +kernel
theorem dX8_release_93 : decode cX8_release 93 = .ok (.iconst 1, 1) := by decide +kernel
theorem dX8_release_94 : decode cX8_release 94 = .ok (.goto 4, 3) := by decide +kernel
theorem dX8_release_97 : decode cX8_release 97 = .ok (.iconst 0, 1) := by decide +kernel
theorem dX8_release_98 : decode cX8_release 98 = .ok (.iadd, 1) := by decide +kernel
theorem dX8_release_99 : decode cX8_release 99 = .ok (.istore 5, 2) := by decide +kernel
theorem dX8_release_101 : decode cX8_release 101 = .ok (.iinc 6 1, 3) := by decide +kernel
theorem dX8_release_104 : decode cX8_release 104 = .ok (.goto (-34), 3) := by decide +kernel
theorem dX8_release_107 : decode cX8_release 107 = .ok (.aload_n 0, 1) := by decide +kernel
theorem dX8_release_108 : decode cX8_release 108 = .ok (.iload_n 3, 1) := by decide +kernel
theorem dX8_release_109 : decode cX8_release 109 = .ok (.ifCond .ne 7, 3) := by decide +kernel
theorem dX8_release_112 : decode cX8_release 112 = .ok (.iconst 1, 1) := by decide +kernel
theorem dX8_release_113 : decode cX8_release 113 = .ok (.goto 33, 3) := by decide +kernel
theorem dX8_release_116 : decode cX8_release 116 = .ok (.iload_n 2, 1) := by decide +kernel
theorem dX8_release_117 : decode cX8_release 117 = .ok (.iconst 0, 1) := by decide +kernel
theorem dX8_release_118 : decode cX8_release 118 = .ok (.sipush 200, 3) := by decide +kernel
theorem dX8_release_121 : decode cX8_release 121 = .ok (.invokestatic 103, 3) := by decide +kernel
theorem dX8_release_124 : decode cX8_release 124 = .ok (.ifCond .ne 7, 3) := by decide +kernel
theorem dX8_release_127 : decode cX8_release 127 = .ok (.iconst 2, 1) := by decide +kernel
theorem dX8_release_128 : decode cX8_release 128 = .ok (.goto 18, 3) := by decide +kernel
theorem dX8_release_131 : decode cX8_release 131 = .ok (.iload 4, 2) := by decide +kernel
theorem dX8_release_133 : decode cX8_release 133 = .ok (.ifCond .ne 8, 3) := by decide +kernel
theorem dX8_release_136 : decode cX8_release 136 = .ok (.iload 5, 2) := by decide +kernel
theorem dX8_release_138 : decode cX8_release 138 = .ok (.ifCond .ne 7, 3) := by decide +kernel
theorem dX8_release_141 : decode cX8_release 141 = .ok (.iconst 3, 1) := by decide +kernel
theorem dX8_release_142 : decode cX8_release 142 = .ok (.goto 4, 3) := by decide +kernel
theorem dX8_release_145 : decode cX8_release 145 = .ok (.iconst 0, 1) := by decide +kernel
theorem dX8_release_146 : decode cX8_release 146 = .ok (.putfield 96, 3) := by decide +kernel
theorem dX8_release_149 : decode cX8_release 149 = .ok (.iconst 0, 1) := by decide +kernel
theorem dX8_release_150 : decode cX8_release 150 = .ok (.istore 6, 2) := by decide +kernel
theorem dX8_release_152 : decode cX8_release 152 = .ok (.iload 6, 2) := by decide +kernel
theorem dX8_release_154 : decode cX8_release 154 = .ok (.bipush 20, 2) := by decide +kernel
theorem dX8_release_156 : decode cX8_release 156 = .ok (.if_icmp .ge 73, 3) := by decide +kernel
theorem dX8_release_159 : decode cX8_release 159 = .ok (.aload_n 0, 1) := by decide +kernel
theorem dX8_release_160 : decode cX8_release 160 = .ok (.getfield 96, 3) := by decide +kernel
theorem dX8_release_163 : decode cX8_release 163 = .ok (.ifCond .ne 66, 3) := by decide +kernel
theorem dX8_release_166 : decode cX8_release 166 = .ok (.aload_n 0, 1) := by decide +kernel
theorem dX8_release_167 : decode cX8_release 167 = .ok (.iload_n 1, 1) := by decide +kernel
theorem dX8_release_168 : decode cX8_release 168 = .ok (.iload 6, 2) := by decide +kernel
theorem dX8_release_170 : decode cX8_release 170 = .ok (.invokevirtual 199, 3) := by decide +kernel
theorem dX8_release_173 : decode cX8_release 173 = .ok (.ifCond .eq 50, 3) := by decide +kernel
theorem dX8_release_176 : decode cX8_release 176 = .ok (.aload_n 0, 1) := by decide +kernel
theorem dX8_release_177 : decode cX8_release 177 = .ok (.getfield 23, 3) := by decide +kernel
theorem dX8_release_180 : decode cX8_release 180 = .ok (.bipush 20, 2) := by decide +kernel
theorem dX8_release_182 : decode cX8_release 182 = .ok (.iload_n 1, 1) := by decide +kernel
theorem dX8_release_183 : decode cX8_release 183 = .ok (.imul, 1) := by decide +kernel
theorem dX8_release_184 : decode cX8_release 184 = .ok (.iload 6, 2) := by decide +kernel
theorem dX8_release_186 : decode cX8_release 186 = .ok (.iadd, 1) := by decide +kernel
theorem dX8_release_187 : decode cX8_release 187 = .ok (.aload_n 0, 1) := by decide +kernel
theorem dX8_release_188 : decode cX8_release 188 = .ok (.iload_n 1, 1) := by decide +kernel
theorem dX8_release_189 : decode cX8_release 189 = .ok (.iload 6, 2) := by decide +kernel
theorem dX8_release_191 : decode cX8_release 191 = .ok (.invokevirtual 203, 3) := by decide +kernel
theorem dX8_release_194 : decode cX8_release 194 = .ok (.aload_n 0, 1) := by decide +kernel
theorem dX8_release_195 : decode cX8_release 195 = .ok (.iload_n 1, 1) := by decide +kernel
theorem dX8_release_196 : decode cX8_release 196 = .ok (.iload 6, 2) := by decide +kernel
theorem dX8_release_198 : decode cX8_release 198 = .ok (.invokevirtual 196, 3) := by decide +kernel
theorem dX8_release_201 : decode cX8_release 201 = .ok (.iload_n 2, 1) := by decide +kernel
theorem dX8_release_202 : decode cX8_release 202 = .ok (.i2l, 1) := by decide +kernel
theorem dX8_release_203 : decode cX8_release 203 = .ok (.lmul, 1) := by decide +kernel
theorem dX8_release_204 : decode cX8_release 204 = .ok (.ldc2_w 137, 3) := by decide +kernel
theorem dX8_release_207 : decode cX8_release 207 = .ok (.ldiv, 1) := by decide +kernel
theorem dX8_release_208 : decode cX8_release 208 = .ok (.ladd, 1) := by decide +kernel
theorem dX8_release_209 : decode cX8_release 209 = .ok (.lastore, 1) := by decide +kernel
theorem dX8_release_210 : decode cX8_release 210 = .ok (.aload_n 0, 1) := by decide +kernel
theorem dX8_release_211 : decode cX8_release 211 = .ok (.getfield 20, 3) := by decide +kernel
theorem dX8_release_214 : decode cX8_release 214 = .ok (.bipush 20, 2) := by decide +kernel
theorem dX8_release_216 : decode cX8_release 216 = .ok (.iload_n 1, 1) := by decide +kernel
theorem dX8_release_217 : decode cX8_release 217 = .ok (.imul, 1) := by decide +kernel
theorem dX8_release_218 : decode cX8_release 218 = .ok (.iload 6, 2) := by decide +kernel
theorem dX8_release_220 : decode cX8_release 220 = .ok (.iadd, 1) := by decide +kernel
theorem dX8_release_221 : decode cX8_release 221 = .ok (.iconst 1, 1) := by decide +kernel
theorem dX8_release_222 : decode cX8_release 222 = .ok (.iastore, 1) := by decide +kernel
theorem dX8_release_223 : decode cX8_release 223 = .ok (.iinc 6 1, 3) := by decide +kernel
theorem dX8_release_226 : decode cX8_release 226 = .ok (.goto (-74), 3) := by decide +kernel
theorem dX8_release_229 : decode cX8_release 229 = .ok (.aload_n 0, 1) := by decide +kernel
theorem dX8_release_230 : decode cX8_release 230 = .ok (.getfield 96, 3) := by decide +kernel
theorem dX8_release_233 : decode cX8_release 233 = .ok (.ifCond .le 7, 3) := by decide +kernel
theorem dX8_release_236 : decode cX8_release 236 = .ok (.iconst 0, 1) := by decide +kernel
theorem dX8_release_237 : decode cX8_release 237 = .ok (.goto 5, 3) := by decide +kernel
theorem dX8_release_240 : decode cX8_release 240 = .ok (.iload 5, 2) := by decide +kernel
theorem dX8_release_242 : decode cX8_release 242 = .ok (.ireturn, 1) := by decide +kernel
set_option maxRecDepth 20000 in
theorem ggX8_owesOf_X8_dueOf : GoodIn wsX8_owesOf wsX8_dueOf := goodIn_r _ [6, 7, 8, 9, 10, 11, 12, 13, 14, 5, 15, 16, 17, 18, 19, 20, 21, 22, 23, 24, 25, 26, 27, 28, 29, 30, 31, 32, 33, 34, 35, 36, 37, 38, 39, 40, 41, 42, 43, 44, 45, 46, 47, 48, 49, 50, 51, 52, 53, 54, 55, 56, 57, 58, 59, 60, 61, 62, 63, 64, 65] (by decide +kernel) (by decide +kernel)
set_option maxRecDepth 20000 in
theorem gX8_owesOf_X8_dueOf : GoodIn wsX8_owesOf (wsV RX8 203 RX8 yX8_dueOf wsX8_dueOf) := goodIn_app (goodIn_of _ (by decide +kernel)) ggX8_owesOf_X8_dueOf
theorem dX8_owesOf_0 : decode cX8_owesOf 0 = .ok (.aload_n 0, 1) := by decide +kernel
theorem dX8_owesOf_1 : decode cX8_owesOf 1 = .ok (.getfield 13, 3) := by decide +kernel
theorem dX8_owesOf_4 : decode cX8_owesOf 4 = .ok (.iload_n 1, 1) := by decide +kernel
theorem dX8_owesOf_5 : decode cX8_owesOf 5 = .ok (.laload, 1) := by decide +kernel
theorem dX8_owesOf_6 : decode cX8_owesOf 6 = .ok (.lneg, 1) := by decide +kernel
theorem dX8_owesOf_7 : decode cX8_owesOf 7 = .ok (.lstore_n 2, 1) := by decide +kernel
theorem dX8_owesOf_8 : decode cX8_owesOf 8 = .ok (.iconst 0, 1) := by decide +kernel
theorem dX8_owesOf_9 : decode cX8_owesOf 9 = .ok (.istore 4, 2) := by decide +kernel
theorem dX8_owesOf_11 : decode cX8_owesOf 11 = .ok (.iload 4, 2) := by decide +kernel
theorem dX8_owesOf_13 : decode cX8_owesOf 13 = .ok (.bipush 20, 2) := by decide +kernel
theorem dX8_owesOf_15 : decode cX8_owesOf 15 = .ok (.if_icmp .ge 19, 3) := by decide +kernel
theorem dX8_owesOf_18 : decode cX8_owesOf 18 = .ok (.lload_n 2, 1) := by decide +kernel
theorem dX8_owesOf_19 : decode cX8_owesOf 19 = .ok (.aload_n 0, 1) := by decide +kernel
theorem dX8_owesOf_20 : decode cX8_owesOf 20 = .ok (.iload_n 1, 1) := by decide +kernel
theorem dX8_owesOf_21 : decode cX8_owesOf 21 = .ok (.iload 4, 2) := by decide +kernel
theorem dX8_owesOf_23 : decode cX8_owesOf 23 = .ok (.invokevirtual 203, 3) := by decide +kernel
theorem dX8_owesOf_26 : decode cX8_owesOf 26 = .ok (.ladd, 1) := by decide +kernel
theorem dX8_owesOf_27 : decode cX8_owesOf 27 = .ok (.lstore_n 2, 1) := by decide +kernel
theorem dX8_owesOf_28 : decode cX8_owesOf 28 = .ok (.iinc 4 1, 3) := by decide +kernel
theorem dX8_owesOf_31 : decode cX8_owesOf 31 = .ok (.goto (-20), 3) := by decide +kernel
theorem dX8_owesOf_34 : decode cX8_owesOf 34 = .ok (.lload_n 2, 1) := by decide +kernel
theorem dX8_owesOf_35 : decode cX8_owesOf 35 = .ok (.lreturn, 1) := by decide +kernel
set_option maxRecDepth 20000 in
theorem ggX8_pay_X8_isMember : GoodIn wsX8_pay wsX8_isMember := goodIn_r _ [9, 10, 11, 12, 8, 13, 44, 45, 46, 47, 48, 49, 50, 51, 52, 53, 54, 55, 56, 57, 58, 59, 60, 61, 62, 63, 64, 65, 66, 67, 68, 69, 70, 71, 72, 73, 74, 75, 76, 77, 78, 79, 80] (by decide +kernel) (by decide +kernel)
set_option maxRecDepth 20000 in
theorem gX8_pay_X8_isMember : GoodIn wsX8_pay (wsV RX8 114 RX8 yX8_isMember wsX8_isMember) := goodIn_app (goodIn_of _ (by decide +kernel)) ggX8_pay_X8_isMember
set_option maxRecDepth 20000 in
theorem ggX8_pay_X8_isIn : GoodIn wsX8_pay wsX8_isIn := goodIn_r _ [13] (by decide +kernel) (by decide +kernel)
set_option maxRecDepth 20000 in
theorem gX8_pay_X8_isIn : GoodIn wsX8_pay (va_wsS RX8 103 yX8_isIn wsX8_isIn) := goodIn_app (goodIn_of _ (by decide +kernel)) ggX8_pay_X8_isIn
set_option maxRecDepth 20000 in
theorem ggX8_pay_X8_owesOf : GoodIn wsX8_pay wsX8_owesOf := goodIn_r _ [17, 3, 18, 19, 20, 8, 21, 22, 23, 24, 25, 26, 27, 28, 29, 30, 31, 32, 33, 34, 35, 36, 37, 38, 39, 40, 41, 42, 43, 44, 45, 46, 47, 48, 49, 50, 51, 52, 53, 54, 55, 56, 57, 58, 59, 60, 61, 62, 63, 64, 65, 66, 67, 68, 69, 70, 71, 72, 73, 74, 75, 76, 77, 78, 79, 80] (by decide +kernel) (by decide +kernel)
set_option maxRecDepth 20000 in
theorem gX8_pay_X8_owesOf : GoodIn wsX8_pay (wsV RX8 207 RX8 yX8_owesOf wsX8_owesOf) := goodIn_app (goodIn_of _ (by decide +kernel)) ggX8_pay_X8_owesOf
theorem dX8_pay_0 : decode cX8_pay 0 = .ok (.aload_n 0, 1) := by decide +kernel
theorem dX8_pay_1 : decode cX8_pay 1 = .ok (.aload_n 0, 1) := by decide +kernel
theorem dX8_pay_2 : decode cX8_pay 2 = .ok (.iload_n 1, 1) := by decide +kernel
theorem dX8_pay_3 : decode cX8_pay 3 = .ok (.invokevirtual 114, 3) := by decide +kernel
theorem dX8_pay_6 : decode cX8_pay 6 = .ok (.ifCond .ne 7, 3) := by decide +kernel
theorem dX8_pay_9 : decode cX8_pay 9 = .ok (.iconst 1, 1) := by decide +kernel
theorem dX8_pay_10 : decode cX8_pay 10 = .ok (.goto 18, 3) := by decide +kernel
theorem dX8_pay_13 : decode cX8_pay 13 = .ok (.iload_n 2, 1) := by decide +kernel
theorem dX8_pay_14 : decode cX8_pay 14 = .ok (.iconst 1, 1) := by decide +kernel
theorem dX8_pay_15 : decode cX8_pay 15 = .ok (.ldc 206, 2) := by decide +kernel
theorem dX8_pay_17 : decode cX8_pay 17 = .ok (.invokestatic 103, 3) := by decide +kernel
theorem dX8_pay_20 : decode cX8_pay 20 = .ok (.ifCond .ne 7, 3) := by decide +kernel
theorem dX8_pay_23 : decode cX8_pay 23 = .ok (.iconst 2, 1) := by decide +kernel
theorem dX8_pay_24 : decode cX8_pay 24 = .ok (.goto 4, 3) := by decide +kernel
theorem dX8_pay_27 : decode cX8_pay 27 = .ok (.iconst 0, 1) := by decide +kernel
theorem dX8_pay_28 : decode cX8_pay 28 = .ok (.putfield 96, 3) := by decide +kernel
theorem dX8_pay_31 : decode cX8_pay 31 = .ok (.aload_n 0, 1) := by decide +kernel
theorem dX8_pay_32 : decode cX8_pay 32 = .ok (.getfield 96, 3) := by decide +kernel
theorem dX8_pay_35 : decode cX8_pay 35 = .ok (.ifCond .le 5, 3) := by decide +kernel
theorem dX8_pay_38 : decode cX8_pay 38 = .ok (.lconst 0, 1) := by decide +kernel
theorem dX8_pay_39 : decode cX8_pay 39 = .ok (.lreturn, 1) := by decide +kernel
theorem dX8_pay_40 : decode cX8_pay 40 = .ok (.aload_n 0, 1) := by decide +kernel
theorem dX8_pay_41 : decode cX8_pay 41 = .ok (.getfield 13, 3) := by decide +kernel
theorem dX8_pay_44 : decode cX8_pay 44 = .ok (.iload_n 1, 1) := by decide +kernel
theorem dX8_pay_45 : decode cX8_pay 45 = .ok (.dup2, 1) := by decide +kernel
theorem dX8_pay_46 : decode cX8_pay 46 = .ok (.laload, 1) := by decide +kernel
theorem dX8_pay_47 : decode cX8_pay 47 = .ok (.iload_n 2, 1) := by decide +kernel
theorem dX8_pay_48 : decode cX8_pay 48 = .ok (.i2l, 1) := by decide +kernel
theorem dX8_pay_49 : decode cX8_pay 49 = .ok (.ladd, 1) := by decide +kernel
theorem dX8_pay_50 : decode cX8_pay 50 = .ok (.lastore, 1) := by decide +kernel
theorem dX8_pay_51 : decode cX8_pay 51 = .ok (.aload_n 0, 1) := by decide +kernel
theorem dX8_pay_52 : decode cX8_pay 52 = .ok (.iload_n 1, 1) := by decide +kernel
theorem dX8_pay_53 : decode cX8_pay 53 = .ok (.invokevirtual 207, 3) := by decide +kernel
theorem dX8_pay_56 : decode cX8_pay 56 = .ok (.lstore_n 3, 1) := by decide +kernel
theorem dX8_pay_57 : decode cX8_pay 57 = .ok (.aload_n 0, 1) := by decide +kernel
theorem dX8_pay_58 : decode cX8_pay 58 = .ok (.getfield 17, 3) := by decide +kernel
theorem dX8_pay_61 : decode cX8_pay 61 = .ok (.iload_n 1, 1) := by decide +kernel
theorem dX8_pay_62 : decode cX8_pay 62 = .ok (.lload_n 3, 1) := by decide +kernel
theorem dX8_pay_63 : decode cX8_pay 63 = .ok (.lconst 0, 1) := by decide +kernel
theorem dX8_pay_64 : decode cX8_pay 64 = .ok (.lcmp, 1) := by decide +kernel
theorem dX8_pay_65 : decode cX8_pay 65 = .ok (.ifCond .le 12, 3) := by decide +kernel
theorem dX8_pay_68 : decode cX8_pay 68 = .ok (.aload_n 0, 1) := by decide +kernel
theorem dX8_pay_69 : decode cX8_pay 69 = .ok (.getfield 17, 3) := by decide +kernel
theorem dX8_pay_72 : decode cX8_pay 72 = .ok (.iload_n 1, 1) := by decide +kernel
theorem dX8_pay_73 : decode cX8_pay 73 = .ok (.iaload, 1) := by decide +kernel
theorem dX8_pay_74 : decode cX8_pay 74 = .ok (.goto 4, 3) := by decide +kernel
theorem dX8_pay_77 : decode cX8_pay 77 = .ok (.iconst (-1), 1) := by decide +kernel
theorem dX8_pay_78 : decode cX8_pay 78 = .ok (.iastore, 1) := by decide +kernel
theorem dX8_pay_79 : decode cX8_pay 79 = .ok (.lload_n 3, 1) := by decide +kernel
theorem dX8_pay_80 : decode cX8_pay 80 = .ok (.lreturn, 1) := by decide +kernel
set_option maxRecDepth 20000 in
theorem ggX8_stop_X8_isMember : GoodIn wsX8_stop wsX8_isMember := goodIn_r _ [8, 9, 10, 11, 7, 12, 44, 45, 46, 47, 48, 49, 50, 51, 52, 53, 54, 55, 56, 57, 58, 59, 60, 61, 62, 63, 64, 65, 66, 67, 68, 69, 70, 71, 72, 73, 74, 75, 76, 77, 78, 79, 80] (by decide +kernel) (by decide +kernel)
set_option maxRecDepth 20000 in
theorem gX8_stop_X8_isMember : GoodIn wsX8_stop (wsV RX8 114 RX8 yX8_isMember wsX8_isMember) := goodIn_app (goodIn_of _ (by decide +kernel)) ggX8_stop_X8_isMember
set_option maxRecDepth 20000 in
theorem ggX8_stop_X8_isIn : GoodIn wsX8_stop wsX8_isIn := goodIn_r _ [12] (by decide +kernel) (by decide +kernel)
set_option maxRecDepth 20000 in
theorem gX8_stop_X8_isIn : GoodIn wsX8_stop (va_wsS RX8 103 yX8_isIn wsX8_isIn) := goodIn_app (goodIn_of _ (by decide +kernel)) ggX8_stop_X8_isIn
set_option maxRecDepth 20000 in
theorem ggX8_stop_X8_owesOf : GoodIn wsX8_stop wsX8_owesOf := goodIn_r _ [16, 17, 18, 19, 20, 7, 21, 22, 23, 24, 25, 26, 27, 28, 29, 30, 31, 32, 33, 34, 35, 36, 37, 38, 39, 40, 41, 42, 43, 44, 45, 46, 47, 48, 49, 50, 51, 52, 53, 54, 55, 56, 57, 58, 59, 60, 61, 62, 63, 64, 65, 66, 67, 68, 69, 70, 71, 72, 73, 74, 75, 76, 77, 78, 79, 80] (by decide +kernel) (by decide +kernel)
set_option maxRecDepth 20000 in
theorem gX8_stop_X8_owesOf : GoodIn wsX8_stop (wsV RX8 207 RX8 yX8_owesOf wsX8_owesOf) := goodIn_app (goodIn_of _ (by decide +kernel)) ggX8_stop_X8_owesOf
theorem dX8_stop_0 : decode cX8_stop 0 = .ok (.aload_n 0, 1) := by decide +kernel
theorem dX8_stop_1 : decode cX8_stop 1 = .ok (.iload_n 1, 1) := by decide +kernel
theorem dX8_stop_2 : decode cX8_stop 2 = .ok (.invokevirtual 114, 3) := by decide +kernel
theorem dX8_stop_5 : decode cX8_stop 5 = .ok (.istore_n 3, 1) := by decide +kernel
theorem dX8_stop_6 : decode cX8_stop 6 = .ok (.aload_n 0, 1) := by decide +kernel
theorem dX8_stop_7 : decode cX8_stop 7 = .ok (.iload_n 3, 1) := by decide +kernel
theorem dX8_stop_8 : decode cX8_stop 8 = .ok (.ifCond .ne 7, 3) := by decide +kernel
theorem dX8_stop_11 : decode cX8_stop 11 = .ok (.iconst 1, 1) := by decide +kernel
theorem dX8_stop_12 : decode cX8_stop 12 = .ok (.goto 34, 3) := by decide +kernel
theorem dX8_stop_15 : decode cX8_stop 15 = .ok (.iload_n 2, 1) := by decide +kernel
theorem dX8_stop_16 : decode cX8_stop 16 = .ok (.iconst 0, 1) := by decide +kernel
theorem dX8_stop_17 : decode cX8_stop 17 = .ok (.aload_n 0, 1) := by decide +kernel
theorem dX8_stop_18 : decode cX8_stop 18 = .ok (.getfield 128, 3) := by decide +kernel
theorem dX8_stop_21 : decode cX8_stop 21 = .ok (.invokestatic 103, 3) := by decide +kernel
theorem dX8_stop_24 : decode cX8_stop 24 = .ok (.ifCond .ne 7, 3) := by decide +kernel
theorem dX8_stop_27 : decode cX8_stop 27 = .ok (.iconst 2, 1) := by decide +kernel
theorem dX8_stop_28 : decode cX8_stop 28 = .ok (.goto 18, 3) := by decide +kernel
theorem dX8_stop_31 : decode cX8_stop 31 = .ok (.aload_n 0, 1) := by decide +kernel
theorem dX8_stop_32 : decode cX8_stop 32 = .ok (.iload_n 1, 1) := by decide +kernel
theorem dX8_stop_33 : decode cX8_stop 33 = .ok (.invokevirtual 207, 3) := by decide +kernel
theorem dX8_stop_36 : decode cX8_stop 36 = .ok (.lconst 0, 1) := by decide +kernel
theorem dX8_stop_37 : decode cX8_stop 37 = .ok (.lcmp, 1) := by decide +kernel
theorem dX8_stop_38 : decode cX8_stop 38 = .ok (.ifCond .gt 7, 3) := by decide +kernel
theorem dX8_stop_41 : decode cX8_stop 41 = .ok (.iconst 3, 1) := by decide +kernel
theorem dX8_stop_42 : decode cX8_stop 42 = .ok (.goto 4, 3) := by decide +kernel
theorem dX8_stop_45 : decode cX8_stop 45 = .ok (.iconst 0, 1) := by decide +kernel
theorem dX8_stop_46 : decode cX8_stop 46 = .ok (.putfield 96, 3) := by decide +kernel
theorem dX8_stop_49 : decode cX8_stop 49 = .ok (.aload_n 0, 1) := by decide +kernel
theorem dX8_stop_50 : decode cX8_stop 50 = .ok (.getfield 96, 3) := by decide +kernel
theorem dX8_stop_53 : decode cX8_stop 53 = .ok (.ifCond .le 5, 3) := by decide +kernel
theorem dX8_stop_56 : decode cX8_stop 56 = .ok (.iconst 0, 1) := by decide +kernel
theorem dX8_stop_57 : decode cX8_stop 57 = .ok (.ireturn, 1) := by decide +kernel
theorem dX8_stop_58 : decode cX8_stop 58 = .ok (.aload_n 0, 1) := by decide +kernel
theorem dX8_stop_59 : decode cX8_stop 59 = .ok (.getfield 17, 3) := by decide +kernel
theorem dX8_stop_62 : decode cX8_stop 62 = .ok (.iload_n 1, 1) := by decide +kernel
theorem dX8_stop_63 : decode cX8_stop 63 = .ok (.iaload, 1) := by decide +kernel
theorem dX8_stop_64 : decode cX8_stop 64 = .ok (.istore 4, 2) := by decide +kernel
theorem dX8_stop_66 : decode cX8_stop 66 = .ok (.aload_n 0, 1) := by decide +kernel
theorem dX8_stop_67 : decode cX8_stop 67 = .ok (.getfield 17, 3) := by decide +kernel
theorem dX8_stop_70 : decode cX8_stop 70 = .ok (.iload_n 1, 1) := by decide +kernel
theorem dX8_stop_71 : decode cX8_stop 71 = .ok (.iload_n 2, 1) := by decide +kernel
theorem dX8_stop_72 : decode cX8_stop 72 = .ok (.iastore, 1) := by decide +kernel
theorem dX8_stop_73 : decode cX8_stop 73 = .ok (.iload 4, 2) := by decide +kernel
theorem dX8_stop_75 : decode cX8_stop 75 = .ok (.ireturn, 1) := by decide +kernel
theorem dX8_areAllSettled_0 : decode cX8_areAllSettled 0 = .ok (.iconst 1, 1) := by decide +kernel
theorem dX8_areAllSettled_1 : decode cX8_areAllSettled 1 = .ok (.istore_n 2, 1) := by decide +kernel
theorem dX8_areAllSettled_2 : decode cX8_areAllSettled 2 = .ok (.iconst 0, 1) := by decide +kernel
theorem dX8_areAllSettled_3 : decode cX8_areAllSettled 3 = .ok (.istore_n 3, 1) := by decide +kernel
theorem dX8_areAllSettled_4 : decode cX8_areAllSettled 4 = .ok (.iload_n 3, 1) := by decide +kernel
theorem dX8_areAllSettled_5 : decode cX8_areAllSettled 5 = .ok (.aload_n 0, 1) := by decide +kernel
theorem dX8_areAllSettled_6 : decode cX8_areAllSettled 6 = .ok (.getfield 110, 3) := by decide +kernel
theorem dX8_areAllSettled_9 : decode cX8_areAllSettled 9 = .ok (.if_icmp .ge 41, 3) := by decide +kernel
theorem dX8_areAllSettled_12 : decode cX8_areAllSettled 12 = .ok (.iload_n 2, 1) := by decide +kernel
theorem dX8_areAllSettled_13 : decode cX8_areAllSettled 13 = .ok (.ifCond .eq 29, 3) := by decide +kernel
theorem dX8_areAllSettled_16 : decode cX8_areAllSettled 16 = .ok (.aload_n 0, 1) := by decide +kernel
theorem dX8_areAllSettled_17 : decode cX8_areAllSettled 17 = .ok (.getfield 62, 3) := by decide +kernel
theorem dX8_areAllSettled_20 : decode cX8_areAllSettled 20 = .ok (.iload_n 3, 1) := by decide +kernel
theorem dX8_areAllSettled_21 : decode cX8_areAllSettled 21 = .ok (.iaload, 1) := by decide +kernel
theorem dX8_areAllSettled_22 : decode cX8_areAllSettled 22 = .ok (.bipush 100, 2) := by decide +kernel
theorem dX8_areAllSettled_24 : decode cX8_areAllSettled 24 = .ok (.idiv, 1) := by decide +kernel
theorem dX8_areAllSettled_25 : decode cX8_areAllSettled 25 = .ok (.iload_n 1, 1) := by decide +kernel
theorem dX8_areAllSettled_26 : decode cX8_areAllSettled 26 = .ok (.if_icmp .ne 12, 3) := by decide +kernel
theorem dX8_areAllSettled_29 : decode cX8_areAllSettled 29 = .ok (.aload_n 0, 1) := by decide +kernel
theorem dX8_areAllSettled_30 : decode cX8_areAllSettled 30 = .ok (.getfield 71, 3) := by decide +kernel
theorem dX8_areAllSettled_33 : decode cX8_areAllSettled 33 = .ok (.iload_n 3, 1) := by decide +kernel
theorem dX8_areAllSettled_34 : decode cX8_areAllSettled 34 = .ok (.baload, 1) := by decide +kernel
theorem dX8_areAllSettled_35 : decode cX8_areAllSettled 35 = .ok (.ifCond .eq 7, 3) := by decide +kernel
theorem dX8_areAllSettled_38 : decode cX8_areAllSettled 38 = .ok (.iconst 1, 1) := by decide +kernel
theorem dX8_areAllSettled_39 : decode cX8_areAllSettled 39 = .ok (.goto 4, 3) := by decide +kernel
theorem dX8_areAllSettled_42 : decode cX8_areAllSettled 42 = .ok (.iconst 0, 1) := by decide +kernel
theorem dX8_areAllSettled_43 : decode cX8_areAllSettled 43 = .ok (.istore_n 2, 1) := by decide +kernel
theorem dX8_areAllSettled_44 : decode cX8_areAllSettled 44 = .ok (.iinc 3 1, 3) := by decide +kernel
theorem dX8_areAllSettled_47 : decode cX8_areAllSettled 47 = .ok (.goto (-43), 3) := by decide +kernel
theorem dX8_areAllSettled_50 : decode cX8_areAllSettled 50 = .ok (.iload_n 2, 1) := by decide +kernel
theorem dX8_areAllSettled_51 : decode cX8_areAllSettled 51 = .ok (.ireturn, 1) := by decide +kernel
theorem dX8_down_0 : decode cX8_down 0 = .ok (.lload_n 0, 1) := by decide +kernel
theorem dX8_down_1 : decode cX8_down 1 = .ok (.lload_n 2, 1) := by decide +kernel
theorem dX8_down_2 : decode cX8_down 2 = .ok (.ldiv, 1) := by decide +kernel
theorem dX8_down_3 : decode cX8_down 3 = .ok (.lstore 4, 2) := by decide +kernel
theorem dX8_down_5 : decode cX8_down 5 = .ok (.lload_n 0, 1) := by decide +kernel
theorem dX8_down_6 : decode cX8_down 6 = .ok (.lload_n 2, 1) := by decide +kernel
theorem dX8_down_7 : decode cX8_down 7 = .ok (.lrem, 1) := by decide +kernel
theorem dX8_down_8 : decode cX8_down 8 = .ok (.lconst 0, 1) := by decide +kernel
theorem dX8_down_9 : decode cX8_down 9 = .ok (.lcmp, 1) := by decide +kernel
theorem dX8_down_10 : decode cX8_down 10 = .ok (.ifCond .ge 10, 3) := by decide +kernel
theorem dX8_down_13 : decode cX8_down 13 = .ok (.lload 4, 2) := by decide +kernel
theorem dX8_down_15 : decode cX8_down 15 = .ok (.lconst 1, 1) := by decide +kernel
theorem dX8_down_16 : decode cX8_down 16 = .ok (.lsub, 1) := by decide +kernel
theorem dX8_down_17 : decode cX8_down 17 = .ok (.goto 5, 3) := by decide +kernel
theorem dX8_down_20 : decode cX8_down 20 = .ok (.lload 4, 2) := by decide +kernel
theorem dX8_down_22 : decode cX8_down 22 = .ok (.lreturn, 1) := by decide +kernel
set_option maxRecDepth 20000 in
theorem ggX8_parts_X8_weightOf : GoodIn wsX8_parts wsX8_weightOf := goodIn_r _ [9, 10, 11, 12, 13, 14, 15, 16, 17, 21, 22, 23, 24, 25, 26, 27, 28, 29, 30, 31, 32, 33, 34, 35, 36, 37, 38, 39, 40, 41, 42, 43, 44, 45, 46, 47, 48, 49, 50, 51, 52, 53, 54, 55, 56, 57] (by decide +kernel) (by decide +kernel)
set_option maxRecDepth 20000 in
theorem gX8_parts_X8_weightOf : GoodIn wsX8_parts (wsV RX8 139 RX8 yX8_weightOf wsX8_weightOf) := goodIn_app (goodIn_of _ (by decide +kernel)) ggX8_parts_X8_weightOf
set_option maxRecDepth 20000 in
theorem ggX8_parts_X8_down : GoodIn wsX8_parts wsX8_down := goodIn_r _ [20] (by decide +kernel) (by decide +kernel)
set_option maxRecDepth 20000 in
theorem gX8_parts_X8_down : GoodIn wsX8_parts (va_wsS RX8 214 yX8_down wsX8_down) := goodIn_app (goodIn_of _ (by decide +kernel)) ggX8_parts_X8_down
theorem dX8_parts_0 : decode cX8_parts 0 = .ok (.lconst 0, 1) := by decide +kernel
theorem dX8_parts_1 : decode cX8_parts 1 = .ok (.lstore 4, 2) := by decide +kernel
theorem dX8_parts_3 : decode cX8_parts 3 = .ok (.iconst 0, 1) := by decide +kernel
theorem dX8_parts_4 : decode cX8_parts 4 = .ok (.istore 6, 2) := by decide +kernel
theorem dX8_parts_6 : decode cX8_parts 6 = .ok (.iload 6, 2) := by decide +kernel
theorem dX8_parts_8 : decode cX8_parts 8 = .ok (.aload_n 0, 1) := by decide +kernel
theorem dX8_parts_9 : decode cX8_parts 9 = .ok (.getfield 100, 3) := by decide +kernel
theorem dX8_parts_12 : decode cX8_parts 12 = .ok (.if_icmp .ge 40, 3) := by decide +kernel
theorem dX8_parts_15 : decode cX8_parts 15 = .ok (.lload 4, 2) := by decide +kernel
theorem dX8_parts_17 : decode cX8_parts 17 = .ok (.aload_n 0, 1) := by decide +kernel
theorem dX8_parts_18 : decode cX8_parts 18 = .ok (.getfield 20, 3) := by decide +kernel
theorem dX8_parts_21 : decode cX8_parts 21 = .ok (.bipush 20, 2) := by decide +kernel
theorem dX8_parts_23 : decode cX8_parts 23 = .ok (.iload 6, 2) := by decide +kernel
theorem dX8_parts_25 : decode cX8_parts 25 = .ok (.imul, 1) := by decide +kernel
theorem dX8_parts_26 : decode cX8_parts 26 = .ok (.iload_n 3, 1) := by decide +kernel
theorem dX8_parts_27 : decode cX8_parts 27 = .ok (.iadd, 1) := by decide +kernel
theorem dX8_parts_28 : decode cX8_parts 28 = .ok (.iaload, 1) := by decide +kernel
theorem dX8_parts_29 : decode cX8_parts 29 = .ok (.ifCond .ne 13, 3) := by decide +kernel
theorem dX8_parts_32 : decode cX8_parts 32 = .ok (.aload_n 0, 1) := by decide +kernel
theorem dX8_parts_33 : decode cX8_parts 33 = .ok (.iload 6, 2) := by decide +kernel
theorem dX8_parts_35 : decode cX8_parts 35 = .ok (.iload_n 3, 1) := by decide +kernel
theorem dX8_parts_36 : decode cX8_parts 36 = .ok (.invokevirtual 139, 3) := by decide +kernel
theorem dX8_parts_39 : decode cX8_parts 39 = .ok (.goto 4, 3) := by decide +kernel
theorem dX8_parts_42 : decode cX8_parts 42 = .ok (.lconst 0, 1) := by decide +kernel
theorem dX8_parts_43 : decode cX8_parts 43 = .ok (.ladd, 1) := by decide +kernel
theorem dX8_parts_44 : decode cX8_parts 44 = .ok (.lstore 4, 2) := by decide +kernel
theorem dX8_parts_46 : decode cX8_parts 46 = .ok (.iinc 6 1, 3) := by decide +kernel
theorem dX8_parts_49 : decode cX8_parts 49 = .ok (.goto (-43), 3) := by decide +kernel
theorem dX8_parts_52 : decode cX8_parts 52 = .ok (.lload 4, 2) := by decide +kernel
theorem dX8_parts_54 : decode cX8_parts 54 = .ok (.lconst 0, 1) := by decide +kernel
theorem dX8_parts_55 : decode cX8_parts 55 = .ok (.lcmp, 1) := by decide +kernel
theorem dX8_parts_56 : decode cX8_parts 56 = .ok (.ifCond .ne 14, 3) := by decide +kernel
theorem dX8_parts_59 : decode cX8_parts 59 = .ok (.aload_n 0, 1) := by decide +kernel
theorem dX8_parts_60 : decode cX8_parts 60 = .ok (.dup, 1) := by decide +kernel
theorem dX8_parts_61 : decode cX8_parts 61 = .ok (.getfield 210, 3) := by decide +kernel
theorem dX8_parts_64 : decode cX8_parts 64 = .ok (.lload_n 1, 1) := by decide +kernel
theorem dX8_parts_65 : decode cX8_parts 65 = .ok (.lsub, 1) := by decide +kernel
theorem dX8_parts_66 : decode cX8_parts 66 = .ok (.putfield 210, 3) := by decide +kernel
theorem dX8_parts_69 : decode cX8_parts 69 = .ok (.return_, 1) := by decide +kernel
theorem dX8_parts_70 : decode cX8_parts 70 = .ok (.lload_n 1, 1) := by decide +kernel
theorem dX8_parts_71 : decode cX8_parts 71 = .ok (.lstore 6, 2) := by decide +kernel
theorem dX8_parts_73 : decode cX8_parts 73 = .ok (.iconst 0, 1) := by decide +kernel
theorem dX8_parts_74 : decode cX8_parts 74 = .ok (.istore 8, 2) := by decide +kernel
theorem dX8_parts_76 : decode cX8_parts 76 = .ok (.iload 8, 2) := by decide +kernel
theorem dX8_parts_78 : decode cX8_parts 78 = .ok (.aload_n 0, 1) := by decide +kernel
theorem dX8_parts_79 : decode cX8_parts 79 = .ok (.getfield 100, 3) := by decide +kernel
theorem dX8_parts_82 : decode cX8_parts 82 = .ok (.if_icmp .ge 81, 3) := by decide +kernel
theorem dX8_parts_85 : decode cX8_parts 85 = .ok (.bipush 20, 2) := by decide +kernel
theorem dX8_parts_87 : decode cX8_parts 87 = .ok (.iload 8, 2) := by decide +kernel
theorem dX8_parts_89 : decode cX8_parts 89 = .ok (.imul, 1) := by decide +kernel
theorem dX8_parts_90 : decode cX8_parts 90 = .ok (.iload_n 3, 1) := by decide +kernel
theorem dX8_parts_91 : decode cX8_parts 91 = .ok (.iadd, 1) := by decide +kernel
theorem dX8_parts_92 : decode cX8_parts 92 = .ok (.istore 9, 2) := by decide +kernel
theorem dX8_parts_94 : decode cX8_parts 94 = .ok (.aload_n 0, 1) := by decide +kernel
theorem dX8_parts_95 : decode cX8_parts 95 = .ok (.getfield 20, 3) := by decide +kernel
theorem dX8_parts_98 : decode cX8_parts 98 = .ok (.iload 9, 2) := by decide +kernel
theorem dX8_parts_100 : decode cX8_parts 100 = .ok (.iaload, 1) := by decide +kernel
theorem dX8_parts_101 : decode cX8_parts 101 = .ok (.ifCond .ne 56, 3) := by decide +kernel
theorem dX8_parts_104 : decode cX8_parts 104 = .ok (.aload_n 0, 1) := by decide +kernel
theorem dX8_parts_105 : decode cX8_parts 105 = .ok (.iload 8, 2) := by decide +kernel
theorem dX8_parts_107 : decode cX8_parts 107 = .ok (.iload_n 3, 1) := by decide +kernel
theorem dX8_parts_108 : decode cX8_parts 108 = .ok (.invokevirtual 139, 3) := by decide +kernel
theorem dX8_parts_111 : decode cX8_parts 111 = .ok (.lconst 0, 1) := by decide +kernel
theorem dX8_parts_112 : decode cX8_parts 112 = .ok (.lcmp, 1) := by decide +kernel
theorem dX8_parts_113 : decode cX8_parts 113 = .ok (.ifCond .le 44, 3) := by decide +kernel
theorem dX8_parts_116 : decode cX8_parts 116 = .ok (.aload_n 0, 1) := by decide +kernel
theorem dX8_parts_117 : decode cX8_parts 117 = .ok (.getfield 23, 3) := by decide +kernel
theorem dX8_parts_120 : decode cX8_parts 120 = .ok (.iload 9, 2) := by decide +kernel
theorem dX8_parts_122 : decode cX8_parts 122 = .ok (.lload_n 1, 1) := by decide +kernel
theorem dX8_parts_123 : decode cX8_parts 123 = .ok (.aload_n 0, 1) := by decide +kernel
theorem dX8_parts_124 : decode cX8_parts 124 = .ok (.iload 8, 2) := by decide +kernel
theorem dX8_parts_126 : decode cX8_parts 126 = .ok (.iload_n 3, 1) := by decide +kernel
theorem dX8_parts_127 : decode cX8_parts 127 = .ok (.invokevirtual 139, 3) := by decide +kernel
theorem dX8_parts_130 : decode cX8_parts 130 = .ok (.lmul, 1) := by decide +kernel
theorem dX8_parts_131 : decode cX8_parts 131 = .ok (.lload 4, 2) := by decide +kernel
theorem dX8_parts_133 : decode cX8_parts 133 = .ok (.invokestatic 214, 3) := by decide +kernel
theorem dX8_parts_136 : decode cX8_parts 136 = .ok (.lastore, 1) := by decide +kernel
theorem dX8_parts_137 : decode cX8_parts 137 = .ok (.aload_n 0, 1) := by decide +kernel
theorem dX8_parts_138 : decode cX8_parts 138 = .ok (.getfield 20, 3) := by decide +kernel
theorem dX8_parts_141 : decode cX8_parts 141 = .ok (.iload 9, 2) := by decide +kernel
theorem dX8_parts_143 : decode cX8_parts 143 = .ok (.iconst 2, 1) := by decide +kernel
theorem dX8_parts_144 : decode cX8_parts 144 = .ok (.iastore, 1) := by decide +kernel
theorem dX8_parts_145 : decode cX8_parts 145 = .ok (.lload 6, 2) := by decide +kernel
theorem dX8_parts_147 : decode cX8_parts 147 = .ok (.aload_n 0, 1) := by decide +kernel
theorem dX8_parts_148 : decode cX8_parts 148 = .ok (.getfield 23, 3) := by decide +kernel
theorem dX8_parts_151 : decode cX8_parts 151 = .ok (.iload 9, 2) := by decide +kernel
theorem dX8_parts_153 : decode cX8_parts 153 = .ok (.laload, 1) := by decide +kernel
theorem dX8_parts_154 : decode cX8_parts 154 = .ok (.lsub, 1) := by decide +kernel
theorem dX8_parts_155 : decode cX8_parts 155 = .ok (.lstore 6, 2) := by decide +kernel
theorem dX8_parts_157 : decode cX8_parts 157 = .ok (.iinc 8 1, 3) := by decide +kernel
theorem dX8_parts_160 : decode cX8_parts 160 = .ok (.goto (-84), 3) := by decide +kernel
theorem dX8_parts_163 : decode cX8_parts 163 = .ok (.iconst 0, 1) := by decide +kernel
theorem dX8_parts_164 : decode cX8_parts 164 = .ok (.istore 8, 2) := by decide +kernel
theorem dX8_parts_166 : decode cX8_parts 166 = .ok (.iload 8, 2) := by decide +kernel
theorem dX8_parts_168 : decode cX8_parts 168 = .ok (.aload_n 0, 1) := by decide +kernel
theorem dX8_parts_169 : decode cX8_parts 169 = .ok (.getfield 100, 3) := by decide +kernel
theorem dX8_parts_172 : decode cX8_parts 172 = .ok (.if_icmp .ge 79, 3) := by decide +kernel
theorem dX8_parts_175 : decode cX8_parts 175 = .ok (.lload 6, 2) := by decide +kernel
theorem dX8_parts_177 : decode cX8_parts 177 = .ok (.lconst 0, 1) := by decide +kernel
theorem dX8_parts_178 : decode cX8_parts 178 = .ok (.lcmp, 1) := by decide +kernel
theorem dX8_parts_179 : decode cX8_parts 179 = .ok (.ifCond .le 72, 3) := by decide +kernel
theorem dX8_parts_182 : decode cX8_parts 182 = .ok (.aload_n 0, 1) := by decide +kernel
theorem dX8_parts_183 : decode cX8_parts 183 = .ok (.getfield 20, 3) := by decide +kernel
theorem dX8_parts_186 : decode cX8_parts 186 = .ok (.bipush 20, 2) := by decide +kernel
theorem dX8_parts_188 : decode cX8_parts 188 = .ok (.iload 8, 2) := by decide +kernel
theorem dX8_parts_190 : decode cX8_parts 190 = .ok (.imul, 1) := by decide +kernel
theorem dX8_parts_191 : decode cX8_parts 191 = .ok (.iload_n 3, 1) := by decide +kernel
theorem dX8_parts_192 : decode cX8_parts 192 = .ok (.iadd, 1) := by decide +kernel
theorem dX8_parts_193 : decode cX8_parts 193 = .ok (.iaload, 1) := by decide +kernel
theorem dX8_parts_194 : decode cX8_parts 194 = .ok (.iconst 2, 1) := by decide +kernel
theorem dX8_parts_195 : decode cX8_parts 195 = .ok (.if_icmp .ne 7, 3) := by decide +kernel
theorem dX8_parts_198 : decode cX8_parts 198 = .ok (.iconst 1, 1) := by decide +kernel
theorem dX8_parts_199 : decode cX8_parts 199 = .ok (.goto 4, 3) := by decide +kernel
theorem dX8_parts_202 : decode cX8_parts 202 = .ok (.iconst 0, 1) := by decide +kernel
theorem dX8_parts_203 : decode cX8_parts 203 = .ok (.istore 9, 2) := by decide +kernel
theorem dX8_parts_205 : decode cX8_parts 205 = .ok (.aload_n 0, 1) := by decide +kernel
theorem dX8_parts_206 : decode cX8_parts 206 = .ok (.getfield 23, 3) := by decide +kernel
theorem dX8_parts_209 : decode cX8_parts 209 = .ok (.bipush 20, 2) := by decide +kernel
theorem dX8_parts_211 : decode cX8_parts 211 = .ok (.iload 8, 2) := by decide +kernel
theorem dX8_parts_213 : decode cX8_parts 213 = .ok (.imul, 1) := by decide +kernel
theorem dX8_parts_214 : decode cX8_parts 214 = .ok (.iload_n 3, 1) := by decide +kernel
theorem dX8_parts_215 : decode cX8_parts 215 = .ok (.iadd, 1) := by decide +kernel
theorem dX8_parts_216 : decode cX8_parts 216 = .ok (.dup2, 1) := by decide +kernel
theorem dX8_parts_217 : decode cX8_parts 217 = .ok (.laload, 1) := by decide +kernel
theorem dX8_parts_218 : decode cX8_parts 218 = .ok (.iload 9, 2) := by decide +kernel
theorem dX8_parts_220 : decode cX8_parts 220 = .ok (.ifCond .eq 7, 3) := by decide +kernel
theorem dX8_parts_223 : decode cX8_parts 223 = .ok (.lconst 1, 1) := by decide +kernel
theorem dX8_parts_224 : decode cX8_parts 224 = .ok (.goto 4, 3) := by decide +kernel
theorem dX8_parts_227 : decode cX8_parts 227 = .ok (.lconst 0, 1) := by decide +kernel
theorem dX8_parts_228 : decode cX8_parts 228 = .ok (.ladd, 1) := by decide +kernel
theorem dX8_parts_229 : decode cX8_parts 229 = .ok (.lastore, 1) := by decide +kernel
theorem dX8_parts_230 : decode cX8_parts 230 = .ok (.lload 6, 2) := by decide +kernel
theorem dX8_parts_232 : decode cX8_parts 232 = .ok (.iload 9, 2) := by decide +kernel
theorem dX8_parts_234 : decode cX8_parts 234 = .ok (.ifCond .eq 7, 3) := by decide +kernel
theorem dX8_parts_237 : decode cX8_parts 237 = .ok (.lconst 1, 1) := by decide +kernel
theorem dX8_parts_238 : decode cX8_parts 238 = .ok (.goto 4, 3) := by decide +kernel
theorem dX8_parts_241 : decode cX8_parts 241 = .ok (.lconst 0, 1) := by decide +kernel
theorem dX8_parts_242 : decode cX8_parts 242 = .ok (.lsub, 1) := by decide +kernel
theorem dX8_parts_243 : decode cX8_parts 243 = .ok (.lstore 6, 2) := by decide +kernel
theorem dX8_parts_245 : decode cX8_parts 245 = .ok (.iinc 8 1, 3) := by decide +kernel
theorem dX8_parts_248 : decode cX8_parts 248 = .ok (.goto (-82), 3) := by decide +kernel
theorem dX8_parts_251 : decode cX8_parts 251 = .ok (.return_, 1) := by decide +kernel
set_option maxRecDepth 20000 in
theorem ggX8_close_X8_isYear : GoodIn wsX8_close wsX8_isYear := goodIn_r _ [13, 14, 15, 12, 16] (by decide +kernel) (by decide +kernel)
set_option maxRecDepth 20000 in
theorem gX8_close_X8_isYear : GoodIn wsX8_close (va_wsS RX8 131 yX8_isYear wsX8_isYear) := goodIn_app (goodIn_of _ (by decide +kernel)) ggX8_close_X8_isYear
set_option maxRecDepth 20000 in
theorem ggX8_close_X8_areAllSettled : GoodIn wsX8_close wsX8_areAllSettled := goodIn_r _ [20, 4, 6, 21, 89, 90, 91, 92, 93, 94, 95, 96, 97, 98, 99, 100, 101, 102, 103, 104, 105, 106, 107, 108, 109, 110, 111, 112, 113, 114, 115, 116, 117, 118, 119, 120, 121, 122, 123, 124, 125] (by decide +kernel) (by decide +kernel)
set_option maxRecDepth 20000 in
theorem gX8_close_X8_areAllSettled : GoodIn wsX8_close (wsV RX8 218 RX8 yX8_areAllSettled wsX8_areAllSettled) := goodIn_app (goodIn_of _ (by decide +kernel)) ggX8_close_X8_areAllSettled
set_option maxRecDepth 20000 in
theorem ggX8_close_X8_isCovered : GoodIn wsX8_close wsX8_isCovered := goodIn_r _ [25, 6, 1, 5, 26, 27, 28, 29, 30, 31, 32, 89, 90, 91, 92, 93, 94, 95, 96, 97, 98, 99, 100, 101, 102, 103, 104, 105, 106, 107, 108, 109, 110, 111, 112, 113, 114, 115, 116, 117, 118, 119, 120, 121, 122, 123, 124, 125] (by decide +kernel) (by decide +kernel)
set_option maxRecDepth 20000 in
theorem gX8_close_X8_isCovered : GoodIn wsX8_close (wsV RX8 161 RX8 yX8_isCovered wsX8_isCovered) := goodIn_app (goodIn_of _ (by decide +kernel)) ggX8_close_X8_isCovered
set_option maxRecDepth 20000 in
theorem ggX8_close_X8_costIn : GoodIn wsX8_close wsX8_costIn := goodIn_r _ [36, 37, 38, 39, 40, 41, 12, 42, 43, 44, 45, 46, 47, 48, 49, 50, 51, 4, 52, 53, 54, 55, 56, 30, 57, 58, 59, 60, 61, 6, 62, 63, 64, 65, 66, 67, 68, 69, 70, 71, 22, 23, 24, 25, 1, 5, 26, 27, 28, 29, 31, 32, 72, 73, 74, 75, 89, 90, 91, 92, 93, 94, 95, 96, 97, 98, 99, 100, 101, 102, 103, 104, 105, 106, 107, 108, 109, 110, 111, 112, 113, 114, 115, 116, 117, 118, 119, 120, 121, 122, 123, 124, 125] (by decide +kernel) (by decide +kernel)
set_option maxRecDepth 20000 in
theorem gX8_close_X8_costIn : GoodIn wsX8_close (wsV RX8 188 RX8 yX8_costIn wsX8_costIn) := goodIn_app (goodIn_of _ (by decide +kernel)) ggX8_close_X8_costIn
set_option maxRecDepth 20000 in
theorem ggX8_close_X8_parts : GoodIn wsX8_close wsX8_parts := goodIn_r _ [79, 7, 8, 80, 9, 81, 82, 83, 12, 84, 26, 27, 28, 32, 29, 69, 85, 47, 86, 87, 88, 89, 90, 91, 92, 93, 94, 95, 96, 97, 98, 99, 100, 101, 102, 103, 104, 105, 106, 107, 108, 109, 110, 111, 112, 113, 114, 115, 116, 117, 118, 119, 120, 121, 122, 123, 124, 125] (by decide +kernel) (by decide +kernel)
set_option maxRecDepth 20000 in
theorem gX8_close_X8_parts : GoodIn wsX8_close (wsV RX8 221 RX8 yX8_parts wsX8_parts) := goodIn_app (goodIn_of _ (by decide +kernel)) ggX8_close_X8_parts
theorem dX8_close_0 : decode cX8_close 0 = .ok (.iload_n 1, 1) := by decide +kernel
theorem dX8_close_1 : decode cX8_close 1 = .ok (.invokestatic 131, 3) := by decide +kernel
theorem dX8_close_4 : decode cX8_close 4 = .ok (.ifCond .eq 36, 3) := by decide +kernel
theorem dX8_close_7 : decode cX8_close 7 = .ok (.iload_n 1, 1) := by decide +kernel
theorem dX8_close_8 : decode cX8_close 8 = .ok (.aload_n 0, 1) := by decide +kernel
theorem dX8_close_9 : decode cX8_close 9 = .ok (.getfield 134, 3) := by decide +kernel
theorem dX8_close_12 : decode cX8_close 12 = .ok (.if_icmp .ne 28, 3) := by decide +kernel
theorem dX8_close_15 : decode cX8_close 15 = .ok (.aload_n 0, 1) := by decide +kernel
theorem dX8_close_16 : decode cX8_close 16 = .ok (.getfield 128, 3) := by decide +kernel
theorem dX8_close_19 : decode cX8_close 19 = .ok (.bipush 100, 2) := by decide +kernel
theorem dX8_close_21 : decode cX8_close 21 = .ok (.iload_n 1, 1) := by decide +kernel
theorem dX8_close_22 : decode cX8_close 22 = .ok (.iconst 1, 1) := by decide +kernel
theorem dX8_close_23 : decode cX8_close 23 = .ok (.iadd, 1) := by decide +kernel
theorem dX8_close_24 : decode cX8_close 24 = .ok (.imul, 1) := by decide +kernel
theorem dX8_close_25 : decode cX8_close 25 = .ok (.if_icmp .lt 15, 3) := by decide +kernel
theorem dX8_close_28 : decode cX8_close 28 = .ok (.aload_n 0, 1) := by decide +kernel
theorem dX8_close_29 : decode cX8_close 29 = .ok (.iload_n 1, 1) := by decide +kernel
theorem dX8_close_30 : decode cX8_close 30 = .ok (.invokevirtual 218, 3) := by decide +kernel
theorem dX8_close_33 : decode cX8_close 33 = .ok (.ifCond .eq 7, 3) := by decide +kernel
theorem dX8_close_36 : decode cX8_close 36 = .ok (.iconst 1, 1) := by decide +kernel
theorem dX8_close_37 : decode cX8_close 37 = .ok (.goto 4, 3) := by decide +kernel
theorem dX8_close_40 : decode cX8_close 40 = .ok (.iconst 0, 1) := by decide +kernel
theorem dX8_close_41 : decode cX8_close 41 = .ok (.istore_n 2, 1) := by decide +kernel
theorem dX8_close_42 : decode cX8_close 42 = .ok (.aload_n 0, 1) := by decide +kernel
theorem dX8_close_43 : decode cX8_close 43 = .ok (.iload_n 1, 1) := by decide +kernel
theorem dX8_close_44 : decode cX8_close 44 = .ok (.invokestatic 131, 3) := by decide +kernel
theorem dX8_close_47 : decode cX8_close 47 = .ok (.ifCond .ne 7, 3) := by decide +kernel
theorem dX8_close_50 : decode cX8_close 50 = .ok (.iconst 1, 1) := by decide +kernel
theorem dX8_close_51 : decode cX8_close 51 = .ok (.goto 12, 3) := by decide +kernel
theorem dX8_close_54 : decode cX8_close 54 = .ok (.iload_n 2, 1) := by decide +kernel
theorem dX8_close_55 : decode cX8_close 55 = .ok (.ifCond .ne 7, 3) := by decide +kernel
theorem dX8_close_58 : decode cX8_close 58 = .ok (.iconst 2, 1) := by decide +kernel
theorem dX8_close_59 : decode cX8_close 59 = .ok (.goto 4, 3) := by decide +kernel
theorem dX8_close_62 : decode cX8_close 62 = .ok (.iconst 0, 1) := by decide +kernel
theorem dX8_close_63 : decode cX8_close 63 = .ok (.putfield 96, 3) := by decide +kernel
theorem dX8_close_66 : decode cX8_close 66 = .ok (.aload_n 0, 1) := by decide +kernel
theorem dX8_close_67 : decode cX8_close 67 = .ok (.getfield 96, 3) := by decide +kernel
theorem dX8_close_70 : decode cX8_close 70 = .ok (.ifCond .le 5, 3) := by decide +kernel
theorem dX8_close_73 : decode cX8_close 73 = .ok (.lconst 0, 1) := by decide +kernel
theorem dX8_close_74 : decode cX8_close 74 = .ok (.lreturn, 1) := by decide +kernel
theorem dX8_close_75 : decode cX8_close 75 = .ok (.iconst 0, 1) := by decide +kernel
theorem dX8_close_76 : decode cX8_close 76 = .ok (.istore_n 3, 1) := by decide +kernel
theorem dX8_close_77 : decode cX8_close 77 = .ok (.iload_n 3, 1) := by decide +kernel
theorem dX8_close_78 : decode cX8_close 78 = .ok (.aload_n 0, 1) := by decide +kernel
theorem dX8_close_79 : decode cX8_close 79 = .ok (.getfield 110, 3) := by decide +kernel
theorem dX8_close_82 : decode cX8_close 82 = .ok (.if_icmp .ge 42, 3) := by decide +kernel
theorem dX8_close_85 : decode cX8_close 85 = .ok (.aload_n 0, 1) := by decide +kernel
theorem dX8_close_86 : decode cX8_close 86 = .ok (.getfield 78, 3) := by decide +kernel
theorem dX8_close_89 : decode cX8_close 89 = .ok (.iload_n 3, 1) := by decide +kernel
theorem dX8_close_90 : decode cX8_close 90 = .ok (.aload_n 0, 1) := by decide +kernel
theorem dX8_close_91 : decode cX8_close 91 = .ok (.getfield 62, 3) := by decide +kernel
theorem dX8_close_94 : decode cX8_close 94 = .ok (.iload_n 3, 1) := by decide +kernel
theorem dX8_close_95 : decode cX8_close 95 = .ok (.iaload, 1) := by decide +kernel
theorem dX8_close_96 : decode cX8_close 96 = .ok (.bipush 100, 2) := by decide +kernel
theorem dX8_close_98 : decode cX8_close 98 = .ok (.idiv, 1) := by decide +kernel
theorem dX8_close_99 : decode cX8_close 99 = .ok (.iload_n 1, 1) := by decide +kernel
theorem dX8_close_100 : decode cX8_close 100 = .ok (.if_icmp .ne 11, 3) := by decide +kernel
theorem dX8_close_103 : decode cX8_close 103 = .ok (.aload_n 0, 1) := by decide +kernel
theorem dX8_close_104 : decode cX8_close 104 = .ok (.iload_n 3, 1) := by decide +kernel
theorem dX8_close_105 : decode cX8_close 105 = .ok (.invokevirtual 161, 3) := by decide +kernel
theorem dX8_close_108 : decode cX8_close 108 = .ok (.goto 9, 3) := by decide +kernel
theorem dX8_close_111 : decode cX8_close 111 = .ok (.aload_n 0, 1) := by decide +kernel
theorem dX8_close_112 : decode cX8_close 112 = .ok (.getfield 78, 3) := by decide +kernel
theorem dX8_close_115 : decode cX8_close 115 = .ok (.iload_n 3, 1) := by decide +kernel
theorem dX8_close_116 : decode cX8_close 116 = .ok (.baload, 1) := by decide +kernel
theorem dX8_close_117 : decode cX8_close 117 = .ok (.bastore, 1) := by decide +kernel
theorem dX8_close_118 : decode cX8_close 118 = .ok (.iinc 3 1, 3) := by decide +kernel
theorem dX8_close_121 : decode cX8_close 121 = .ok (.goto (-44), 3) := by decide +kernel
theorem dX8_close_124 : decode cX8_close 124 = .ok (.aload_n 0, 1) := by decide +kernel
theorem dX8_close_125 : decode cX8_close 125 = .ok (.iload_n 1, 1) := by decide +kernel
theorem dX8_close_126 : decode cX8_close 126 = .ok (.invokevirtual 188, 3) := by decide +kernel
theorem dX8_close_129 : decode cX8_close 129 = .ok (.lstore_n 3, 1) := by decide +kernel
theorem dX8_close_130 : decode cX8_close 130 = .ok (.lload_n 3, 1) := by decide +kernel
theorem dX8_close_131 : decode cX8_close 131 = .ok (.lstore 5, 2) := by decide +kernel
theorem dX8_close_133 : decode cX8_close 133 = .ok (.iconst 0, 1) := by decide +kernel
theorem dX8_close_134 : decode cX8_close 134 = .ok (.istore 7, 2) := by decide +kernel
theorem dX8_close_136 : decode cX8_close 136 = .ok (.iload 7, 2) := by decide +kernel
theorem dX8_close_138 : decode cX8_close 138 = .ok (.aload_n 0, 1) := by decide +kernel
theorem dX8_close_139 : decode cX8_close 139 = .ok (.getfield 100, 3) := by decide +kernel
theorem dX8_close_142 : decode cX8_close 142 = .ok (.if_icmp .ge 46, 3) := by decide +kernel
theorem dX8_close_145 : decode cX8_close 145 = .ok (.lload 5, 2) := by decide +kernel
theorem dX8_close_147 : decode cX8_close 147 = .ok (.aload_n 0, 1) := by decide +kernel
theorem dX8_close_148 : decode cX8_close 148 = .ok (.getfield 20, 3) := by decide +kernel
theorem dX8_close_151 : decode cX8_close 151 = .ok (.bipush 20, 2) := by decide +kernel
theorem dX8_close_153 : decode cX8_close 153 = .ok (.iload 7, 2) := by decide +kernel
theorem dX8_close_155 : decode cX8_close 155 = .ok (.imul, 1) := by decide +kernel
theorem dX8_close_156 : decode cX8_close 156 = .ok (.iload_n 1, 1) := by decide +kernel
theorem dX8_close_157 : decode cX8_close 157 = .ok (.iadd, 1) := by decide +kernel
theorem dX8_close_158 : decode cX8_close 158 = .ok (.iaload, 1) := by decide +kernel
theorem dX8_close_159 : decode cX8_close 159 = .ok (.iconst 1, 1) := by decide +kernel
theorem dX8_close_160 : decode cX8_close 160 = .ok (.if_icmp .ne 18, 3) := by decide +kernel
theorem dX8_close_163 : decode cX8_close 163 = .ok (.aload_n 0, 1) := by decide +kernel
theorem dX8_close_164 : decode cX8_close 164 = .ok (.getfield 23, 3) := by decide +kernel
theorem dX8_close_167 : decode cX8_close 167 = .ok (.bipush 20, 2) := by decide +kernel
theorem dX8_close_169 : decode cX8_close 169 = .ok (.iload 7, 2) := by decide +kernel
theorem dX8_close_171 : decode cX8_close 171 = .ok (.imul, 1) := by decide +kernel
theorem dX8_close_172 : decode cX8_close 172 = .ok (.iload_n 1, 1) := by decide +kernel
theorem dX8_close_173 : decode cX8_close 173 = .ok (.iadd, 1) := by decide +kernel
theorem dX8_close_174 : decode cX8_close 174 = .ok (.laload, 1) := by decide +kernel
theorem dX8_close_175 : decode cX8_close 175 = .ok (.goto 4, 3) := by decide +kernel
theorem dX8_close_178 : decode cX8_close 178 = .ok (.lconst 0, 1) := by decide +kernel
theorem dX8_close_179 : decode cX8_close 179 = .ok (.lsub, 1) := by decide +kernel
theorem dX8_close_180 : decode cX8_close 180 = .ok (.lstore 5, 2) := by decide +kernel
theorem dX8_close_182 : decode cX8_close 182 = .ok (.iinc 7 1, 3) := by decide +kernel
theorem dX8_close_185 : decode cX8_close 185 = .ok (.goto (-49), 3) := by decide +kernel
theorem dX8_close_188 : decode cX8_close 188 = .ok (.aload_n 0, 1) := by decide +kernel
theorem dX8_close_189 : decode cX8_close 189 = .ok (.lload 5, 2) := by decide +kernel
theorem dX8_close_191 : decode cX8_close 191 = .ok (.iload_n 1, 1) := by decide +kernel
theorem dX8_close_192 : decode cX8_close 192 = .ok (.invokevirtual 221, 3) := by decide +kernel
theorem dX8_close_195 : decode cX8_close 195 = .ok (.aload_n 0, 1) := by decide +kernel
theorem dX8_close_196 : decode cX8_close 196 = .ok (.dup, 1) := by decide +kernel
theorem dX8_close_197 : decode cX8_close 197 = .ok (.getfield 134, 3) := by decide +kernel
theorem dX8_close_200 : decode cX8_close 200 = .ok (.iconst 1, 1) := by decide +kernel
theorem dX8_close_201 : decode cX8_close 201 = .ok (.iadd, 1) := by decide +kernel
theorem dX8_close_202 : decode cX8_close 202 = .ok (.putfield 134, 3) := by decide +kernel
theorem dX8_close_205 : decode cX8_close 205 = .ok (.lload_n 3, 1) := by decide +kernel
theorem dX8_close_206 : decode cX8_close 206 = .ok (.lreturn, 1) := by decide +kernel
set_option maxRecDepth 20000 in
theorem ggX8_due_X8_isMember : GoodIn wsX8_due wsX8_isMember := goodIn_r _ [6, 7, 8, 9, 5, 10, 40, 41, 42, 43, 44, 45, 46, 47, 48, 49, 50, 51, 52, 53, 54, 55, 56, 57, 58, 59, 60, 61, 62, 63, 64, 65, 66, 67, 68, 69, 70, 71, 72, 73, 74, 75, 76] (by decide +kernel) (by decide +kernel)
set_option maxRecDepth 20000 in
theorem gX8_due_X8_isMember : GoodIn wsX8_due (wsV RX8 114 RX8 yX8_isMember wsX8_isMember) := goodIn_app (goodIn_of _ (by decide +kernel)) ggX8_due_X8_isMember
set_option maxRecDepth 20000 in
theorem ggX8_due_X8_isYear : GoodIn wsX8_due wsX8_isYear := goodIn_r _ [13, 8, 9, 5, 10] (by decide +kernel) (by decide +kernel)
set_option maxRecDepth 20000 in
theorem gX8_due_X8_isYear : GoodIn wsX8_due (va_wsS RX8 131 yX8_isYear wsX8_isYear) := goodIn_app (goodIn_of _ (by decide +kernel)) ggX8_due_X8_isYear
set_option maxRecDepth 20000 in
theorem ggX8_due_X8_dueOf : GoodIn wsX8_due wsX8_dueOf := goodIn_r _ [17, 18, 19, 20, 21, 22, 23, 24, 25, 5, 26, 27, 28, 29, 30, 31, 32, 33, 34, 35, 36, 37, 38, 39, 40, 41, 42, 43, 44, 45, 46, 47, 48, 49, 50, 51, 52, 53, 54, 55, 56, 57, 58, 59, 60, 61, 62, 63, 64, 65, 66, 67, 68, 69, 70, 71, 72, 73, 74, 75, 76] (by decide +kernel) (by decide +kernel)
set_option maxRecDepth 20000 in
theorem gX8_due_X8_dueOf : GoodIn wsX8_due (wsV RX8 203 RX8 yX8_dueOf wsX8_dueOf) := goodIn_app (goodIn_of _ (by decide +kernel)) ggX8_due_X8_dueOf
theorem dX8_due_0 : decode cX8_due 0 = .ok (.aload_n 0, 1) := by decide +kernel
theorem dX8_due_1 : decode cX8_due 1 = .ok (.aload_n 0, 1) := by decide +kernel
theorem dX8_due_2 : decode cX8_due 2 = .ok (.iload_n 1, 1) := by decide +kernel
theorem dX8_due_3 : decode cX8_due 3 = .ok (.invokevirtual 114, 3) := by decide +kernel
theorem dX8_due_6 : decode cX8_due 6 = .ok (.ifCond .ne 7, 3) := by decide +kernel
theorem dX8_due_9 : decode cX8_due 9 = .ok (.iconst 1, 1) := by decide +kernel
theorem dX8_due_10 : decode cX8_due 10 = .ok (.goto 15, 3) := by decide +kernel
theorem dX8_due_13 : decode cX8_due 13 = .ok (.iload_n 2, 1) := by decide +kernel
theorem dX8_due_14 : decode cX8_due 14 = .ok (.invokestatic 131, 3) := by decide +kernel
theorem dX8_due_17 : decode cX8_due 17 = .ok (.ifCond .ne 7, 3) := by decide +kernel
theorem dX8_due_20 : decode cX8_due 20 = .ok (.iconst 2, 1) := by decide +kernel
theorem dX8_due_21 : decode cX8_due 21 = .ok (.goto 4, 3) := by decide +kernel
theorem dX8_due_24 : decode cX8_due 24 = .ok (.iconst 0, 1) := by decide +kernel
theorem dX8_due_25 : decode cX8_due 25 = .ok (.putfield 96, 3) := by decide +kernel
theorem dX8_due_28 : decode cX8_due 28 = .ok (.aload_n 0, 1) := by decide +kernel
theorem dX8_due_29 : decode cX8_due 29 = .ok (.getfield 96, 3) := by decide +kernel
theorem dX8_due_32 : decode cX8_due 32 = .ok (.ifCond .le 7, 3) := by decide +kernel
theorem dX8_due_35 : decode cX8_due 35 = .ok (.lconst 0, 1) := by decide +kernel
theorem dX8_due_36 : decode cX8_due 36 = .ok (.goto 9, 3) := by decide +kernel
theorem dX8_due_39 : decode cX8_due 39 = .ok (.aload_n 0, 1) := by decide +kernel
theorem dX8_due_40 : decode cX8_due 40 = .ok (.iload_n 1, 1) := by decide +kernel
theorem dX8_due_41 : decode cX8_due 41 = .ok (.iload_n 2, 1) := by decide +kernel
theorem dX8_due_42 : decode cX8_due 42 = .ok (.invokevirtual 203, 3) := by decide +kernel
theorem dX8_due_45 : decode cX8_due 45 = .ok (.lreturn, 1) := by decide +kernel
set_option maxRecDepth 20000 in
theorem ggX8_owes_X8_isMember : GoodIn wsX8_owes wsX8_isMember := goodIn_r _ [6, 7, 8, 9, 5, 10, 42, 43, 44, 45, 46, 47, 48, 49, 50, 51, 52, 53, 54, 55, 56, 57, 58, 59, 60, 61, 62, 63, 64, 65, 66, 67, 68, 69, 70, 71, 72, 73, 74, 75, 76, 77, 78] (by decide +kernel) (by decide +kernel)
set_option maxRecDepth 20000 in
theorem gX8_owes_X8_isMember : GoodIn wsX8_owes (wsV RX8 114 RX8 yX8_isMember wsX8_isMember) := goodIn_app (goodIn_of _ (by decide +kernel)) ggX8_owes_X8_isMember
set_option maxRecDepth 20000 in
theorem ggX8_owes_X8_owesOf : GoodIn wsX8_owes wsX8_owesOf := goodIn_r _ [14, 15, 16, 17, 18, 5, 19, 20, 21, 22, 23, 24, 25, 26, 27, 28, 29, 30, 31, 32, 33, 34, 35, 36, 37, 38, 39, 40, 41, 42, 43, 44, 45, 46, 47, 48, 49, 50, 51, 52, 53, 54, 55, 56, 57, 58, 59, 60, 61, 62, 63, 64, 65, 66, 67, 68, 69, 70, 71, 72, 73, 74, 75, 76, 77, 78] (by decide +kernel) (by decide +kernel)
set_option maxRecDepth 20000 in
theorem gX8_owes_X8_owesOf : GoodIn wsX8_owes (wsV RX8 207 RX8 yX8_owesOf wsX8_owesOf) := goodIn_app (goodIn_of _ (by decide +kernel)) ggX8_owes_X8_owesOf
theorem dX8_owes_0 : decode cX8_owes 0 = .ok (.aload_n 0, 1) := by decide +kernel
theorem dX8_owes_1 : decode cX8_owes 1 = .ok (.aload_n 0, 1) := by decide +kernel
theorem dX8_owes_2 : decode cX8_owes 2 = .ok (.iload_n 1, 1) := by decide +kernel
theorem dX8_owes_3 : decode cX8_owes 3 = .ok (.invokevirtual 114, 3) := by decide +kernel
theorem dX8_owes_6 : decode cX8_owes 6 = .ok (.ifCond .eq 7, 3) := by decide +kernel
theorem dX8_owes_9 : decode cX8_owes 9 = .ok (.iconst 0, 1) := by decide +kernel
theorem dX8_owes_10 : decode cX8_owes 10 = .ok (.goto 4, 3) := by decide +kernel
theorem dX8_owes_13 : decode cX8_owes 13 = .ok (.iconst 1, 1) := by decide +kernel
theorem dX8_owes_14 : decode cX8_owes 14 = .ok (.putfield 96, 3) := by decide +kernel
theorem dX8_owes_17 : decode cX8_owes 17 = .ok (.aload_n 0, 1) := by decide +kernel
theorem dX8_owes_18 : decode cX8_owes 18 = .ok (.getfield 96, 3) := by decide +kernel
theorem dX8_owes_21 : decode cX8_owes 21 = .ok (.ifCond .le 7, 3) := by decide +kernel
theorem dX8_owes_24 : decode cX8_owes 24 = .ok (.lconst 0, 1) := by decide +kernel
theorem dX8_owes_25 : decode cX8_owes 25 = .ok (.goto 8, 3) := by decide +kernel
theorem dX8_owes_28 : decode cX8_owes 28 = .ok (.aload_n 0, 1) := by decide +kernel
theorem dX8_owes_29 : decode cX8_owes 29 = .ok (.iload_n 1, 1) := by decide +kernel
theorem dX8_owes_30 : decode cX8_owes 30 = .ok (.invokevirtual 207, 3) := by decide +kernel
theorem dX8_owes_33 : decode cX8_owes 33 = .ok (.lreturn, 1) := by decide +kernel
set_option maxRecDepth 20000 in
theorem ggX8_result_X8_isYear : GoodIn wsX8_result wsX8_isYear := goodIn_r _ [6, 7, 8, 5, 9] (by decide +kernel) (by decide +kernel)
set_option maxRecDepth 20000 in
theorem gX8_result_X8_isYear : GoodIn wsX8_result (va_wsS RX8 131 yX8_isYear wsX8_isYear) := goodIn_app (goodIn_of _ (by decide +kernel)) ggX8_result_X8_isYear
set_option maxRecDepth 20000 in
theorem ggX8_result_X8_costIn : GoodIn wsX8_result wsX8_costIn := goodIn_r _ [13, 14, 15, 16, 17, 18, 5, 19, 20, 21, 22, 23, 24, 25, 26, 27, 28, 29, 30, 31, 32, 33, 34, 35, 36, 37, 38, 39, 40, 41, 42, 43, 44, 45, 46, 47, 48, 49, 50, 51, 52, 53, 54, 55, 56, 57, 58, 59, 60, 61, 62, 63, 64, 65, 66, 67, 86, 87, 88, 89, 90, 91, 92, 93, 94, 95, 96, 97, 98, 99, 100, 101, 102, 103, 104, 105, 106, 107, 108, 109, 110, 111, 112, 113, 114, 115, 116, 117, 118, 119, 120, 121, 122] (by decide +kernel) (by decide +kernel)
set_option maxRecDepth 20000 in
theorem gX8_result_X8_costIn : GoodIn wsX8_result (wsV RX8 188 RX8 yX8_costIn wsX8_costIn) := goodIn_app (goodIn_of _ (by decide +kernel)) ggX8_result_X8_costIn
set_option maxRecDepth 20000 in
theorem ggX8_result_X8_dueOf : GoodIn wsX8_result wsX8_dueOf := goodIn_r _ [71, 72, 73, 56, 74, 24, 75, 76, 77, 5, 78, 79, 80, 81, 82, 83, 84, 58, 59, 60, 63, 61, 49, 85, 86, 87, 88, 89, 90, 91, 92, 93, 94, 95, 96, 97, 98, 99, 100, 101, 102, 103, 104, 105, 106, 107, 108, 109, 110, 111, 112, 113, 114, 115, 116, 117, 118, 119, 120, 121, 122] (by decide +kernel) (by decide +kernel)
set_option maxRecDepth 20000 in
theorem gX8_result_X8_dueOf : GoodIn wsX8_result (wsV RX8 203 RX8 yX8_dueOf wsX8_dueOf) := goodIn_app (goodIn_of _ (by decide +kernel)) ggX8_result_X8_dueOf
theorem dX8_result_0 : decode cX8_result 0 = .ok (.aload_n 0, 1) := by decide +kernel
theorem dX8_result_1 : decode cX8_result 1 = .ok (.iload_n 1, 1) := by decide +kernel
theorem dX8_result_2 : decode cX8_result 2 = .ok (.invokestatic 131, 3) := by decide +kernel
theorem dX8_result_5 : decode cX8_result 5 = .ok (.ifCond .eq 7, 3) := by decide +kernel
theorem dX8_result_8 : decode cX8_result 8 = .ok (.iconst 0, 1) := by decide +kernel
theorem dX8_result_9 : decode cX8_result 9 = .ok (.goto 4, 3) := by decide +kernel
theorem dX8_result_12 : decode cX8_result 12 = .ok (.iconst 1, 1) := by decide +kernel
theorem dX8_result_13 : decode cX8_result 13 = .ok (.putfield 96, 3) := by decide +kernel
theorem dX8_result_16 : decode cX8_result 16 = .ok (.aload_n 0, 1) := by decide +kernel
theorem dX8_result_17 : decode cX8_result 17 = .ok (.getfield 96, 3) := by decide +kernel
theorem dX8_result_20 : decode cX8_result 20 = .ok (.ifCond .le 5, 3) := by decide +kernel
theorem dX8_result_23 : decode cX8_result 23 = .ok (.lconst 0, 1) := by decide +kernel
theorem dX8_result_24 : decode cX8_result 24 = .ok (.lreturn, 1) := by decide +kernel
theorem dX8_result_25 : decode cX8_result 25 = .ok (.aload_n 0, 1) := by decide +kernel
theorem dX8_result_26 : decode cX8_result 26 = .ok (.iload_n 1, 1) := by decide +kernel
theorem dX8_result_27 : decode cX8_result 27 = .ok (.invokevirtual 188, 3) := by decide +kernel
theorem dX8_result_30 : decode cX8_result 30 = .ok (.lneg, 1) := by decide +kernel
theorem dX8_result_31 : decode cX8_result 31 = .ok (.lstore_n 2, 1) := by decide +kernel
theorem dX8_result_32 : decode cX8_result 32 = .ok (.iconst 0, 1) := by decide +kernel
theorem dX8_result_33 : decode cX8_result 33 = .ok (.istore 4, 2) := by decide +kernel
theorem dX8_result_35 : decode cX8_result 35 = .ok (.iload 4, 2) := by decide +kernel
theorem dX8_result_37 : decode cX8_result 37 = .ok (.aload_n 0, 1) := by decide +kernel
theorem dX8_result_38 : decode cX8_result 38 = .ok (.getfield 100, 3) := by decide +kernel
theorem dX8_result_41 : decode cX8_result 41 = .ok (.if_icmp .ge 19, 3) := by decide +kernel
theorem dX8_result_44 : decode cX8_result 44 = .ok (.lload_n 2, 1) := by decide +kernel
theorem dX8_result_45 : decode cX8_result 45 = .ok (.aload_n 0, 1) := by decide +kernel
theorem dX8_result_46 : decode cX8_result 46 = .ok (.iload 4, 2) := by decide +kernel
theorem dX8_result_48 : decode cX8_result 48 = .ok (.iload_n 1, 1) := by decide +kernel
theorem dX8_result_49 : decode cX8_result 49 = .ok (.invokevirtual 203, 3) := by decide +kernel
theorem dX8_result_52 : decode cX8_result 52 = .ok (.ladd, 1) := by decide +kernel
theorem dX8_result_53 : decode cX8_result 53 = .ok (.lstore_n 2, 1) := by decide +kernel
theorem dX8_result_54 : decode cX8_result 54 = .ok (.iinc 4 1, 3) := by decide +kernel
theorem dX8_result_57 : decode cX8_result 57 = .ok (.goto (-22), 3) := by decide +kernel
theorem dX8_result_60 : decode cX8_result 60 = .ok (.lload_n 2, 1) := by decide +kernel
theorem dX8_result_61 : decode cX8_result 61 = .ok (.lreturn, 1) := by decide +kernel
set_option maxRecDepth 20000 in
theorem ggX8_isClosed_X8_isYear : GoodIn wsX8_isClosed wsX8_isYear := goodIn_r _ [6, 7, 8, 5, 9] (by decide +kernel) (by decide +kernel)
set_option maxRecDepth 20000 in
theorem gX8_isClosed_X8_isYear : GoodIn wsX8_isClosed (va_wsS RX8 131 yX8_isYear wsX8_isYear) := goodIn_app (goodIn_of _ (by decide +kernel)) ggX8_isClosed_X8_isYear
theorem dX8_isClosed_0 : decode cX8_isClosed 0 = .ok (.aload_n 0, 1) := by decide +kernel
theorem dX8_isClosed_1 : decode cX8_isClosed 1 = .ok (.iload_n 1, 1) := by decide +kernel
theorem dX8_isClosed_2 : decode cX8_isClosed 2 = .ok (.invokestatic 131, 3) := by decide +kernel
theorem dX8_isClosed_5 : decode cX8_isClosed 5 = .ok (.ifCond .eq 7, 3) := by decide +kernel
theorem dX8_isClosed_8 : decode cX8_isClosed 8 = .ok (.iconst 0, 1) := by decide +kernel
theorem dX8_isClosed_9 : decode cX8_isClosed 9 = .ok (.goto 4, 3) := by decide +kernel
theorem dX8_isClosed_12 : decode cX8_isClosed 12 = .ok (.iconst 1, 1) := by decide +kernel
theorem dX8_isClosed_13 : decode cX8_isClosed 13 = .ok (.putfield 96, 3) := by decide +kernel
theorem dX8_isClosed_16 : decode cX8_isClosed 16 = .ok (.aload_n 0, 1) := by decide +kernel
theorem dX8_isClosed_17 : decode cX8_isClosed 17 = .ok (.getfield 96, 3) := by decide +kernel
theorem dX8_isClosed_20 : decode cX8_isClosed 20 = .ok (.ifCond .ne 15, 3) := by decide +kernel
theorem dX8_isClosed_23 : decode cX8_isClosed 23 = .ok (.iload_n 1, 1) := by decide +kernel
theorem dX8_isClosed_24 : decode cX8_isClosed 24 = .ok (.aload_n 0, 1) := by decide +kernel
theorem dX8_isClosed_25 : decode cX8_isClosed 25 = .ok (.getfield 134, 3) := by decide +kernel
theorem dX8_isClosed_28 : decode cX8_isClosed 28 = .ok (.if_icmp .ge 7, 3) := by decide +kernel
theorem dX8_isClosed_31 : decode cX8_isClosed 31 = .ok (.iconst 1, 1) := by decide +kernel
theorem dX8_isClosed_32 : decode cX8_isClosed 32 = .ok (.goto 4, 3) := by decide +kernel
theorem dX8_isClosed_35 : decode cX8_isClosed 35 = .ok (.iconst 0, 1) := by decide +kernel
theorem dX8_isClosed_36 : decode cX8_isClosed 36 = .ok (.ireturn, 1) := by decide +kernel
theorem dX8_reserve_0 : decode cX8_reserve 0 = .ok (.aload_n 0, 1) := by decide +kernel
theorem dX8_reserve_1 : decode cX8_reserve 1 = .ok (.iconst 0, 1) := by decide +kernel
theorem dX8_reserve_2 : decode cX8_reserve 2 = .ok (.putfield 96, 3) := by decide +kernel
theorem dX8_reserve_5 : decode cX8_reserve 5 = .ok (.aload_n 0, 1) := by decide +kernel
theorem dX8_reserve_6 : decode cX8_reserve 6 = .ok (.getfield 210, 3) := by decide +kernel
theorem dX8_reserve_9 : decode cX8_reserve 9 = .ok (.lreturn, 1) := by decide +kernel
set_option maxRecDepth 20000 in
theorem ggX8_letter_X8_isClaim : GoodIn wsX8_letter wsX8_isClaim := goodIn_r _ [10, 11, 12, 13, 9, 14, 15, 16, 17, 18, 19, 20, 21, 22, 23, 24, 25, 26, 27, 28, 29, 30, 31, 32, 33, 34, 35, 36, 37, 38, 39, 40, 41, 42, 43, 44, 45, 46, 47, 48, 49, 50, 51] (by decide +kernel) (by decide +kernel)
set_option maxRecDepth 20000 in
theorem gX8_letter_X8_isClaim : GoodIn wsX8_letter (wsV RX8 158 RX8 yX8_isClaim wsX8_isClaim) := goodIn_app (goodIn_of _ (by decide +kernel)) ggX8_letter_X8_isClaim
set_option maxRecDepth 20000 in
theorem ggX8_letter_X8_isIn : GoodIn wsX8_letter wsX8_isIn := goodIn_r _ [14] (by decide +kernel) (by decide +kernel)
set_option maxRecDepth 20000 in
theorem gX8_letter_X8_isIn : GoodIn wsX8_letter (va_wsS RX8 103 yX8_isIn wsX8_isIn) := goodIn_app (goodIn_of _ (by decide +kernel)) ggX8_letter_X8_isIn
theorem dX8_letter_0 : decode cX8_letter 0 = .ok (.aload_n 0, 1) := by decide +kernel
theorem dX8_letter_1 : decode cX8_letter 1 = .ok (.iload_n 1, 1) := by decide +kernel
theorem dX8_letter_2 : decode cX8_letter 2 = .ok (.invokevirtual 158, 3) := by decide +kernel
theorem dX8_letter_5 : decode cX8_letter 5 = .ok (.istore_n 3, 1) := by decide +kernel
theorem dX8_letter_6 : decode cX8_letter 6 = .ok (.iload_n 2, 1) := by decide +kernel
theorem dX8_letter_7 : decode cX8_letter 7 = .ok (.iconst 1, 1) := by decide +kernel
theorem dX8_letter_8 : decode cX8_letter 8 = .ok (.ldc 113, 2) := by decide +kernel
theorem dX8_letter_10 : decode cX8_letter 10 = .ok (.invokestatic 103, 3) := by decide +kernel
theorem dX8_letter_13 : decode cX8_letter 13 = .ok (.istore 4, 2) := by decide +kernel
theorem dX8_letter_15 : decode cX8_letter 15 = .ok (.iload_n 3, 1) := by decide +kernel
theorem dX8_letter_16 : decode cX8_letter 16 = .ok (.ifCond .eq 42, 3) := by decide +kernel
theorem dX8_letter_19 : decode cX8_letter 19 = .ok (.iload 4, 2) := by decide +kernel
theorem dX8_letter_21 : decode cX8_letter 21 = .ok (.ifCond .eq 37, 3) := by decide +kernel
theorem dX8_letter_24 : decode cX8_letter 24 = .ok (.aload_n 0, 1) := by decide +kernel
theorem dX8_letter_25 : decode cX8_letter 25 = .ok (.getfield 71, 3) := by decide +kernel
theorem dX8_letter_28 : decode cX8_letter 28 = .ok (.iload_n 1, 1) := by decide +kernel
theorem dX8_letter_29 : decode cX8_letter 29 = .ok (.baload, 1) := by decide +kernel
theorem dX8_letter_30 : decode cX8_letter 30 = .ok (.ifCond .ne 28, 3) := by decide +kernel
theorem dX8_letter_33 : decode cX8_letter 33 = .ok (.aload_n 0, 1) := by decide +kernel
theorem dX8_letter_34 : decode cX8_letter 34 = .ok (.getfield 81, 3) := by decide +kernel
theorem dX8_letter_37 : decode cX8_letter 37 = .ok (.iload_n 1, 1) := by decide +kernel
theorem dX8_letter_38 : decode cX8_letter 38 = .ok (.iaload, 1) := by decide +kernel
theorem dX8_letter_39 : decode cX8_letter 39 = .ok (.i2l, 1) := by decide +kernel
theorem dX8_letter_40 : decode cX8_letter 40 = .ok (.iload_n 2, 1) := by decide +kernel
theorem dX8_letter_41 : decode cX8_letter 41 = .ok (.i2l, 1) := by decide +kernel
theorem dX8_letter_42 : decode cX8_letter 42 = .ok (.ladd, 1) := by decide +kernel
theorem dX8_letter_43 : decode cX8_letter 43 = .ok (.aload_n 0, 1) := by decide +kernel
theorem dX8_letter_44 : decode cX8_letter 44 = .ok (.getfield 65, 3) := by decide +kernel
theorem dX8_letter_47 : decode cX8_letter 47 = .ok (.iload_n 1, 1) := by decide +kernel
theorem dX8_letter_48 : decode cX8_letter 48 = .ok (.iaload, 1) := by decide +kernel
theorem dX8_letter_49 : decode cX8_letter 49 = .ok (.i2l, 1) := by decide +kernel
theorem dX8_letter_50 : decode cX8_letter 50 = .ok (.lcmp, 1) := by decide +kernel
theorem dX8_letter_51 : decode cX8_letter 51 = .ok (.ifCond .gt 7, 3) := by decide +kernel
theorem dX8_letter_54 : decode cX8_letter 54 = .ok (.iconst 1, 1) := by decide +kernel
theorem dX8_letter_55 : decode cX8_letter 55 = .ok (.goto 4, 3) := by decide +kernel
theorem dX8_letter_58 : decode cX8_letter 58 = .ok (.iconst 0, 1) := by decide +kernel
theorem dX8_letter_59 : decode cX8_letter 59 = .ok (.istore 5, 2) := by decide +kernel
theorem dX8_letter_61 : decode cX8_letter 61 = .ok (.aload_n 0, 1) := by decide +kernel
theorem dX8_letter_62 : decode cX8_letter 62 = .ok (.iload_n 3, 1) := by decide +kernel
theorem dX8_letter_63 : decode cX8_letter 63 = .ok (.ifCond .ne 7, 3) := by decide +kernel
theorem dX8_letter_66 : decode cX8_letter 66 = .ok (.iconst 1, 1) := by decide +kernel
theorem dX8_letter_67 : decode cX8_letter 67 = .ok (.goto 22, 3) := by decide +kernel
theorem dX8_letter_70 : decode cX8_letter 70 = .ok (.iload 4, 2) := by decide +kernel
theorem dX8_letter_72 : decode cX8_letter 72 = .ok (.ifCond .ne 7, 3) := by decide +kernel
theorem dX8_letter_75 : decode cX8_letter 75 = .ok (.iconst 2, 1) := by decide +kernel
theorem dX8_letter_76 : decode cX8_letter 76 = .ok (.goto 13, 3) := by decide +kernel
theorem dX8_letter_79 : decode cX8_letter 79 = .ok (.iload 5, 2) := by decide +kernel
theorem dX8_letter_81 : decode cX8_letter 81 = .ok (.ifCond .ne 7, 3) := by decide +kernel
theorem dX8_letter_84 : decode cX8_letter 84 = .ok (.iconst 3, 1) := by decide +kernel
theorem dX8_letter_85 : decode cX8_letter 85 = .ok (.goto 4, 3) := by decide +kernel
theorem dX8_letter_88 : decode cX8_letter 88 = .ok (.iconst 0, 1) := by decide +kernel
theorem dX8_letter_89 : decode cX8_letter 89 = .ok (.putfield 96, 3) := by decide +kernel
theorem dX8_letter_92 : decode cX8_letter 92 = .ok (.aload_n 0, 1) := by decide +kernel
theorem dX8_letter_93 : decode cX8_letter 93 = .ok (.getfield 96, 3) := by decide +kernel
theorem dX8_letter_96 : decode cX8_letter 96 = .ok (.ifCond .le 5, 3) := by decide +kernel
theorem dX8_letter_99 : decode cX8_letter 99 = .ok (.iconst 0, 1) := by decide +kernel
theorem dX8_letter_100 : decode cX8_letter 100 = .ok (.ireturn, 1) := by decide +kernel
theorem dX8_letter_101 : decode cX8_letter 101 = .ok (.aload_n 0, 1) := by decide +kernel
theorem dX8_letter_102 : decode cX8_letter 102 = .ok (.getfield 81, 3) := by decide +kernel
theorem dX8_letter_105 : decode cX8_letter 105 = .ok (.iload_n 1, 1) := by decide +kernel
theorem dX8_letter_106 : decode cX8_letter 106 = .ok (.dup2, 1) := by decide +kernel
theorem dX8_letter_107 : decode cX8_letter 107 = .ok (.iaload, 1) := by decide +kernel
theorem dX8_letter_108 : decode cX8_letter 108 = .ok (.iload_n 2, 1) := by decide +kernel
theorem dX8_letter_109 : decode cX8_letter 109 = .ok (.iadd, 1) := by decide +kernel
theorem dX8_letter_110 : decode cX8_letter 110 = .ok (.iastore, 1) := by decide +kernel
theorem dX8_letter_111 : decode cX8_letter 111 = .ok (.aload_n 0, 1) := by decide +kernel
theorem dX8_letter_112 : decode cX8_letter 112 = .ok (.getfield 81, 3) := by decide +kernel
theorem dX8_letter_115 : decode cX8_letter 115 = .ok (.iload_n 1, 1) := by decide +kernel
theorem dX8_letter_116 : decode cX8_letter 116 = .ok (.iaload, 1) := by decide +kernel
theorem dX8_letter_117 : decode cX8_letter 117 = .ok (.ireturn, 1) := by decide +kernel
theorem dX8_isHeld_0 : decode cX8_isHeld 0 = .ok (.iconst 0, 1) := by decide +kernel
theorem dX8_isHeld_1 : decode cX8_isHeld 1 = .ok (.istore_n 2, 1) := by decide +kernel
theorem dX8_isHeld_2 : decode cX8_isHeld 2 = .ok (.iconst 0, 1) := by decide +kernel
theorem dX8_isHeld_3 : decode cX8_isHeld 3 = .ok (.istore_n 3, 1) := by decide +kernel
theorem dX8_isHeld_4 : decode cX8_isHeld 4 = .ok (.iload_n 3, 1) := by decide +kernel
theorem dX8_isHeld_5 : decode cX8_isHeld 5 = .ok (.aload_n 0, 1) := by decide +kernel
theorem dX8_isHeld_6 : decode cX8_isHeld 6 = .ok (.getfield 110, 3) := by decide +kernel
theorem dX8_isHeld_9 : decode cX8_isHeld 9 = .ok (.if_icmp .ge 57, 3) := by decide +kernel
theorem dX8_isHeld_12 : decode cX8_isHeld 12 = .ok (.iload_n 2, 1) := by decide +kernel
theorem dX8_isHeld_13 : decode cX8_isHeld 13 = .ok (.ifCond .ne 41, 3) := by decide +kernel
theorem dX8_isHeld_16 : decode cX8_isHeld 16 = .ok (.aload_n 0, 1) := by decide +kernel
theorem dX8_isHeld_17 : decode cX8_isHeld 17 = .ok (.getfield 93, 3) := by decide +kernel
theorem dX8_isHeld_20 : decode cX8_isHeld 20 = .ok (.bipush 60, 2) := by decide +kernel
theorem dX8_isHeld_22 : decode cX8_isHeld 22 = .ok (.iload_n 1, 1) := by decide +kernel
theorem dX8_isHeld_23 : decode cX8_isHeld 23 = .ok (.imul, 1) := by decide +kernel
theorem dX8_isHeld_24 : decode cX8_isHeld 24 = .ok (.iload_n 3, 1) := by decide +kernel
theorem dX8_isHeld_25 : decode cX8_isHeld 25 = .ok (.iadd, 1) := by decide +kernel
theorem dX8_isHeld_26 : decode cX8_isHeld 26 = .ok (.baload, 1) := by decide +kernel
theorem dX8_isHeld_27 : decode cX8_isHeld 27 = .ok (.ifCond .eq 31, 3) := by decide +kernel
theorem dX8_isHeld_30 : decode cX8_isHeld 30 = .ok (.aload_n 0, 1) := by decide +kernel
theorem dX8_isHeld_31 : decode cX8_isHeld 31 = .ok (.getfield 71, 3) := by decide +kernel
theorem dX8_isHeld_34 : decode cX8_isHeld 34 = .ok (.iload_n 3, 1) := by decide +kernel
theorem dX8_isHeld_35 : decode cX8_isHeld 35 = .ok (.baload, 1) := by decide +kernel
theorem dX8_isHeld_36 : decode cX8_isHeld 36 = .ok (.ifCond .ne 22, 3) := by decide +kernel
theorem dX8_isHeld_39 : decode cX8_isHeld 39 = .ok (.aload_n 0, 1) := by decide +kernel
theorem dX8_isHeld_40 : decode cX8_isHeld 40 = .ok (.getfield 81, 3) := by decide +kernel
theorem dX8_isHeld_43 : decode cX8_isHeld 43 = .ok (.iload_n 3, 1) := by decide +kernel
theorem dX8_isHeld_44 : decode cX8_isHeld 44 = .ok (.iaload, 1) := by decide +kernel
theorem dX8_isHeld_45 : decode cX8_isHeld 45 = .ok (.aload_n 0, 1) := by decide +kernel
theorem dX8_isHeld_46 : decode cX8_isHeld 46 = .ok (.getfield 65, 3) := by decide +kernel
theorem dX8_isHeld_49 : decode cX8_isHeld 49 = .ok (.iload_n 3, 1) := by decide +kernel
theorem dX8_isHeld_50 : decode cX8_isHeld 50 = .ok (.iaload, 1) := by decide +kernel
theorem dX8_isHeld_51 : decode cX8_isHeld 51 = .ok (.if_icmp .ge 7, 3) := by decide +kernel
theorem dX8_isHeld_54 : decode cX8_isHeld 54 = .ok (.iconst 1, 1) := by decide +kernel
theorem dX8_isHeld_55 : decode cX8_isHeld 55 = .ok (.goto 4, 3) := by decide +kernel
theorem dX8_isHeld_58 : decode cX8_isHeld 58 = .ok (.iconst 0, 1) := by decide +kernel
theorem dX8_isHeld_59 : decode cX8_isHeld 59 = .ok (.istore_n 2, 1) := by decide +kernel
theorem dX8_isHeld_60 : decode cX8_isHeld 60 = .ok (.iinc 3 1, 3) := by decide +kernel
theorem dX8_isHeld_63 : decode cX8_isHeld 63 = .ok (.goto (-59), 3) := by decide +kernel
theorem dX8_isHeld_66 : decode cX8_isHeld 66 = .ok (.iload_n 2, 1) := by decide +kernel
theorem dX8_isHeld_67 : decode cX8_isHeld 67 = .ok (.ireturn, 1) := by decide +kernel
set_option maxRecDepth 20000 in
theorem ggX8_arrest_X8_isShip : GoodIn wsX8_arrest wsX8_isShip := goodIn_r _ [12, 13, 14, 15, 11, 16, 26, 27, 28, 29, 30, 31, 32, 33, 34, 35, 36, 37, 38, 39, 40, 41, 42, 43, 44, 45, 46, 47, 48, 49, 50, 51, 52, 53, 54, 55, 56, 57, 58, 59, 60, 61, 62] (by decide +kernel) (by decide +kernel)
set_option maxRecDepth 20000 in
theorem gX8_arrest_X8_isShip : GoodIn wsX8_arrest (wsV RX8 121 RX8 yX8_isShip wsX8_isShip) := goodIn_app (goodIn_of _ (by decide +kernel)) ggX8_arrest_X8_isShip
set_option maxRecDepth 20000 in
theorem ggX8_arrest_X8_isClaim : GoodIn wsX8_arrest wsX8_isClaim := goodIn_r _ [20, 21, 14, 15, 11, 16, 26, 27, 28, 29, 30, 31, 32, 33, 34, 35, 36, 37, 38, 39, 40, 41, 42, 43, 44, 45, 46, 47, 48, 49, 50, 51, 52, 53, 54, 55, 56, 57, 58, 59, 60, 61, 62] (by decide +kernel) (by decide +kernel)
set_option maxRecDepth 20000 in
theorem gX8_arrest_X8_isClaim : GoodIn wsX8_arrest (wsV RX8 158 RX8 yX8_isClaim wsX8_isClaim) := goodIn_app (goodIn_of _ (by decide +kernel)) ggX8_arrest_X8_isClaim
set_option maxRecDepth 20000 in
theorem ggX8_arrest_X8_isHeld : GoodIn wsX8_arrest wsX8_isHeld := goodIn_r _ [25, 21, 7, 3, 4, 5, 26, 27, 28, 29, 30, 31, 32, 33, 34, 35, 36, 37, 38, 39, 40, 41, 42, 43, 44, 45, 46, 47, 48, 49, 50, 51, 52, 53, 54, 55, 56, 57, 58, 59, 60, 61, 62] (by decide +kernel) (by decide +kernel)
set_option maxRecDepth 20000 in
theorem gX8_arrest_X8_isHeld : GoodIn wsX8_arrest (wsV RX8 225 RX8 yX8_isHeld wsX8_isHeld) := goodIn_app (goodIn_of _ (by decide +kernel)) ggX8_arrest_X8_isHeld
theorem dX8_arrest_0 : decode cX8_arrest 0 = .ok (.aload_n 0, 1) := by decide +kernel
theorem dX8_arrest_1 : decode cX8_arrest 1 = .ok (.iload_n 1, 1) := by decide +kernel
theorem dX8_arrest_2 : decode cX8_arrest 2 = .ok (.invokevirtual 121, 3) := by decide +kernel
theorem dX8_arrest_5 : decode cX8_arrest 5 = .ok (.ifCond .eq 15, 3) := by decide +kernel
theorem dX8_arrest_8 : decode cX8_arrest 8 = .ok (.aload_n 0, 1) := by decide +kernel
theorem dX8_arrest_9 : decode cX8_arrest 9 = .ok (.iload_n 2, 1) := by decide +kernel
theorem dX8_arrest_10 : decode cX8_arrest 10 = .ok (.invokevirtual 158, 3) := by decide +kernel
theorem dX8_arrest_13 : decode cX8_arrest 13 = .ok (.ifCond .eq 7, 3) := by decide +kernel
theorem dX8_arrest_16 : decode cX8_arrest 16 = .ok (.iconst 1, 1) := by decide +kernel
theorem dX8_arrest_17 : decode cX8_arrest 17 = .ok (.goto 4, 3) := by decide +kernel
theorem dX8_arrest_20 : decode cX8_arrest 20 = .ok (.iconst 0, 1) := by decide +kernel
theorem dX8_arrest_21 : decode cX8_arrest 21 = .ok (.istore_n 3, 1) := by decide +kernel
theorem dX8_arrest_22 : decode cX8_arrest 22 = .ok (.iload_n 3, 1) := by decide +kernel
theorem dX8_arrest_23 : decode cX8_arrest 23 = .ok (.ifCond .eq 51, 3) := by decide +kernel
theorem dX8_arrest_26 : decode cX8_arrest 26 = .ok (.aload_n 0, 1) := by decide +kernel
theorem dX8_arrest_27 : decode cX8_arrest 27 = .ok (.getfield 26, 3) := by decide +kernel
theorem dX8_arrest_30 : decode cX8_arrest 30 = .ok (.iload_n 1, 1) := by decide +kernel
theorem dX8_arrest_31 : decode cX8_arrest 31 = .ok (.iaload, 1) := by decide +kernel
theorem dX8_arrest_32 : decode cX8_arrest 32 = .ok (.aload_n 0, 1) := by decide +kernel
theorem dX8_arrest_33 : decode cX8_arrest 33 = .ok (.getfield 26, 3) := by decide +kernel
theorem dX8_arrest_36 : decode cX8_arrest 36 = .ok (.aload_n 0, 1) := by decide +kernel
theorem dX8_arrest_37 : decode cX8_arrest 37 = .ok (.getfield 56, 3) := by decide +kernel
theorem dX8_arrest_40 : decode cX8_arrest 40 = .ok (.iload_n 2, 1) := by decide +kernel
theorem dX8_arrest_41 : decode cX8_arrest 41 = .ok (.iaload, 1) := by decide +kernel
theorem dX8_arrest_42 : decode cX8_arrest 42 = .ok (.iaload, 1) := by decide +kernel
theorem dX8_arrest_43 : decode cX8_arrest 43 = .ok (.if_icmp .ne 31, 3) := by decide +kernel
theorem dX8_arrest_46 : decode cX8_arrest 46 = .ok (.aload_n 0, 1) := by decide +kernel
theorem dX8_arrest_47 : decode cX8_arrest 47 = .ok (.getfield 71, 3) := by decide +kernel
theorem dX8_arrest_50 : decode cX8_arrest 50 = .ok (.iload_n 2, 1) := by decide +kernel
theorem dX8_arrest_51 : decode cX8_arrest 51 = .ok (.baload, 1) := by decide +kernel
theorem dX8_arrest_52 : decode cX8_arrest 52 = .ok (.ifCond .ne 22, 3) := by decide +kernel
theorem dX8_arrest_55 : decode cX8_arrest 55 = .ok (.aload_n 0, 1) := by decide +kernel
theorem dX8_arrest_56 : decode cX8_arrest 56 = .ok (.getfield 81, 3) := by decide +kernel
theorem dX8_arrest_59 : decode cX8_arrest 59 = .ok (.iload_n 2, 1) := by decide +kernel
theorem dX8_arrest_60 : decode cX8_arrest 60 = .ok (.iaload, 1) := by decide +kernel
theorem dX8_arrest_61 : decode cX8_arrest 61 = .ok (.aload_n 0, 1) := by decide +kernel
theorem dX8_arrest_62 : decode cX8_arrest 62 = .ok (.getfield 65, 3) := by decide +kernel
theorem dX8_arrest_65 : decode cX8_arrest 65 = .ok (.iload_n 2, 1) := by decide +kernel
theorem dX8_arrest_66 : decode cX8_arrest 66 = .ok (.iaload, 1) := by decide +kernel
theorem dX8_arrest_67 : decode cX8_arrest 67 = .ok (.if_icmp .ge 7, 3) := by decide +kernel
theorem dX8_arrest_70 : decode cX8_arrest 70 = .ok (.iconst 1, 1) := by decide +kernel
theorem dX8_arrest_71 : decode cX8_arrest 71 = .ok (.goto 4, 3) := by decide +kernel
theorem dX8_arrest_74 : decode cX8_arrest 74 = .ok (.iconst 0, 1) := by decide +kernel
theorem dX8_arrest_75 : decode cX8_arrest 75 = .ok (.istore 4, 2) := by decide +kernel
theorem dX8_arrest_77 : decode cX8_arrest 77 = .ok (.aload_n 0, 1) := by decide +kernel
theorem dX8_arrest_78 : decode cX8_arrest 78 = .ok (.iload_n 3, 1) := by decide +kernel
theorem dX8_arrest_79 : decode cX8_arrest 79 = .ok (.ifCond .ne 7, 3) := by decide +kernel
theorem dX8_arrest_82 : decode cX8_arrest 82 = .ok (.iconst 1, 1) := by decide +kernel
theorem dX8_arrest_83 : decode cX8_arrest 83 = .ok (.goto 13, 3) := by decide +kernel
theorem dX8_arrest_86 : decode cX8_arrest 86 = .ok (.iload 4, 2) := by decide +kernel
theorem dX8_arrest_88 : decode cX8_arrest 88 = .ok (.ifCond .ne 7, 3) := by decide +kernel
theorem dX8_arrest_91 : decode cX8_arrest 91 = .ok (.iconst 2, 1) := by decide +kernel
theorem dX8_arrest_92 : decode cX8_arrest 92 = .ok (.goto 4, 3) := by decide +kernel
theorem dX8_arrest_95 : decode cX8_arrest 95 = .ok (.iconst 0, 1) := by decide +kernel
theorem dX8_arrest_96 : decode cX8_arrest 96 = .ok (.putfield 96, 3) := by decide +kernel
theorem dX8_arrest_99 : decode cX8_arrest 99 = .ok (.aload_n 0, 1) := by decide +kernel
theorem dX8_arrest_100 : decode cX8_arrest 100 = .ok (.getfield 96, 3) := by decide +kernel
theorem dX8_arrest_103 : decode cX8_arrest 103 = .ok (.ifCond .le 5, 3) := by decide +kernel
theorem dX8_arrest_106 : decode cX8_arrest 106 = .ok (.iconst 0, 1) := by decide +kernel
theorem dX8_arrest_107 : decode cX8_arrest 107 = .ok (.ireturn, 1) := by decide +kernel
theorem dX8_arrest_108 : decode cX8_arrest 108 = .ok (.aload_n 0, 1) := by decide +kernel
theorem dX8_arrest_109 : decode cX8_arrest 109 = .ok (.iload_n 1, 1) := by decide +kernel
theorem dX8_arrest_110 : decode cX8_arrest 110 = .ok (.invokevirtual 225, 3) := by decide +kernel
theorem dX8_arrest_113 : decode cX8_arrest 113 = .ok (.istore 5, 2) := by decide +kernel
theorem dX8_arrest_115 : decode cX8_arrest 115 = .ok (.aload_n 0, 1) := by decide +kernel
theorem dX8_arrest_116 : decode cX8_arrest 116 = .ok (.getfield 93, 3) := by decide +kernel
theorem dX8_arrest_119 : decode cX8_arrest 119 = .ok (.bipush 60, 2) := by decide +kernel
theorem dX8_arrest_121 : decode cX8_arrest 121 = .ok (.iload_n 1, 1) := by decide +kernel
theorem dX8_arrest_122 : decode cX8_arrest 122 = .ok (.imul, 1) := by decide +kernel
theorem dX8_arrest_123 : decode cX8_arrest 123 = .ok (.iload_n 2, 1) := by decide +kernel
theorem dX8_arrest_124 : decode cX8_arrest 124 = .ok (.iadd, 1) := by decide +kernel
theorem dX8_arrest_125 : decode cX8_arrest 125 = .ok (.iconst 1, 1) := by decide +kernel
theorem dX8_arrest_126 : decode cX8_arrest 126 = .ok (.bastore, 1) := by decide +kernel
theorem dX8_arrest_127 : decode cX8_arrest 127 = .ok (.iload 5, 2) := by decide +kernel
theorem dX8_arrest_129 : decode cX8_arrest 129 = .ok (.ifCond .ne 7, 3) := by decide +kernel
theorem dX8_arrest_132 : decode cX8_arrest 132 = .ok (.iconst 1, 1) := by decide +kernel
theorem dX8_arrest_133 : decode cX8_arrest 133 = .ok (.goto 4, 3) := by decide +kernel
theorem dX8_arrest_136 : decode cX8_arrest 136 = .ok (.iconst 0, 1) := by decide +kernel
theorem dX8_arrest_137 : decode cX8_arrest 137 = .ok (.ireturn, 1) := by decide +kernel
set_option maxRecDepth 20000 in
theorem ggX8_isArrested_X8_isShip : GoodIn wsX8_isArrested wsX8_isShip := goodIn_r _ [6, 7, 8, 9, 5, 10, 20, 21, 22, 23, 24, 25, 26, 27, 28, 29, 30, 31, 32, 33, 34, 35, 36, 37, 38, 39, 40, 41, 42, 43, 44, 45, 46, 47, 48, 49, 50, 51, 52, 53, 54, 55, 56] (by decide +kernel) (by decide +kernel)
set_option maxRecDepth 20000 in
theorem gX8_isArrested_X8_isShip : GoodIn wsX8_isArrested (wsV RX8 121 RX8 yX8_isShip wsX8_isShip) := goodIn_app (goodIn_of _ (by decide +kernel)) ggX8_isArrested_X8_isShip
set_option maxRecDepth 20000 in
theorem ggX8_isArrested_X8_isHeld : GoodIn wsX8_isArrested wsX8_isHeld := goodIn_r _ [14, 15, 16, 17, 18, 19, 20, 21, 22, 23, 24, 25, 26, 27, 28, 29, 30, 31, 32, 33, 34, 35, 36, 37, 38, 39, 40, 41, 42, 43, 44, 45, 46, 47, 48, 49, 50, 51, 52, 53, 54, 55, 56] (by decide +kernel) (by decide +kernel)
set_option maxRecDepth 20000 in
theorem gX8_isArrested_X8_isHeld : GoodIn wsX8_isArrested (wsV RX8 225 RX8 yX8_isHeld wsX8_isHeld) := goodIn_app (goodIn_of _ (by decide +kernel)) ggX8_isArrested_X8_isHeld
theorem dX8_isArrested_0 : decode cX8_isArrested 0 = .ok (.aload_n 0, 1) := by decide +kernel
theorem dX8_isArrested_1 : decode cX8_isArrested 1 = .ok (.aload_n 0, 1) := by decide +kernel
theorem dX8_isArrested_2 : decode cX8_isArrested 2 = .ok (.iload_n 1, 1) := by decide +kernel
theorem dX8_isArrested_3 : decode cX8_isArrested 3 = .ok (.invokevirtual 121, 3) := by decide +kernel
theorem dX8_isArrested_6 : decode cX8_isArrested 6 = .ok (.ifCond .eq 7, 3) := by decide +kernel
theorem dX8_isArrested_9 : decode cX8_isArrested 9 = .ok (.iconst 0, 1) := by decide +kernel
theorem dX8_isArrested_10 : decode cX8_isArrested 10 = .ok (.goto 4, 3) := by decide +kernel
theorem dX8_isArrested_13 : decode cX8_isArrested 13 = .ok (.iconst 1, 1) := by decide +kernel
theorem dX8_isArrested_14 : decode cX8_isArrested 14 = .ok (.putfield 96, 3) := by decide +kernel
theorem dX8_isArrested_17 : decode cX8_isArrested 17 = .ok (.aload_n 0, 1) := by decide +kernel
theorem dX8_isArrested_18 : decode cX8_isArrested 18 = .ok (.getfield 96, 3) := by decide +kernel
theorem dX8_isArrested_21 : decode cX8_isArrested 21 = .ok (.ifCond .ne 15, 3) := by decide +kernel
theorem dX8_isArrested_24 : decode cX8_isArrested 24 = .ok (.aload_n 0, 1) := by decide +kernel
theorem dX8_isArrested_25 : decode cX8_isArrested 25 = .ok (.iload_n 1, 1) := by decide +kernel
theorem dX8_isArrested_26 : decode cX8_isArrested 26 = .ok (.invokevirtual 225, 3) := by decide +kernel
theorem dX8_isArrested_29 : decode cX8_isArrested 29 = .ok (.ifCond .eq 7, 3) := by decide +kernel
theorem dX8_isArrested_32 : decode cX8_isArrested 32 = .ok (.iconst 1, 1) := by decide +kernel
theorem dX8_isArrested_33 : decode cX8_isArrested 33 = .ok (.goto 4, 3) := by decide +kernel
theorem dX8_isArrested_36 : decode cX8_isArrested 36 = .ok (.iconst 0, 1) := by decide +kernel
theorem dX8_isArrested_37 : decode cX8_isArrested 37 = .ok (.ireturn, 1) := by decide +kernel
