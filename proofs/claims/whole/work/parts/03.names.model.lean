theorem dX7_init_0 : decode cX7_init 0 = .ok (.aload_n 0, 1) := by decide +kernel
theorem dX7_init_1 : decode cX7_init 1 = .ok (.invokespecial 1, 3) := by decide +kernel
theorem dX7_init_4 : decode cX7_init 4 = .ok (.aload_n 0, 1) := by decide +kernel
theorem dX7_init_5 : decode cX7_init 5 = .ok (.bipush 40, 2) := by decide +kernel
theorem dX7_init_7 : decode cX7_init 7 = .ok (.newarray .int, 2) := by decide +kernel
theorem dX7_init_9 : decode cX7_init 9 = .ok (.putfield 9, 3) := by decide +kernel
theorem dX7_init_12 : decode cX7_init 12 = .ok (.aload_n 0, 1) := by decide +kernel
theorem dX7_init_13 : decode cX7_init 13 = .ok (.sipush 8000, 3) := by decide +kernel
theorem dX7_init_16 : decode cX7_init 16 = .ok (.newarray .byte, 2) := by decide +kernel
theorem dX7_init_18 : decode cX7_init 18 = .ok (.putfield 13, 3) := by decide +kernel
theorem dX7_init_21 : decode cX7_init 21 = .ok (.aload_n 0, 1) := by decide +kernel
theorem dX7_init_22 : decode cX7_init 22 = .ok (.bipush 20, 2) := by decide +kernel
theorem dX7_init_24 : decode cX7_init 24 = .ok (.newarray .int, 2) := by decide +kernel
theorem dX7_init_26 : decode cX7_init 26 = .ok (.putfield 17, 3) := by decide +kernel
theorem dX7_init_29 : decode cX7_init 29 = .ok (.aload_n 0, 1) := by decide +kernel
theorem dX7_init_30 : decode cX7_init 30 = .ok (.bipush 20, 2) := by decide +kernel
theorem dX7_init_32 : decode cX7_init 32 = .ok (.newarray .int, 2) := by decide +kernel
theorem dX7_init_34 : decode cX7_init 34 = .ok (.putfield 20, 3) := by decide +kernel
theorem dX7_init_37 : decode cX7_init 37 = .ok (.aload_n 0, 1) := by decide +kernel
theorem dX7_init_38 : decode cX7_init 38 = .ok (.bipush 20, 2) := by decide +kernel
theorem dX7_init_40 : decode cX7_init 40 = .ok (.newarray .boolean, 2) := by decide +kernel
theorem dX7_init_42 : decode cX7_init 42 = .ok (.putfield 23, 3) := by decide +kernel
theorem dX7_init_45 : decode cX7_init 45 = .ok (.aload_n 0, 1) := by decide +kernel
theorem dX7_init_46 : decode cX7_init 46 = .ok (.sipush 400, 3) := by decide +kernel
theorem dX7_init_49 : decode cX7_init 49 = .ok (.newarray .boolean, 2) := by decide +kernel
theorem dX7_init_51 : decode cX7_init 51 = .ok (.putfield 27, 3) := by decide +kernel
theorem dX7_init_54 : decode cX7_init 54 = .ok (.aload_n 0, 1) := by decide +kernel
theorem dX7_init_55 : decode cX7_init 55 = .ok (.sipush 200, 3) := by decide +kernel
theorem dX7_init_58 : decode cX7_init 58 = .ok (.newarray .int, 2) := by decide +kernel
theorem dX7_init_60 : decode cX7_init 60 = .ok (.putfield 30, 3) := by decide +kernel
theorem dX7_init_63 : decode cX7_init 63 = .ok (.aload_n 0, 1) := by decide +kernel
theorem dX7_init_64 : decode cX7_init 64 = .ok (.sipush 200, 3) := by decide +kernel
theorem dX7_init_67 : decode cX7_init 67 = .ok (.newarray .int, 2) := by decide +kernel
theorem dX7_init_69 : decode cX7_init 69 = .ok (.putfield 33, 3) := by decide +kernel
theorem dX7_init_72 : decode cX7_init 72 = .ok (.aload_n 0, 1) := by decide +kernel
theorem dX7_init_73 : decode cX7_init 73 = .ok (.sipush 200, 3) := by decide +kernel
theorem dX7_init_76 : decode cX7_init 76 = .ok (.newarray .int, 2) := by decide +kernel
theorem dX7_init_78 : decode cX7_init 78 = .ok (.putfield 36, 3) := by decide +kernel
theorem dX7_init_81 : decode cX7_init 81 = .ok (.aload_n 0, 1) := by decide +kernel
theorem dX7_init_82 : decode cX7_init 82 = .ok (.sipush 200, 3) := by decide +kernel
theorem dX7_init_85 : decode cX7_init 85 = .ok (.newarray .int, 2) := by decide +kernel
theorem dX7_init_87 : decode cX7_init 87 = .ok (.putfield 39, 3) := by decide +kernel
theorem dX7_init_90 : decode cX7_init 90 = .ok (.aload_n 0, 1) := by decide +kernel
theorem dX7_init_91 : decode cX7_init 91 = .ok (.sipush 200, 3) := by decide +kernel
theorem dX7_init_94 : decode cX7_init 94 = .ok (.newarray .boolean, 2) := by decide +kernel
theorem dX7_init_96 : decode cX7_init 96 = .ok (.putfield 42, 3) := by decide +kernel
theorem dX7_init_99 : decode cX7_init 99 = .ok (.aload_n 0, 1) := by decide +kernel
theorem dX7_init_100 : decode cX7_init 100 = .ok (.sipush 200, 3) := by decide +kernel
theorem dX7_init_103 : decode cX7_init 103 = .ok (.newarray .int, 2) := by decide +kernel
theorem dX7_init_105 : decode cX7_init 105 = .ok (.putfield 45, 3) := by decide +kernel
theorem dX7_init_108 : decode cX7_init 108 = .ok (.aload_n 0, 1) := by decide +kernel
theorem dX7_init_109 : decode cX7_init 109 = .ok (.sipush 200, 3) := by decide +kernel
theorem dX7_init_112 : decode cX7_init 112 = .ok (.newarray .int, 2) := by decide +kernel
theorem dX7_init_114 : decode cX7_init 114 = .ok (.putfield 48, 3) := by decide +kernel
theorem dX7_init_117 : decode cX7_init 117 = .ok (.aload_n 0, 1) := by decide +kernel
theorem dX7_init_118 : decode cX7_init 118 = .ok (.sipush 200, 3) := by decide +kernel
theorem dX7_init_121 : decode cX7_init 121 = .ok (.newarray .int, 2) := by decide +kernel
theorem dX7_init_123 : decode cX7_init 123 = .ok (.putfield 51, 3) := by decide +kernel
theorem dX7_init_126 : decode cX7_init 126 = .ok (.aload_n 0, 1) := by decide +kernel
theorem dX7_init_127 : decode cX7_init 127 = .ok (.sipush 2400, 3) := by decide +kernel
theorem dX7_init_130 : decode cX7_init 130 = .ok (.newarray .int, 2) := by decide +kernel
theorem dX7_init_132 : decode cX7_init 132 = .ok (.putfield 54, 3) := by decide +kernel
theorem dX7_init_135 : decode cX7_init 135 = .ok (.aload_n 0, 1) := by decide +kernel
theorem dX7_init_136 : decode cX7_init 136 = .ok (.sipush 2400, 3) := by decide +kernel
theorem dX7_init_139 : decode cX7_init 139 = .ok (.newarray .int, 2) := by decide +kernel
theorem dX7_init_141 : decode cX7_init 141 = .ok (.putfield 57, 3) := by decide +kernel
theorem dX7_init_144 : decode cX7_init 144 = .ok (.aload_n 0, 1) := by decide +kernel
theorem dX7_init_145 : decode cX7_init 145 = .ok (.sipush 200, 3) := by decide +kernel
theorem dX7_init_148 : decode cX7_init 148 = .ok (.newarray .int, 2) := by decide +kernel
theorem dX7_init_150 : decode cX7_init 150 = .ok (.putfield 60, 3) := by decide +kernel
theorem dX7_init_153 : decode cX7_init 153 = .ok (.aload_n 0, 1) := by decide +kernel
theorem dX7_init_154 : decode cX7_init 154 = .ok (.sipush 200, 3) := by decide +kernel
theorem dX7_init_157 : decode cX7_init 157 = .ok (.newarray .boolean, 2) := by decide +kernel
theorem dX7_init_159 : decode cX7_init 159 = .ok (.putfield 63, 3) := by decide +kernel
theorem dX7_init_162 : decode cX7_init 162 = .ok (.aload_n 0, 1) := by decide +kernel
theorem dX7_init_163 : decode cX7_init 163 = .ok (.sipush 200, 3) := by decide +kernel
theorem dX7_init_166 : decode cX7_init 166 = .ok (.newarray .boolean, 2) := by decide +kernel
theorem dX7_init_168 : decode cX7_init 168 = .ok (.putfield 66, 3) := by decide +kernel
theorem dX7_init_171 : decode cX7_init 171 = .ok (.aload_n 0, 1) := by decide +kernel
theorem dX7_init_172 : decode cX7_init 172 = .ok (.sipush 200, 3) := by decide +kernel
theorem dX7_init_175 : decode cX7_init 175 = .ok (.newarray .boolean, 2) := by decide +kernel
theorem dX7_init_177 : decode cX7_init 177 = .ok (.putfield 69, 3) := by decide +kernel
theorem dX7_init_180 : decode cX7_init 180 = .ok (.aload_n 0, 1) := by decide +kernel
theorem dX7_init_181 : decode cX7_init 181 = .ok (.sipush 200, 3) := by decide +kernel
theorem dX7_init_184 : decode cX7_init 184 = .ok (.newarray .boolean, 2) := by decide +kernel
theorem dX7_init_186 : decode cX7_init 186 = .ok (.putfield 72, 3) := by decide +kernel
theorem dX7_init_189 : decode cX7_init 189 = .ok (.aload_n 0, 1) := by decide +kernel
theorem dX7_init_190 : decode cX7_init 190 = .ok (.sipush 200, 3) := by decide +kernel
theorem dX7_init_193 : decode cX7_init 193 = .ok (.newarray .boolean, 2) := by decide +kernel
theorem dX7_init_195 : decode cX7_init 195 = .ok (.putfield 75, 3) := by decide +kernel
theorem dX7_init_198 : decode cX7_init 198 = .ok (.aload_n 0, 1) := by decide +kernel
theorem dX7_init_199 : decode cX7_init 199 = .ok (.sipush 200, 3) := by decide +kernel
theorem dX7_init_202 : decode cX7_init 202 = .ok (.newarray .boolean, 2) := by decide +kernel
theorem dX7_init_204 : decode cX7_init 204 = .ok (.putfield 78, 3) := by decide +kernel
theorem dX7_init_207 : decode cX7_init 207 = .ok (.aload_n 0, 1) := by decide +kernel
theorem dX7_init_208 : decode cX7_init 208 = .ok (.sipush 200, 3) := by decide +kernel
theorem dX7_init_211 : decode cX7_init 211 = .ok (.newarray .boolean, 2) := by decide +kernel
theorem dX7_init_213 : decode cX7_init 213 = .ok (.putfield 81, 3) := by decide +kernel
theorem dX7_init_216 : decode cX7_init 216 = .ok (.aload_n 0, 1) := by decide +kernel
theorem dX7_init_217 : decode cX7_init 217 = .ok (.sipush 200, 3) := by decide +kernel
theorem dX7_init_220 : decode cX7_init 220 = .ok (.newarray .boolean, 2) := by decide +kernel
theorem dX7_init_222 : decode cX7_init 222 = .ok (.putfield 84, 3) := by decide +kernel
theorem dX7_init_225 : decode cX7_init 225 = .ok (.aload_n 0, 1) := by decide +kernel
theorem dX7_init_226 : decode cX7_init 226 = .ok (.sipush 200, 3) := by decide +kernel
theorem dX7_init_229 : decode cX7_init 229 = .ok (.newarray .boolean, 2) := by decide +kernel
theorem dX7_init_231 : decode cX7_init 231 = .ok (.putfield 87, 3) := by decide +kernel
theorem dX7_init_234 : decode cX7_init 234 = .ok (.aload_n 0, 1) := by decide +kernel
theorem dX7_init_235 : decode cX7_init 235 = .ok (.sipush 200, 3) := by decide +kernel
theorem dX7_init_238 : decode cX7_init 238 = .ok (.newarray .int, 2) := by decide +kernel
theorem dX7_init_240 : decode cX7_init 240 = .ok (.putfield 90, 3) := by decide +kernel
theorem dX7_init_243 : decode cX7_init 243 = .ok (.aload_n 0, 1) := by decide +kernel
theorem dX7_init_244 : decode cX7_init 244 = .ok (.sipush 200, 3) := by decide +kernel
theorem dX7_init_247 : decode cX7_init 247 = .ok (.newarray .int, 2) := by decide +kernel
theorem dX7_init_249 : decode cX7_init 249 = .ok (.putfield 93, 3) := by decide +kernel
theorem dX7_init_252 : decode cX7_init 252 = .ok (.aload_n 0, 1) := by decide +kernel
theorem dX7_init_253 : decode cX7_init 253 = .ok (.sipush 200, 3) := by decide +kernel
theorem dX7_init_256 : decode cX7_init 256 = .ok (.newarray .int, 2) := by decide +kernel
theorem dX7_init_258 : decode cX7_init 258 = .ok (.putfield 96, 3) := by decide +kernel
theorem dX7_init_261 : decode cX7_init 261 = .ok (.aload_n 0, 1) := by decide +kernel
theorem dX7_init_262 : decode cX7_init 262 = .ok (.sipush 200, 3) := by decide +kernel
theorem dX7_init_265 : decode cX7_init 265 = .ok (.newarray .int, 2) := by decide +kernel
theorem dX7_init_267 : decode cX7_init 267 = .ok (.putfield 99, 3) := by decide +kernel
theorem dX7_init_270 : decode cX7_init 270 = .ok (.aload_n 0, 1) := by decide +kernel
theorem dX7_init_271 : decode cX7_init 271 = .ok (.sipush 200, 3) := by decide +kernel
theorem dX7_init_274 : decode cX7_init 274 = .ok (.newarray .int, 2) := by decide +kernel
theorem dX7_init_276 : decode cX7_init 276 = .ok (.putfield 102, 3) := by decide +kernel
theorem dX7_init_279 : decode cX7_init 279 = .ok (.aload_n 0, 1) := by decide +kernel
theorem dX7_init_280 : decode cX7_init 280 = .ok (.sipush 200, 3) := by decide +kernel
theorem dX7_init_283 : decode cX7_init 283 = .ok (.newarray .int, 2) := by decide +kernel
theorem dX7_init_285 : decode cX7_init 285 = .ok (.putfield 105, 3) := by decide +kernel
theorem dX7_init_288 : decode cX7_init 288 = .ok (.aload_n 0, 1) := by decide +kernel
theorem dX7_init_289 : decode cX7_init 289 = .ok (.sipush 200, 3) := by decide +kernel
theorem dX7_init_292 : decode cX7_init 292 = .ok (.newarray .long, 2) := by decide +kernel
theorem dX7_init_294 : decode cX7_init 294 = .ok (.putfield 108, 3) := by decide +kernel
theorem dX7_init_297 : decode cX7_init 297 = .ok (.aload_n 0, 1) := by decide +kernel
theorem dX7_init_298 : decode cX7_init 298 = .ok (.sipush 8000, 3) := by decide +kernel
theorem dX7_init_301 : decode cX7_init 301 = .ok (.newarray .boolean, 2) := by decide +kernel
theorem dX7_init_303 : decode cX7_init 303 = .ok (.putfield 112, 3) := by decide +kernel
theorem dX7_init_306 : decode cX7_init 306 = .ok (.aload_n 0, 1) := by decide +kernel
theorem dX7_init_307 : decode cX7_init 307 = .ok (.sipush 201, 3) := by decide +kernel
theorem dX7_init_310 : decode cX7_init 310 = .ok (.newarray .int, 2) := by decide +kernel
theorem dX7_init_312 : decode cX7_init 312 = .ok (.putfield 115, 3) := by decide +kernel
theorem dX7_init_315 : decode cX7_init 315 = .ok (.aload_n 0, 1) := by decide +kernel
theorem dX7_init_316 : decode cX7_init 316 = .ok (.sipush 200, 3) := by decide +kernel
theorem dX7_init_319 : decode cX7_init 319 = .ok (.newarray .int, 2) := by decide +kernel
theorem dX7_init_321 : decode cX7_init 321 = .ok (.putfield 118, 3) := by decide +kernel
theorem dX7_init_324 : decode cX7_init 324 = .ok (.aload_n 0, 1) := by decide +kernel
theorem dX7_init_325 : decode cX7_init 325 = .ok (.sipush 200, 3) := by decide +kernel
theorem dX7_init_328 : decode cX7_init 328 = .ok (.newarray .int, 2) := by decide +kernel
theorem dX7_init_330 : decode cX7_init 330 = .ok (.putfield 121, 3) := by decide +kernel
theorem dX7_init_333 : decode cX7_init 333 = .ok (.aload_n 0, 1) := by decide +kernel
theorem dX7_init_334 : decode cX7_init 334 = .ok (.sipush 200, 3) := by decide +kernel
theorem dX7_init_337 : decode cX7_init 337 = .ok (.newarray .boolean, 2) := by decide +kernel
theorem dX7_init_339 : decode cX7_init 339 = .ok (.putfield 124, 3) := by decide +kernel
theorem dX7_init_342 : decode cX7_init 342 = .ok (.return_, 1) := by decide +kernel
theorem dX7_thrown_0 : decode cX7_thrown 0 = .ok (.aload_n 0, 1) := by decide +kernel
theorem dX7_thrown_1 : decode cX7_thrown 1 = .ok (.getfield 127, 3) := by decide +kernel
theorem dX7_thrown_4 : decode cX7_thrown 4 = .ok (.ireturn, 1) := by decide +kernel
theorem dX7_throwsIf_0 : decode cX7_throwsIf 0 = .ok (.iload_n 1, 1) := by decide +kernel
theorem dX7_throwsIf_1 : decode cX7_throwsIf 1 = .ok (.ifCond .eq 8, 3) := by decide +kernel
theorem dX7_throwsIf_4 : decode cX7_throwsIf 4 = .ok (.aload_n 0, 1) := by decide +kernel
theorem dX7_throwsIf_5 : decode cX7_throwsIf 5 = .ok (.iload_n 2, 1) := by decide +kernel
theorem dX7_throwsIf_6 : decode cX7_throwsIf 6 = .ok (.putfield 127, 3) := by decide +kernel
theorem dX7_throwsIf_9 : decode cX7_throwsIf 9 = .ok (.iload_n 1, 1) := by decide +kernel
theorem dX7_throwsIf_10 : decode cX7_throwsIf 10 = .ok (.ireturn, 1) := by decide +kernel
theorem dX7_noTrader_0 : decode cX7_noTrader 0 = .ok (.iload_n 1, 1) := by decide +kernel
theorem dX7_noTrader_1 : decode cX7_noTrader 1 = .ok (.ifCond .lt 11, 3) := by decide +kernel
theorem dX7_noTrader_4 : decode cX7_noTrader 4 = .ok (.iload_n 1, 1) := by decide +kernel
theorem dX7_noTrader_5 : decode cX7_noTrader 5 = .ok (.aload_n 0, 1) := by decide +kernel
theorem dX7_noTrader_6 : decode cX7_noTrader 6 = .ok (.getfield 131, 3) := by decide +kernel
theorem dX7_noTrader_9 : decode cX7_noTrader 9 = .ok (.if_icmp .lt 7, 3) := by decide +kernel
theorem dX7_noTrader_12 : decode cX7_noTrader 12 = .ok (.iconst 1, 1) := by decide +kernel
theorem dX7_noTrader_13 : decode cX7_noTrader 13 = .ok (.goto 4, 3) := by decide +kernel
theorem dX7_noTrader_16 : decode cX7_noTrader 16 = .ok (.iconst 0, 1) := by decide +kernel
theorem dX7_noTrader_17 : decode cX7_noTrader 17 = .ok (.ireturn, 1) := by decide +kernel
theorem dX7_noTrade_0 : decode cX7_noTrade 0 = .ok (.iload_n 1, 1) := by decide +kernel
theorem dX7_noTrade_1 : decode cX7_noTrade 1 = .ok (.ifCond .lt 11, 3) := by decide +kernel
theorem dX7_noTrade_4 : decode cX7_noTrade 4 = .ok (.iload_n 1, 1) := by decide +kernel
theorem dX7_noTrade_5 : decode cX7_noTrade 5 = .ok (.aload_n 0, 1) := by decide +kernel
theorem dX7_noTrade_6 : decode cX7_noTrade 6 = .ok (.getfield 134, 3) := by decide +kernel
theorem dX7_noTrade_9 : decode cX7_noTrade 9 = .ok (.if_icmp .lt 7, 3) := by decide +kernel
theorem dX7_noTrade_12 : decode cX7_noTrade 12 = .ok (.iconst 1, 1) := by decide +kernel
theorem dX7_noTrade_13 : decode cX7_noTrade 13 = .ok (.goto 4, 3) := by decide +kernel
theorem dX7_noTrade_16 : decode cX7_noTrade 16 = .ok (.iconst 0, 1) := by decide +kernel
theorem dX7_noTrade_17 : decode cX7_noTrade 17 = .ok (.ireturn, 1) := by decide +kernel
theorem dX7_noRow_0 : decode cX7_noRow 0 = .ok (.iload_n 0, 1) := by decide +kernel
theorem dX7_noRow_1 : decode cX7_noRow 1 = .ok (.ifCond .lt 9, 3) := by decide +kernel
theorem dX7_noRow_4 : decode cX7_noRow 4 = .ok (.iload_n 0, 1) := by decide +kernel
theorem dX7_noRow_5 : decode cX7_noRow 5 = .ok (.bipush 40, 2) := by decide +kernel
theorem dX7_noRow_7 : decode cX7_noRow 7 = .ok (.if_icmp .lt 7, 3) := by decide +kernel
theorem dX7_noRow_10 : decode cX7_noRow 10 = .ok (.iconst 1, 1) := by decide +kernel
theorem dX7_noRow_11 : decode cX7_noRow 11 = .ok (.goto 4, 3) := by decide +kernel
theorem dX7_noRow_14 : decode cX7_noRow 14 = .ok (.iconst 0, 1) := by decide +kernel
theorem dX7_noRow_15 : decode cX7_noRow 15 = .ok (.ireturn, 1) := by decide +kernel
set_option maxRecDepth 20000 in
theorem ggX7_isRow_X7_noRow : GoodIn wsX7_isRow wsX7_noRow := goodIn_r _ [5] (by decide +kernel) (by decide +kernel)
set_option maxRecDepth 20000 in
theorem gX7_isRow_X7_noRow : GoodIn wsX7_isRow (va_wsS RX7 137 yX7_noRow wsX7_noRow) := goodIn_app (goodIn_of _ (by decide +kernel)) ggX7_isRow_X7_noRow
theorem dX7_isRow_0 : decode cX7_isRow 0 = .ok (.iload_n 1, 1) := by decide +kernel
theorem dX7_isRow_1 : decode cX7_isRow 1 = .ok (.invokestatic 137, 3) := by decide +kernel
theorem dX7_isRow_4 : decode cX7_isRow 4 = .ok (.ifCond .ne 16, 3) := by decide +kernel
theorem dX7_isRow_7 : decode cX7_isRow 7 = .ok (.aload_n 0, 1) := by decide +kernel
theorem dX7_isRow_8 : decode cX7_isRow 8 = .ok (.getfield 9, 3) := by decide +kernel
theorem dX7_isRow_11 : decode cX7_isRow 11 = .ok (.iload_n 1, 1) := by decide +kernel
theorem dX7_isRow_12 : decode cX7_isRow 12 = .ok (.iaload, 1) := by decide +kernel
theorem dX7_isRow_13 : decode cX7_isRow 13 = .ok (.ifCond .le 7, 3) := by decide +kernel
theorem dX7_isRow_16 : decode cX7_isRow 16 = .ok (.iconst 1, 1) := by decide +kernel
theorem dX7_isRow_17 : decode cX7_isRow 17 = .ok (.goto 4, 3) := by decide +kernel
theorem dX7_isRow_20 : decode cX7_isRow 20 = .ok (.iconst 0, 1) := by decide +kernel
theorem dX7_isRow_21 : decode cX7_isRow 21 = .ok (.ireturn, 1) := by decide +kernel
theorem dX7_arePaired_0 : decode cX7_arePaired 0 = .ok (.aload_n 0, 1) := by decide +kernel
theorem dX7_arePaired_1 : decode cX7_arePaired 1 = .ok (.getfield 27, 3) := by decide +kernel
theorem dX7_arePaired_4 : decode cX7_arePaired 4 = .ok (.bipush 20, 2) := by decide +kernel
theorem dX7_arePaired_6 : decode cX7_arePaired 6 = .ok (.aload_n 0, 1) := by decide +kernel
theorem dX7_arePaired_7 : decode cX7_arePaired 7 = .ok (.getfield 33, 3) := by decide +kernel
theorem dX7_arePaired_10 : decode cX7_arePaired 10 = .ok (.iload_n 1, 1) := by decide +kernel
theorem dX7_arePaired_11 : decode cX7_arePaired 11 = .ok (.iaload, 1) := by decide +kernel
theorem dX7_arePaired_12 : decode cX7_arePaired 12 = .ok (.imul, 1) := by decide +kernel
theorem dX7_arePaired_13 : decode cX7_arePaired 13 = .ok (.aload_n 0, 1) := by decide +kernel
theorem dX7_arePaired_14 : decode cX7_arePaired 14 = .ok (.getfield 33, 3) := by decide +kernel
theorem dX7_arePaired_17 : decode cX7_arePaired 17 = .ok (.iload_n 2, 1) := by decide +kernel
theorem dX7_arePaired_18 : decode cX7_arePaired 18 = .ok (.iaload, 1) := by decide +kernel
theorem dX7_arePaired_19 : decode cX7_arePaired 19 = .ok (.iadd, 1) := by decide +kernel
theorem dX7_arePaired_20 : decode cX7_arePaired 20 = .ok (.baload, 1) := by decide +kernel
theorem dX7_arePaired_21 : decode cX7_arePaired 21 = .ok (.ireturn, 1) := by decide +kernel
theorem dX7_endOf_0 : decode cX7_endOf 0 = .ok (.aload_n 0, 1) := by decide +kernel
theorem dX7_endOf_1 : decode cX7_endOf 1 = .ok (.getfield 93, 3) := by decide +kernel
theorem dX7_endOf_4 : decode cX7_endOf 4 = .ok (.iload_n 1, 1) := by decide +kernel
theorem dX7_endOf_5 : decode cX7_endOf 5 = .ok (.iaload, 1) := by decide +kernel
theorem dX7_endOf_6 : decode cX7_endOf 6 = .ok (.aload_n 0, 1) := by decide +kernel
theorem dX7_endOf_7 : decode cX7_endOf 7 = .ok (.getfield 36, 3) := by decide +kernel
theorem dX7_endOf_10 : decode cX7_endOf 10 = .ok (.iload_n 1, 1) := by decide +kernel
theorem dX7_endOf_11 : decode cX7_endOf 11 = .ok (.iaload, 1) := by decide +kernel
theorem dX7_endOf_12 : decode cX7_endOf 12 = .ok (.iadd, 1) := by decide +kernel
theorem dX7_endOf_13 : decode cX7_endOf 13 = .ok (.ireturn, 1) := by decide +kernel
set_option maxRecDepth 20000 in
theorem ggX7_isWithin_X7_isRow : GoodIn wsX7_isWithin wsX7_isRow := goodIn_r _ [7, 2, 8, 9, 6, 10, 11, 12, 13, 14, 15, 16, 17, 18, 19, 20, 21, 22, 23, 24, 25, 26, 27, 28, 29, 30, 31, 32, 33, 34, 35, 36, 37, 38, 39, 40, 41, 42, 43, 44, 45, 46, 47, 48, 49, 50, 51, 52, 53, 54, 55, 56, 57, 58, 59, 60, 61] (by decide +kernel) (by decide +kernel)
set_option maxRecDepth 20000 in
theorem gX7_isWithin_X7_isRow : GoodIn wsX7_isWithin (wsV RX7 141 RX7 yX7_isRow wsX7_isRow) := goodIn_app (goodIn_of _ (by decide +kernel)) ggX7_isWithin_X7_isRow
theorem dX7_isWithin_0 : decode cX7_isWithin 0 = .ok (.aload_n 0, 1) := by decide +kernel
theorem dX7_isWithin_1 : decode cX7_isWithin 1 = .ok (.iload_n 2, 1) := by decide +kernel
theorem dX7_isWithin_2 : decode cX7_isWithin 2 = .ok (.invokevirtual 141, 3) := by decide +kernel
theorem dX7_isWithin_5 : decode cX7_isWithin 5 = .ok (.ifCond .eq 32, 3) := by decide +kernel
theorem dX7_isWithin_8 : decode cX7_isWithin 8 = .ok (.iload_n 3, 1) := by decide +kernel
theorem dX7_isWithin_9 : decode cX7_isWithin 9 = .ok (.ifCond .lt 28, 3) := by decide +kernel
theorem dX7_isWithin_12 : decode cX7_isWithin 12 = .ok (.iload_n 3, 1) := by decide +kernel
theorem dX7_isWithin_13 : decode cX7_isWithin 13 = .ok (.i2l, 1) := by decide +kernel
theorem dX7_isWithin_14 : decode cX7_isWithin 14 = .ok (.aload_n 0, 1) := by decide +kernel
theorem dX7_isWithin_15 : decode cX7_isWithin 15 = .ok (.getfield 36, 3) := by decide +kernel
theorem dX7_isWithin_18 : decode cX7_isWithin 18 = .ok (.iload_n 1, 1) := by decide +kernel
theorem dX7_isWithin_19 : decode cX7_isWithin 19 = .ok (.iaload, 1) := by decide +kernel
theorem dX7_isWithin_20 : decode cX7_isWithin 20 = .ok (.i2l, 1) := by decide +kernel
theorem dX7_isWithin_21 : decode cX7_isWithin 21 = .ok (.ladd, 1) := by decide +kernel
theorem dX7_isWithin_22 : decode cX7_isWithin 22 = .ok (.aload_n 0, 1) := by decide +kernel
theorem dX7_isWithin_23 : decode cX7_isWithin 23 = .ok (.getfield 9, 3) := by decide +kernel
theorem dX7_isWithin_26 : decode cX7_isWithin 26 = .ok (.iload_n 2, 1) := by decide +kernel
theorem dX7_isWithin_27 : decode cX7_isWithin 27 = .ok (.iaload, 1) := by decide +kernel
theorem dX7_isWithin_28 : decode cX7_isWithin 28 = .ok (.i2l, 1) := by decide +kernel
theorem dX7_isWithin_29 : decode cX7_isWithin 29 = .ok (.lcmp, 1) := by decide +kernel
theorem dX7_isWithin_30 : decode cX7_isWithin 30 = .ok (.ifCond .gt 7, 3) := by decide +kernel
theorem dX7_isWithin_33 : decode cX7_isWithin 33 = .ok (.iconst 1, 1) := by decide +kernel
theorem dX7_isWithin_34 : decode cX7_isWithin 34 = .ok (.goto 4, 3) := by decide +kernel
theorem dX7_isWithin_37 : decode cX7_isWithin 37 = .ok (.iconst 0, 1) := by decide +kernel
theorem dX7_isWithin_38 : decode cX7_isWithin 38 = .ok (.ireturn, 1) := by decide +kernel
theorem dX7_isMarked_0 : decode cX7_isMarked 0 = .ok (.iconst 0, 1) := by decide +kernel
theorem dX7_isMarked_1 : decode cX7_isMarked 1 = .ok (.istore 5, 2) := by decide +kernel
theorem dX7_isMarked_3 : decode cX7_isMarked 3 = .ok (.iload_n 3, 1) := by decide +kernel
theorem dX7_isMarked_4 : decode cX7_isMarked 4 = .ok (.istore 6, 2) := by decide +kernel
theorem dX7_isMarked_6 : decode cX7_isMarked 6 = .ok (.iload 6, 2) := by decide +kernel
theorem dX7_isMarked_8 : decode cX7_isMarked 8 = .ok (.iload_n 3, 1) := by decide +kernel
theorem dX7_isMarked_9 : decode cX7_isMarked 9 = .ok (.aload_n 0, 1) := by decide +kernel
theorem dX7_isMarked_10 : decode cX7_isMarked 10 = .ok (.getfield 36, 3) := by decide +kernel
theorem dX7_isMarked_13 : decode cX7_isMarked 13 = .ok (.iload_n 1, 1) := by decide +kernel
theorem dX7_isMarked_14 : decode cX7_isMarked 14 = .ok (.iaload, 1) := by decide +kernel
theorem dX7_isMarked_15 : decode cX7_isMarked 15 = .ok (.iadd, 1) := by decide +kernel
theorem dX7_isMarked_16 : decode cX7_isMarked 16 = .ok (.if_icmp .ge 40, 3) := by decide +kernel
theorem dX7_isMarked_19 : decode cX7_isMarked 19 = .ok (.iload 5, 2) := by decide +kernel
theorem dX7_isMarked_21 : decode cX7_isMarked 21 = .ok (.ifCond .ne 22, 3) := by decide +kernel
theorem dX7_isMarked_24 : decode cX7_isMarked 24 = .ok (.aload_n 0, 1) := by decide +kernel
theorem dX7_isMarked_25 : decode cX7_isMarked 25 = .ok (.getfield 13, 3) := by decide +kernel
theorem dX7_isMarked_28 : decode cX7_isMarked 28 = .ok (.sipush 200, 3) := by decide +kernel
theorem dX7_isMarked_31 : decode cX7_isMarked 31 = .ok (.iload_n 2, 1) := by decide +kernel
theorem dX7_isMarked_32 : decode cX7_isMarked 32 = .ok (.imul, 1) := by decide +kernel
theorem dX7_isMarked_33 : decode cX7_isMarked 33 = .ok (.iload 6, 2) := by decide +kernel
theorem dX7_isMarked_35 : decode cX7_isMarked 35 = .ok (.iadd, 1) := by decide +kernel
theorem dX7_isMarked_36 : decode cX7_isMarked 36 = .ok (.baload, 1) := by decide +kernel
theorem dX7_isMarked_37 : decode cX7_isMarked 37 = .ok (.iload 4, 2) := by decide +kernel
theorem dX7_isMarked_39 : decode cX7_isMarked 39 = .ok (.iand, 1) := by decide +kernel
theorem dX7_isMarked_40 : decode cX7_isMarked 40 = .ok (.ifCond .eq 7, 3) := by decide +kernel
theorem dX7_isMarked_43 : decode cX7_isMarked 43 = .ok (.iconst 1, 1) := by decide +kernel
theorem dX7_isMarked_44 : decode cX7_isMarked 44 = .ok (.goto 4, 3) := by decide +kernel
theorem dX7_isMarked_47 : decode cX7_isMarked 47 = .ok (.iconst 0, 1) := by decide +kernel
theorem dX7_isMarked_48 : decode cX7_isMarked 48 = .ok (.istore 5, 2) := by decide +kernel
theorem dX7_isMarked_50 : decode cX7_isMarked 50 = .ok (.iinc 6 1, 3) := by decide +kernel
theorem dX7_isMarked_53 : decode cX7_isMarked 53 = .ok (.goto (-47), 3) := by decide +kernel
theorem dX7_isMarked_56 : decode cX7_isMarked 56 = .ok (.iload 5, 2) := by decide +kernel
theorem dX7_isMarked_58 : decode cX7_isMarked 58 = .ok (.ireturn, 1) := by decide +kernel
set_option maxRecDepth 20000 in
theorem ggX7_meets_X7_endOf : GoodIn wsX7_meets wsX7_endOf := goodIn_r _ [8, 2, 3, 9, 10, 11, 12, 13, 14, 15, 16, 17, 18, 19, 20, 21, 22, 23, 24, 25, 26, 27, 28, 29, 30, 31, 32, 33, 34, 35, 36, 37, 38, 39, 40, 41, 42, 43, 44, 45, 46, 47, 48, 49, 50, 51, 52, 53, 54, 55, 56, 57, 58, 59] (by decide +kernel) (by decide +kernel)
set_option maxRecDepth 20000 in
theorem gX7_meets_X7_endOf : GoodIn wsX7_meets (wsV RX7 144 RX7 yX7_endOf wsX7_endOf) := goodIn_app (goodIn_of _ (by decide +kernel)) ggX7_meets_X7_endOf
theorem dX7_meets_0 : decode cX7_meets 0 = .ok (.aload_n 0, 1) := by decide +kernel
theorem dX7_meets_1 : decode cX7_meets 1 = .ok (.getfield 90, 3) := by decide +kernel
theorem dX7_meets_4 : decode cX7_meets 4 = .ok (.iload_n 2, 1) := by decide +kernel
theorem dX7_meets_5 : decode cX7_meets 5 = .ok (.iaload, 1) := by decide +kernel
theorem dX7_meets_6 : decode cX7_meets 6 = .ok (.iload_n 3, 1) := by decide +kernel
theorem dX7_meets_7 : decode cX7_meets 7 = .ok (.if_icmp .ne 35, 3) := by decide +kernel
theorem dX7_meets_10 : decode cX7_meets 10 = .ok (.aload_n 0, 1) := by decide +kernel
theorem dX7_meets_11 : decode cX7_meets 11 = .ok (.getfield 93, 3) := by decide +kernel
theorem dX7_meets_14 : decode cX7_meets 14 = .ok (.iload_n 2, 1) := by decide +kernel
theorem dX7_meets_15 : decode cX7_meets 15 = .ok (.iaload, 1) := by decide +kernel
theorem dX7_meets_16 : decode cX7_meets 16 = .ok (.iload 4, 2) := by decide +kernel
theorem dX7_meets_18 : decode cX7_meets 18 = .ok (.aload_n 0, 1) := by decide +kernel
theorem dX7_meets_19 : decode cX7_meets 19 = .ok (.getfield 36, 3) := by decide +kernel
theorem dX7_meets_22 : decode cX7_meets 22 = .ok (.iload_n 1, 1) := by decide +kernel
theorem dX7_meets_23 : decode cX7_meets 23 = .ok (.iaload, 1) := by decide +kernel
theorem dX7_meets_24 : decode cX7_meets 24 = .ok (.iadd, 1) := by decide +kernel
theorem dX7_meets_25 : decode cX7_meets 25 = .ok (.if_icmp .ge 17, 3) := by decide +kernel
theorem dX7_meets_28 : decode cX7_meets 28 = .ok (.aload_n 0, 1) := by decide +kernel
theorem dX7_meets_29 : decode cX7_meets 29 = .ok (.iload_n 2, 1) := by decide +kernel
theorem dX7_meets_30 : decode cX7_meets 30 = .ok (.invokevirtual 144, 3) := by decide +kernel
theorem dX7_meets_33 : decode cX7_meets 33 = .ok (.iload 4, 2) := by decide +kernel
theorem dX7_meets_35 : decode cX7_meets 35 = .ok (.if_icmp .le 7, 3) := by decide +kernel
theorem dX7_meets_38 : decode cX7_meets 38 = .ok (.iconst 1, 1) := by decide +kernel
theorem dX7_meets_39 : decode cX7_meets 39 = .ok (.goto 4, 3) := by decide +kernel
theorem dX7_meets_42 : decode cX7_meets 42 = .ok (.iconst 0, 1) := by decide +kernel
theorem dX7_meets_43 : decode cX7_meets 43 = .ok (.ireturn, 1) := by decide +kernel
set_option maxRecDepth 20000 in
theorem ggX7_isBeside_X7_endOf : GoodIn wsX7_isBeside wsX7_endOf := goodIn_r _ [8, 2, 3, 9, 10, 11, 12, 13, 14, 15, 16, 17, 18, 19, 20, 21, 22, 23, 24, 25, 26, 27, 28, 29, 30, 31, 32, 33, 34, 35, 36, 37, 38, 39, 40, 41, 42, 43, 44, 45, 46, 47, 48, 49, 50, 51, 52, 53, 54, 55, 56, 57, 58, 59] (by decide +kernel) (by decide +kernel)
set_option maxRecDepth 20000 in
theorem gX7_isBeside_X7_endOf : GoodIn wsX7_isBeside (wsV RX7 144 RX7 yX7_endOf wsX7_endOf) := goodIn_app (goodIn_of _ (by decide +kernel)) ggX7_isBeside_X7_endOf
theorem dX7_isBeside_0 : decode cX7_isBeside 0 = .ok (.aload_n 0, 1) := by decide +kernel
theorem dX7_isBeside_1 : decode cX7_isBeside 1 = .ok (.getfield 90, 3) := by decide +kernel
theorem dX7_isBeside_4 : decode cX7_isBeside 4 = .ok (.iload_n 2, 1) := by decide +kernel
theorem dX7_isBeside_5 : decode cX7_isBeside 5 = .ok (.iaload, 1) := by decide +kernel
theorem dX7_isBeside_6 : decode cX7_isBeside 6 = .ok (.iload_n 3, 1) := by decide +kernel
theorem dX7_isBeside_7 : decode cX7_isBeside 7 = .ok (.if_icmp .ne 35, 3) := by decide +kernel
theorem dX7_isBeside_10 : decode cX7_isBeside 10 = .ok (.aload_n 0, 1) := by decide +kernel
theorem dX7_isBeside_11 : decode cX7_isBeside 11 = .ok (.iload_n 2, 1) := by decide +kernel
theorem dX7_isBeside_12 : decode cX7_isBeside 12 = .ok (.invokevirtual 144, 3) := by decide +kernel
theorem dX7_isBeside_15 : decode cX7_isBeside 15 = .ok (.iload 4, 2) := by decide +kernel
theorem dX7_isBeside_17 : decode cX7_isBeside 17 = .ok (.if_icmp .eq 21, 3) := by decide +kernel
theorem dX7_isBeside_20 : decode cX7_isBeside 20 = .ok (.aload_n 0, 1) := by decide +kernel
theorem dX7_isBeside_21 : decode cX7_isBeside 21 = .ok (.getfield 93, 3) := by decide +kernel
theorem dX7_isBeside_24 : decode cX7_isBeside 24 = .ok (.iload_n 2, 1) := by decide +kernel
theorem dX7_isBeside_25 : decode cX7_isBeside 25 = .ok (.iaload, 1) := by decide +kernel
theorem dX7_isBeside_26 : decode cX7_isBeside 26 = .ok (.iload 4, 2) := by decide +kernel
theorem dX7_isBeside_28 : decode cX7_isBeside 28 = .ok (.aload_n 0, 1) := by decide +kernel
theorem dX7_isBeside_29 : decode cX7_isBeside 29 = .ok (.getfield 36, 3) := by decide +kernel
theorem dX7_isBeside_32 : decode cX7_isBeside 32 = .ok (.iload_n 1, 1) := by decide +kernel
theorem dX7_isBeside_33 : decode cX7_isBeside 33 = .ok (.iaload, 1) := by decide +kernel
theorem dX7_isBeside_34 : decode cX7_isBeside 34 = .ok (.iadd, 1) := by decide +kernel
theorem dX7_isBeside_35 : decode cX7_isBeside 35 = .ok (.if_icmp .ne 7, 3) := by decide +kernel
theorem dX7_isBeside_38 : decode cX7_isBeside 38 = .ok (.iconst 1, 1) := by decide +kernel
theorem dX7_isBeside_39 : decode cX7_isBeside 39 = .ok (.goto 4, 3) := by decide +kernel
theorem dX7_isBeside_42 : decode cX7_isBeside 42 = .ok (.iconst 0, 1) := by decide +kernel
theorem dX7_isBeside_43 : decode cX7_isBeside 43 = .ok (.ireturn, 1) := by decide +kernel
set_option maxRecDepth 20000 in
theorem ggX7_isOpposite_X7_endOf : GoodIn wsX7_isOpposite wsX7_endOf := goodIn_r _ [8, 2, 3, 9, 10, 11, 12, 13, 14, 15, 16, 17, 18, 19, 20, 21, 22, 23, 24, 25, 26, 27, 28, 29, 30, 31, 32, 33, 34, 35, 36, 37, 38, 39, 40, 41, 42, 43, 44, 45, 46, 47, 48, 49, 50, 51, 52, 53, 54, 55, 56, 57, 58, 59] (by decide +kernel) (by decide +kernel)
set_option maxRecDepth 20000 in
theorem gX7_isOpposite_X7_endOf : GoodIn wsX7_isOpposite (wsV RX7 144 RX7 yX7_endOf wsX7_endOf) := goodIn_app (goodIn_of _ (by decide +kernel)) ggX7_isOpposite_X7_endOf
theorem dX7_isOpposite_0 : decode cX7_isOpposite 0 = .ok (.aload_n 0, 1) := by decide +kernel
theorem dX7_isOpposite_1 : decode cX7_isOpposite 1 = .ok (.getfield 90, 3) := by decide +kernel
theorem dX7_isOpposite_4 : decode cX7_isOpposite 4 = .ok (.iload_n 2, 1) := by decide +kernel
theorem dX7_isOpposite_5 : decode cX7_isOpposite 5 = .ok (.iaload, 1) := by decide +kernel
theorem dX7_isOpposite_6 : decode cX7_isOpposite 6 = .ok (.iconst 1, 1) := by decide +kernel
theorem dX7_isOpposite_7 : decode cX7_isOpposite 7 = .ok (.ixor, 1) := by decide +kernel
theorem dX7_isOpposite_8 : decode cX7_isOpposite 8 = .ok (.iload_n 3, 1) := by decide +kernel
theorem dX7_isOpposite_9 : decode cX7_isOpposite 9 = .ok (.if_icmp .ne 35, 3) := by decide +kernel
theorem dX7_isOpposite_12 : decode cX7_isOpposite 12 = .ok (.aload_n 0, 1) := by decide +kernel
theorem dX7_isOpposite_13 : decode cX7_isOpposite 13 = .ok (.getfield 93, 3) := by decide +kernel
theorem dX7_isOpposite_16 : decode cX7_isOpposite 16 = .ok (.iload_n 2, 1) := by decide +kernel
theorem dX7_isOpposite_17 : decode cX7_isOpposite 17 = .ok (.iaload, 1) := by decide +kernel
theorem dX7_isOpposite_18 : decode cX7_isOpposite 18 = .ok (.iload 4, 2) := by decide +kernel
theorem dX7_isOpposite_20 : decode cX7_isOpposite 20 = .ok (.aload_n 0, 1) := by decide +kernel
theorem dX7_isOpposite_21 : decode cX7_isOpposite 21 = .ok (.getfield 36, 3) := by decide +kernel
theorem dX7_isOpposite_24 : decode cX7_isOpposite 24 = .ok (.iload_n 1, 1) := by decide +kernel
theorem dX7_isOpposite_25 : decode cX7_isOpposite 25 = .ok (.iaload, 1) := by decide +kernel
theorem dX7_isOpposite_26 : decode cX7_isOpposite 26 = .ok (.iadd, 1) := by decide +kernel
theorem dX7_isOpposite_27 : decode cX7_isOpposite 27 = .ok (.if_icmp .ge 17, 3) := by decide +kernel
theorem dX7_isOpposite_30 : decode cX7_isOpposite 30 = .ok (.aload_n 0, 1) := by decide +kernel
theorem dX7_isOpposite_31 : decode cX7_isOpposite 31 = .ok (.iload_n 2, 1) := by decide +kernel
theorem dX7_isOpposite_32 : decode cX7_isOpposite 32 = .ok (.invokevirtual 144, 3) := by decide +kernel
theorem dX7_isOpposite_35 : decode cX7_isOpposite 35 = .ok (.iload 4, 2) := by decide +kernel
theorem dX7_isOpposite_37 : decode cX7_isOpposite 37 = .ok (.if_icmp .le 7, 3) := by decide +kernel
theorem dX7_isOpposite_40 : decode cX7_isOpposite 40 = .ok (.iconst 1, 1) := by decide +kernel
theorem dX7_isOpposite_41 : decode cX7_isOpposite 41 = .ok (.goto 4, 3) := by decide +kernel
theorem dX7_isOpposite_44 : decode cX7_isOpposite 44 = .ok (.iconst 0, 1) := by decide +kernel
theorem dX7_isOpposite_45 : decode cX7_isOpposite 45 = .ok (.ireturn, 1) := by decide +kernel
set_option maxRecDepth 20000 in
theorem ggX7_isNear_X7_endOf : GoodIn wsX7_isNear wsX7_endOf := goodIn_r _ [8, 2, 3, 9, 10, 11, 12, 13, 14, 15, 16, 17, 18, 19, 20, 21, 22, 23, 24, 25, 26, 27, 28, 29, 30, 31, 32, 33, 34, 35, 36, 37, 38, 39, 40, 41, 42, 43, 44, 45, 46, 47, 48, 49, 50, 51, 52, 53, 54, 55, 56, 57, 58, 59] (by decide +kernel) (by decide +kernel)
set_option maxRecDepth 20000 in
theorem gX7_isNear_X7_endOf : GoodIn wsX7_isNear (wsV RX7 144 RX7 yX7_endOf wsX7_endOf) := goodIn_app (goodIn_of _ (by decide +kernel)) ggX7_isNear_X7_endOf
theorem dX7_isNear_0 : decode cX7_isNear 0 = .ok (.aload_n 0, 1) := by decide +kernel
theorem dX7_isNear_1 : decode cX7_isNear 1 = .ok (.getfield 90, 3) := by decide +kernel
theorem dX7_isNear_4 : decode cX7_isNear 4 = .ok (.iload_n 2, 1) := by decide +kernel
theorem dX7_isNear_5 : decode cX7_isNear 5 = .ok (.iaload, 1) := by decide +kernel
theorem dX7_isNear_6 : decode cX7_isNear 6 = .ok (.iload_n 3, 1) := by decide +kernel
theorem dX7_isNear_7 : decode cX7_isNear 7 = .ok (.if_icmp .eq 5, 3) := by decide +kernel
theorem dX7_isNear_10 : decode cX7_isNear 10 = .ok (.iconst 0, 1) := by decide +kernel
theorem dX7_isNear_11 : decode cX7_isNear 11 = .ok (.ireturn, 1) := by decide +kernel
theorem dX7_isNear_12 : decode cX7_isNear 12 = .ok (.aload_n 0, 1) := by decide +kernel
theorem dX7_isNear_13 : decode cX7_isNear 13 = .ok (.getfield 93, 3) := by decide +kernel
theorem dX7_isNear_16 : decode cX7_isNear 16 = .ok (.iload_n 2, 1) := by decide +kernel
theorem dX7_isNear_17 : decode cX7_isNear 17 = .ok (.iaload, 1) := by decide +kernel
theorem dX7_isNear_18 : decode cX7_isNear 18 = .ok (.iload 4, 2) := by decide +kernel
theorem dX7_isNear_20 : decode cX7_isNear 20 = .ok (.if_icmp .lt 22, 3) := by decide +kernel
theorem dX7_isNear_23 : decode cX7_isNear 23 = .ok (.aload_n 0, 1) := by decide +kernel
theorem dX7_isNear_24 : decode cX7_isNear 24 = .ok (.getfield 93, 3) := by decide +kernel
theorem dX7_isNear_27 : decode cX7_isNear 27 = .ok (.iload_n 2, 1) := by decide +kernel
theorem dX7_isNear_28 : decode cX7_isNear 28 = .ok (.iaload, 1) := by decide +kernel
theorem dX7_isNear_29 : decode cX7_isNear 29 = .ok (.iload 4, 2) := by decide +kernel
theorem dX7_isNear_31 : decode cX7_isNear 31 = .ok (.isub, 1) := by decide +kernel
theorem dX7_isNear_32 : decode cX7_isNear 32 = .ok (.aload_n 0, 1) := by decide +kernel
theorem dX7_isNear_33 : decode cX7_isNear 33 = .ok (.getfield 36, 3) := by decide +kernel
theorem dX7_isNear_36 : decode cX7_isNear 36 = .ok (.iload_n 1, 1) := by decide +kernel
theorem dX7_isNear_37 : decode cX7_isNear 37 = .ok (.iaload, 1) := by decide +kernel
theorem dX7_isNear_38 : decode cX7_isNear 38 = .ok (.isub, 1) := by decide +kernel
theorem dX7_isNear_39 : decode cX7_isNear 39 = .ok (.goto 11, 3) := by decide +kernel
theorem dX7_isNear_42 : decode cX7_isNear 42 = .ok (.iload 4, 2) := by decide +kernel
theorem dX7_isNear_44 : decode cX7_isNear 44 = .ok (.aload_n 0, 1) := by decide +kernel
theorem dX7_isNear_45 : decode cX7_isNear 45 = .ok (.iload_n 2, 1) := by decide +kernel
theorem dX7_isNear_46 : decode cX7_isNear 46 = .ok (.invokevirtual 144, 3) := by decide +kernel
theorem dX7_isNear_49 : decode cX7_isNear 49 = .ok (.isub, 1) := by decide +kernel
theorem dX7_isNear_50 : decode cX7_isNear 50 = .ok (.istore 5, 2) := by decide +kernel
theorem dX7_isNear_52 : decode cX7_isNear 52 = .ok (.iload 5, 2) := by decide +kernel
theorem dX7_isNear_54 : decode cX7_isNear 54 = .ok (.bipush 6, 2) := by decide +kernel
theorem dX7_isNear_56 : decode cX7_isNear 56 = .ok (.if_icmp .ge 7, 3) := by decide +kernel
theorem dX7_isNear_59 : decode cX7_isNear 59 = .ok (.iconst 1, 1) := by decide +kernel
theorem dX7_isNear_60 : decode cX7_isNear 60 = .ok (.goto 4, 3) := by decide +kernel
theorem dX7_isNear_63 : decode cX7_isNear 63 = .ok (.iconst 0, 1) := by decide +kernel
theorem dX7_isNear_64 : decode cX7_isNear 64 = .ok (.ireturn, 1) := by decide +kernel
set_option maxRecDepth 20000 in
theorem ggX7_isFire_X7_isNear : GoodIn wsX7_isFire wsX7_isNear := goodIn_r _ [8, 9, 10, 11, 12, 13, 14, 7, 15, 16, 17, 18, 19, 20, 21, 22, 23, 24, 25, 26, 27, 28, 29, 30, 31, 32, 33, 34, 35, 36, 37, 38, 39, 40, 41, 42, 43, 44, 45, 46, 47, 48, 49, 50, 51, 52, 53, 54, 55, 56, 57, 58, 59, 60, 61, 62, 63, 64, 65, 66] (by decide +kernel) (by decide +kernel)
set_option maxRecDepth 20000 in
theorem gX7_isFire_X7_isNear : GoodIn wsX7_isFire (wsV RX7 148 RX7 yX7_isNear wsX7_isNear) := goodIn_app (goodIn_of _ (by decide +kernel)) ggX7_isFire_X7_isNear
theorem dX7_isFire_0 : decode cX7_isFire 0 = .ok (.aload_n 0, 1) := by decide +kernel
theorem dX7_isFire_1 : decode cX7_isFire 1 = .ok (.getfield 30, 3) := by decide +kernel
theorem dX7_isFire_4 : decode cX7_isFire 4 = .ok (.iload_n 1, 1) := by decide +kernel
theorem dX7_isFire_5 : decode cX7_isFire 5 = .ok (.iaload, 1) := by decide +kernel
theorem dX7_isFire_6 : decode cX7_isFire 6 = .ok (.iconst 3, 1) := by decide +kernel
theorem dX7_isFire_7 : decode cX7_isFire 7 = .ok (.if_icmp .ne 21, 3) := by decide +kernel
theorem dX7_isFire_10 : decode cX7_isFire 10 = .ok (.aload_n 0, 1) := by decide +kernel
theorem dX7_isFire_11 : decode cX7_isFire 11 = .ok (.getfield 23, 3) := by decide +kernel
theorem dX7_isFire_14 : decode cX7_isFire 14 = .ok (.aload_n 0, 1) := by decide +kernel
theorem dX7_isFire_15 : decode cX7_isFire 15 = .ok (.getfield 33, 3) := by decide +kernel
theorem dX7_isFire_18 : decode cX7_isFire 18 = .ok (.iload_n 2, 1) := by decide +kernel
theorem dX7_isFire_19 : decode cX7_isFire 19 = .ok (.iaload, 1) := by decide +kernel
theorem dX7_isFire_20 : decode cX7_isFire 20 = .ok (.baload, 1) := by decide +kernel
theorem dX7_isFire_21 : decode cX7_isFire 21 = .ok (.ifCond .eq 7, 3) := by decide +kernel
theorem dX7_isFire_24 : decode cX7_isFire 24 = .ok (.iconst 1, 1) := by decide +kernel
theorem dX7_isFire_25 : decode cX7_isFire 25 = .ok (.goto 4, 3) := by decide +kernel
theorem dX7_isFire_28 : decode cX7_isFire 28 = .ok (.iconst 0, 1) := by decide +kernel
theorem dX7_isFire_29 : decode cX7_isFire 29 = .ok (.istore 5, 2) := by decide +kernel
theorem dX7_isFire_31 : decode cX7_isFire 31 = .ok (.aload_n 0, 1) := by decide +kernel
theorem dX7_isFire_32 : decode cX7_isFire 32 = .ok (.getfield 30, 3) := by decide +kernel
theorem dX7_isFire_35 : decode cX7_isFire 35 = .ok (.iload_n 1, 1) := by decide +kernel
theorem dX7_isFire_36 : decode cX7_isFire 36 = .ok (.iaload, 1) := by decide +kernel
theorem dX7_isFire_37 : decode cX7_isFire 37 = .ok (.iconst 3, 1) := by decide +kernel
theorem dX7_isFire_38 : decode cX7_isFire 38 = .ok (.if_icmp .eq 31, 3) := by decide +kernel
theorem dX7_isFire_41 : decode cX7_isFire 41 = .ok (.aload_n 0, 1) := by decide +kernel
theorem dX7_isFire_42 : decode cX7_isFire 42 = .ok (.getfield 23, 3) := by decide +kernel
theorem dX7_isFire_45 : decode cX7_isFire 45 = .ok (.aload_n 0, 1) := by decide +kernel
theorem dX7_isFire_46 : decode cX7_isFire 46 = .ok (.getfield 33, 3) := by decide +kernel
theorem dX7_isFire_49 : decode cX7_isFire 49 = .ok (.iload_n 1, 1) := by decide +kernel
theorem dX7_isFire_50 : decode cX7_isFire 50 = .ok (.iaload, 1) := by decide +kernel
theorem dX7_isFire_51 : decode cX7_isFire 51 = .ok (.baload, 1) := by decide +kernel
theorem dX7_isFire_52 : decode cX7_isFire 52 = .ok (.ifCond .eq 17, 3) := by decide +kernel
theorem dX7_isFire_55 : decode cX7_isFire 55 = .ok (.aload_n 0, 1) := by decide +kernel
theorem dX7_isFire_56 : decode cX7_isFire 56 = .ok (.getfield 30, 3) := by decide +kernel
theorem dX7_isFire_59 : decode cX7_isFire 59 = .ok (.iload_n 2, 1) := by decide +kernel
theorem dX7_isFire_60 : decode cX7_isFire 60 = .ok (.iaload, 1) := by decide +kernel
theorem dX7_isFire_61 : decode cX7_isFire 61 = .ok (.iconst 3, 1) := by decide +kernel
theorem dX7_isFire_62 : decode cX7_isFire 62 = .ok (.if_icmp .ne 7, 3) := by decide +kernel
theorem dX7_isFire_65 : decode cX7_isFire 65 = .ok (.iconst 1, 1) := by decide +kernel
theorem dX7_isFire_66 : decode cX7_isFire 66 = .ok (.goto 4, 3) := by decide +kernel
theorem dX7_isFire_69 : decode cX7_isFire 69 = .ok (.iconst 0, 1) := by decide +kernel
theorem dX7_isFire_70 : decode cX7_isFire 70 = .ok (.istore 6, 2) := by decide +kernel
theorem dX7_isFire_72 : decode cX7_isFire 72 = .ok (.iload 5, 2) := by decide +kernel
theorem dX7_isFire_74 : decode cX7_isFire 74 = .ok (.ifCond .ne 8, 3) := by decide +kernel
theorem dX7_isFire_77 : decode cX7_isFire 77 = .ok (.iload 6, 2) := by decide +kernel
theorem dX7_isFire_79 : decode cX7_isFire 79 = .ok (.ifCond .eq 19, 3) := by decide +kernel
theorem dX7_isFire_82 : decode cX7_isFire 82 = .ok (.aload_n 0, 1) := by decide +kernel
theorem dX7_isFire_83 : decode cX7_isFire 83 = .ok (.iload_n 1, 1) := by decide +kernel
theorem dX7_isFire_84 : decode cX7_isFire 84 = .ok (.iload_n 2, 1) := by decide +kernel
theorem dX7_isFire_85 : decode cX7_isFire 85 = .ok (.iload_n 3, 1) := by decide +kernel
theorem dX7_isFire_86 : decode cX7_isFire 86 = .ok (.iload 4, 2) := by decide +kernel
theorem dX7_isFire_88 : decode cX7_isFire 88 = .ok (.invokevirtual 148, 3) := by decide +kernel
theorem dX7_isFire_91 : decode cX7_isFire 91 = .ok (.ifCond .eq 7, 3) := by decide +kernel
theorem dX7_isFire_94 : decode cX7_isFire 94 = .ok (.iconst 1, 1) := by decide +kernel
theorem dX7_isFire_95 : decode cX7_isFire 95 = .ok (.goto 4, 3) := by decide +kernel
theorem dX7_isFire_98 : decode cX7_isFire 98 = .ok (.iconst 0, 1) := by decide +kernel
theorem dX7_isFire_99 : decode cX7_isFire 99 = .ok (.ireturn, 1) := by decide +kernel
set_option maxRecDepth 20000 in
theorem ggX7_stops_X7_meets : GoodIn wsX7_stops wsX7_meets := goodIn_r _ [6, 7, 8, 9, 10, 11, 12, 5, 13, 37, 38, 39, 40, 41, 42, 43, 44, 45, 46, 47, 48, 49, 50, 51, 52, 53, 54, 55, 56, 57, 58, 59, 60, 61, 62, 63, 64, 65, 66, 67, 68, 69, 70, 71, 72, 73, 74, 75, 76, 77, 78, 79, 80, 81, 82, 83, 84, 85, 86, 87] (by decide +kernel) (by decide +kernel)
set_option maxRecDepth 20000 in
theorem gX7_stops_X7_meets : GoodIn wsX7_stops (wsV RX7 152 RX7 yX7_meets wsX7_meets) := goodIn_app (goodIn_of _ (by decide +kernel)) ggX7_stops_X7_meets
set_option maxRecDepth 20000 in
theorem ggX7_stops_X7_arePaired : GoodIn wsX7_stops wsX7_arePaired := goodIn_r _ [17, 18, 19, 37, 38, 39, 40, 41, 42, 43, 44, 45, 46, 47, 48, 49, 50, 51, 52, 53, 54, 55, 56, 57, 58, 59, 60, 61, 62, 63, 64, 65, 66, 67, 68, 69, 70, 71, 72, 73, 74, 75, 76, 77, 78, 79, 80, 81, 82, 83, 84, 85, 86, 87] (by decide +kernel) (by decide +kernel)
set_option maxRecDepth 20000 in
theorem gX7_stops_X7_arePaired : GoodIn wsX7_stops (wsV RX7 155 RX7 yX7_arePaired wsX7_arePaired) := goodIn_app (goodIn_of _ (by decide +kernel)) ggX7_stops_X7_arePaired
set_option maxRecDepth 20000 in
theorem ggX7_stops_X7_isBeside : GoodIn wsX7_stops wsX7_isBeside := goodIn_r _ [23, 7, 8, 9, 10, 11, 12, 5, 13, 37, 38, 39, 40, 41, 42, 43, 44, 45, 46, 47, 48, 49, 50, 51, 52, 53, 54, 55, 56, 57, 58, 59, 60, 61, 62, 63, 64, 65, 66, 67, 68, 69, 70, 71, 72, 73, 74, 75, 76, 77, 78, 79, 80, 81, 82, 83, 84, 85, 86, 87] (by decide +kernel) (by decide +kernel)
set_option maxRecDepth 20000 in
theorem gX7_stops_X7_isBeside : GoodIn wsX7_stops (wsV RX7 159 RX7 yX7_isBeside wsX7_isBeside) := goodIn_app (goodIn_of _ (by decide +kernel)) ggX7_stops_X7_isBeside
set_option maxRecDepth 20000 in
theorem ggX7_stops_X7_isOpposite : GoodIn wsX7_stops wsX7_isOpposite := goodIn_r _ [27, 7, 8, 9, 10, 11, 12, 5, 13, 37, 38, 39, 40, 41, 42, 43, 44, 45, 46, 47, 48, 49, 50, 51, 52, 53, 54, 55, 56, 57, 58, 59, 60, 61, 62, 63, 64, 65, 66, 67, 68, 69, 70, 71, 72, 73, 74, 75, 76, 77, 78, 79, 80, 81, 82, 83, 84, 85, 86, 87] (by decide +kernel) (by decide +kernel)
set_option maxRecDepth 20000 in
theorem gX7_stops_X7_isOpposite : GoodIn wsX7_stops (wsV RX7 162 RX7 yX7_isOpposite wsX7_isOpposite) := goodIn_app (goodIn_of _ (by decide +kernel)) ggX7_stops_X7_isOpposite
set_option maxRecDepth 20000 in
theorem ggX7_stops_X7_isFire : GoodIn wsX7_stops wsX7_isFire := goodIn_r _ [31, 1, 32, 19, 33, 34, 35, 5, 36, 7, 8, 9, 10, 11, 12, 13, 37, 38, 39, 40, 41, 42, 43, 44, 45, 46, 47, 48, 49, 50, 51, 52, 53, 54, 55, 56, 57, 58, 59, 60, 61, 62, 63, 64, 65, 66, 67, 68, 69, 70, 71, 72, 73, 74, 75, 76, 77, 78, 79, 80, 81, 82, 83, 84, 85, 86, 87] (by decide +kernel) (by decide +kernel)
set_option maxRecDepth 20000 in
theorem gX7_stops_X7_isFire : GoodIn wsX7_stops (wsV RX7 165 RX7 yX7_isFire wsX7_isFire) := goodIn_app (goodIn_of _ (by decide +kernel)) ggX7_stops_X7_isFire
theorem dX7_stops_0 : decode cX7_stops 0 = .ok (.iload 5, 2) := by decide +kernel
theorem dX7_stops_2 : decode cX7_stops 2 = .ok (.tableswitch 146 3 10 #[46, 146, 56, 83, 146, 110, 146, 120], 46) := by decide +kernel
theorem dX7_stops_48 : decode cX7_stops 48 = .ok (.aload_n 0, 1) := by decide +kernel
theorem dX7_stops_49 : decode cX7_stops 49 = .ok (.iload_n 1, 1) := by decide +kernel
theorem dX7_stops_50 : decode cX7_stops 50 = .ok (.iload_n 2, 1) := by decide +kernel
theorem dX7_stops_51 : decode cX7_stops 51 = .ok (.iload_n 3, 1) := by decide +kernel
theorem dX7_stops_52 : decode cX7_stops 52 = .ok (.iload 4, 2) := by decide +kernel
theorem dX7_stops_54 : decode cX7_stops 54 = .ok (.invokevirtual 152, 3) := by decide +kernel
theorem dX7_stops_57 : decode cX7_stops 57 = .ok (.ireturn, 1) := by decide +kernel
theorem dX7_stops_58 : decode cX7_stops 58 = .ok (.aload_n 0, 1) := by decide +kernel
theorem dX7_stops_59 : decode cX7_stops 59 = .ok (.iload_n 1, 1) := by decide +kernel
theorem dX7_stops_60 : decode cX7_stops 60 = .ok (.iload_n 2, 1) := by decide +kernel
theorem dX7_stops_61 : decode cX7_stops 61 = .ok (.invokevirtual 155, 3) := by decide +kernel
theorem dX7_stops_64 : decode cX7_stops 64 = .ok (.ifCond .eq 19, 3) := by decide +kernel
theorem dX7_stops_67 : decode cX7_stops 67 = .ok (.aload_n 0, 1) := by decide +kernel
theorem dX7_stops_68 : decode cX7_stops 68 = .ok (.iload_n 1, 1) := by decide +kernel
theorem dX7_stops_69 : decode cX7_stops 69 = .ok (.iload_n 2, 1) := by decide +kernel
theorem dX7_stops_70 : decode cX7_stops 70 = .ok (.iload_n 3, 1) := by decide +kernel
theorem dX7_stops_71 : decode cX7_stops 71 = .ok (.iload 4, 2) := by decide +kernel
theorem dX7_stops_73 : decode cX7_stops 73 = .ok (.invokevirtual 159, 3) := by decide +kernel
theorem dX7_stops_76 : decode cX7_stops 76 = .ok (.ifCond .eq 7, 3) := by decide +kernel
theorem dX7_stops_79 : decode cX7_stops 79 = .ok (.iconst 1, 1) := by decide +kernel
theorem dX7_stops_80 : decode cX7_stops 80 = .ok (.goto 4, 3) := by decide +kernel
theorem dX7_stops_83 : decode cX7_stops 83 = .ok (.iconst 0, 1) := by decide +kernel
theorem dX7_stops_84 : decode cX7_stops 84 = .ok (.ireturn, 1) := by decide +kernel
theorem dX7_stops_85 : decode cX7_stops 85 = .ok (.aload_n 0, 1) := by decide +kernel
theorem dX7_stops_86 : decode cX7_stops 86 = .ok (.iload_n 1, 1) := by decide +kernel
theorem dX7_stops_87 : decode cX7_stops 87 = .ok (.iload_n 2, 1) := by decide +kernel
theorem dX7_stops_88 : decode cX7_stops 88 = .ok (.invokevirtual 155, 3) := by decide +kernel
theorem dX7_stops_91 : decode cX7_stops 91 = .ok (.ifCond .eq 19, 3) := by decide +kernel
theorem dX7_stops_94 : decode cX7_stops 94 = .ok (.aload_n 0, 1) := by decide +kernel
theorem dX7_stops_95 : decode cX7_stops 95 = .ok (.iload_n 1, 1) := by decide +kernel
theorem dX7_stops_96 : decode cX7_stops 96 = .ok (.iload_n 2, 1) := by decide +kernel
theorem dX7_stops_97 : decode cX7_stops 97 = .ok (.iload_n 3, 1) := by decide +kernel
theorem dX7_stops_98 : decode cX7_stops 98 = .ok (.iload 4, 2) := by decide +kernel
theorem dX7_stops_100 : decode cX7_stops 100 = .ok (.invokevirtual 162, 3) := by decide +kernel
theorem dX7_stops_103 : decode cX7_stops 103 = .ok (.ifCond .eq 7, 3) := by decide +kernel
theorem dX7_stops_106 : decode cX7_stops 106 = .ok (.iconst 1, 1) := by decide +kernel
theorem dX7_stops_107 : decode cX7_stops 107 = .ok (.goto 4, 3) := by decide +kernel
theorem dX7_stops_110 : decode cX7_stops 110 = .ok (.iconst 0, 1) := by decide +kernel
theorem dX7_stops_111 : decode cX7_stops 111 = .ok (.ireturn, 1) := by decide +kernel
theorem dX7_stops_112 : decode cX7_stops 112 = .ok (.aload_n 0, 1) := by decide +kernel
theorem dX7_stops_113 : decode cX7_stops 113 = .ok (.iload_n 1, 1) := by decide +kernel
theorem dX7_stops_114 : decode cX7_stops 114 = .ok (.iload_n 2, 1) := by decide +kernel
theorem dX7_stops_115 : decode cX7_stops 115 = .ok (.iload_n 3, 1) := by decide +kernel
theorem dX7_stops_116 : decode cX7_stops 116 = .ok (.iload 4, 2) := by decide +kernel
theorem dX7_stops_118 : decode cX7_stops 118 = .ok (.invokevirtual 165, 3) := by decide +kernel
theorem dX7_stops_121 : decode cX7_stops 121 = .ok (.ireturn, 1) := by decide +kernel
theorem dX7_stops_122 : decode cX7_stops 122 = .ok (.aload_n 0, 1) := by decide +kernel
theorem dX7_stops_123 : decode cX7_stops 123 = .ok (.getfield 30, 3) := by decide +kernel
theorem dX7_stops_126 : decode cX7_stops 126 = .ok (.iload_n 1, 1) := by decide +kernel
theorem dX7_stops_127 : decode cX7_stops 127 = .ok (.iaload, 1) := by decide +kernel
theorem dX7_stops_128 : decode cX7_stops 128 = .ok (.iconst 4, 1) := by decide +kernel
theorem dX7_stops_129 : decode cX7_stops 129 = .ok (.if_icmp .ne 17, 3) := by decide +kernel
theorem dX7_stops_132 : decode cX7_stops 132 = .ok (.aload_n 0, 1) := by decide +kernel
theorem dX7_stops_133 : decode cX7_stops 133 = .ok (.getfield 30, 3) := by decide +kernel
theorem dX7_stops_136 : decode cX7_stops 136 = .ok (.iload_n 2, 1) := by decide +kernel
theorem dX7_stops_137 : decode cX7_stops 137 = .ok (.iaload, 1) := by decide +kernel
theorem dX7_stops_138 : decode cX7_stops 138 = .ok (.iconst 4, 1) := by decide +kernel
theorem dX7_stops_139 : decode cX7_stops 139 = .ok (.if_icmp .ne 7, 3) := by decide +kernel
theorem dX7_stops_142 : decode cX7_stops 142 = .ok (.iconst 1, 1) := by decide +kernel
theorem dX7_stops_143 : decode cX7_stops 143 = .ok (.goto 4, 3) := by decide +kernel
theorem dX7_stops_146 : decode cX7_stops 146 = .ok (.iconst 0, 1) := by decide +kernel
theorem dX7_stops_147 : decode cX7_stops 147 = .ok (.ireturn, 1) := by decide +kernel
theorem dX7_stops_148 : decode cX7_stops 148 = .ok (.iconst 0, 1) := by decide +kernel
theorem dX7_stops_149 : decode cX7_stops 149 = .ok (.ireturn, 1) := by decide +kernel
set_option maxRecDepth 20000 in
theorem ggX7_anyStops_X7_stops : GoodIn wsX7_anyStops wsX7_stops := goodIn_r _ [7, 8, 9, 10, 11, 6, 12, 13, 14, 15, 16, 17, 18, 19, 20, 21, 22, 23, 24, 25, 26, 27, 28, 29, 30, 31, 32, 33, 34, 35, 36, 37, 38, 39, 40, 41, 42, 43, 44, 45, 46, 47, 48, 49, 50, 51, 52, 53, 54, 55, 56, 57, 58, 59, 60, 61, 62, 63, 64, 65, 66, 67, 68, 69, 70, 71, 72, 73, 74, 75, 76, 77, 78, 79, 80, 81, 82, 83, 84, 85, 86, 87, 88, 89, 90, 91, 92, 93] (by decide +kernel) (by decide +kernel)
set_option maxRecDepth 20000 in
theorem gX7_anyStops_X7_stops : GoodIn wsX7_anyStops (wsV RX7 168 RX7 yX7_stops wsX7_stops) := goodIn_app (goodIn_of _ (by decide +kernel)) ggX7_anyStops_X7_stops
theorem dX7_anyStops_0 : decode cX7_anyStops 0 = .ok (.iconst 0, 1) := by decide +kernel
theorem dX7_anyStops_1 : decode cX7_anyStops 1 = .ok (.istore 5, 2) := by decide +kernel
theorem dX7_anyStops_3 : decode cX7_anyStops 3 = .ok (.iconst 0, 1) := by decide +kernel
theorem dX7_anyStops_4 : decode cX7_anyStops 4 = .ok (.istore 6, 2) := by decide +kernel
theorem dX7_anyStops_6 : decode cX7_anyStops 6 = .ok (.iload 6, 2) := by decide +kernel
theorem dX7_anyStops_8 : decode cX7_anyStops 8 = .ok (.aload_n 0, 1) := by decide +kernel
theorem dX7_anyStops_9 : decode cX7_anyStops 9 = .ok (.getfield 131, 3) := by decide +kernel
theorem dX7_anyStops_12 : decode cX7_anyStops 12 = .ok (.if_icmp .ge 51, 3) := by decide +kernel
theorem dX7_anyStops_15 : decode cX7_anyStops 15 = .ok (.iload 5, 2) := by decide +kernel
theorem dX7_anyStops_17 : decode cX7_anyStops 17 = .ok (.ifCond .ne 46, 3) := by decide +kernel
theorem dX7_anyStops_20 : decode cX7_anyStops 20 = .ok (.aload_n 0, 1) := by decide +kernel
theorem dX7_anyStops_21 : decode cX7_anyStops 21 = .ok (.getfield 87, 3) := by decide +kernel
theorem dX7_anyStops_24 : decode cX7_anyStops 24 = .ok (.iload 6, 2) := by decide +kernel
theorem dX7_anyStops_26 : decode cX7_anyStops 26 = .ok (.baload, 1) := by decide +kernel
theorem dX7_anyStops_27 : decode cX7_anyStops 27 = .ok (.ifCond .eq 27, 3) := by decide +kernel
theorem dX7_anyStops_30 : decode cX7_anyStops 30 = .ok (.iload 6, 2) := by decide +kernel
theorem dX7_anyStops_32 : decode cX7_anyStops 32 = .ok (.iload_n 1, 1) := by decide +kernel
theorem dX7_anyStops_33 : decode cX7_anyStops 33 = .ok (.if_icmp .eq 21, 3) := by decide +kernel
theorem dX7_anyStops_36 : decode cX7_anyStops 36 = .ok (.aload_n 0, 1) := by decide +kernel
theorem dX7_anyStops_37 : decode cX7_anyStops 37 = .ok (.iload_n 1, 1) := by decide +kernel
theorem dX7_anyStops_38 : decode cX7_anyStops 38 = .ok (.iload 6, 2) := by decide +kernel
theorem dX7_anyStops_40 : decode cX7_anyStops 40 = .ok (.iload_n 2, 1) := by decide +kernel
theorem dX7_anyStops_41 : decode cX7_anyStops 41 = .ok (.iload_n 3, 1) := by decide +kernel
theorem dX7_anyStops_42 : decode cX7_anyStops 42 = .ok (.iload 4, 2) := by decide +kernel
theorem dX7_anyStops_44 : decode cX7_anyStops 44 = .ok (.invokevirtual 168, 3) := by decide +kernel
theorem dX7_anyStops_47 : decode cX7_anyStops 47 = .ok (.ifCond .eq 7, 3) := by decide +kernel
theorem dX7_anyStops_50 : decode cX7_anyStops 50 = .ok (.iconst 1, 1) := by decide +kernel
theorem dX7_anyStops_51 : decode cX7_anyStops 51 = .ok (.goto 4, 3) := by decide +kernel
theorem dX7_anyStops_54 : decode cX7_anyStops 54 = .ok (.iconst 0, 1) := by decide +kernel
theorem dX7_anyStops_55 : decode cX7_anyStops 55 = .ok (.istore 5, 2) := by decide +kernel
theorem dX7_anyStops_57 : decode cX7_anyStops 57 = .ok (.iinc 6 1, 3) := by decide +kernel
theorem dX7_anyStops_60 : decode cX7_anyStops 60 = .ok (.goto (-54), 3) := by decide +kernel
theorem dX7_anyStops_63 : decode cX7_anyStops 63 = .ok (.iload 5, 2) := by decide +kernel
theorem dX7_anyStops_65 : decode cX7_anyStops 65 = .ok (.ireturn, 1) := by decide +kernel
theorem dX7_isFull_0 : decode cX7_isFull 0 = .ok (.iconst 0, 1) := by decide +kernel
theorem dX7_isFull_1 : decode cX7_isFull 1 = .ok (.istore_n 2, 1) := by decide +kernel
theorem dX7_isFull_2 : decode cX7_isFull 2 = .ok (.iconst 0, 1) := by decide +kernel
theorem dX7_isFull_3 : decode cX7_isFull 3 = .ok (.istore_n 3, 1) := by decide +kernel
theorem dX7_isFull_4 : decode cX7_isFull 4 = .ok (.iload_n 3, 1) := by decide +kernel
theorem dX7_isFull_5 : decode cX7_isFull 5 = .ok (.aload_n 0, 1) := by decide +kernel
theorem dX7_isFull_6 : decode cX7_isFull 6 = .ok (.getfield 131, 3) := by decide +kernel
theorem dX7_isFull_9 : decode cX7_isFull 9 = .ok (.if_icmp .ge 46, 3) := by decide +kernel
theorem dX7_isFull_12 : decode cX7_isFull 12 = .ok (.iload_n 2, 1) := by decide +kernel
theorem dX7_isFull_13 : decode cX7_isFull 13 = .ok (.aload_n 0, 1) := by decide +kernel
theorem dX7_isFull_14 : decode cX7_isFull 14 = .ok (.getfield 87, 3) := by decide +kernel
theorem dX7_isFull_17 : decode cX7_isFull 17 = .ok (.iload_n 3, 1) := by decide +kernel
theorem dX7_isFull_18 : decode cX7_isFull 18 = .ok (.baload, 1) := by decide +kernel
theorem dX7_isFull_19 : decode cX7_isFull 19 = .ok (.ifCond .eq 27, 3) := by decide +kernel
theorem dX7_isFull_22 : decode cX7_isFull 22 = .ok (.iload_n 3, 1) := by decide +kernel
theorem dX7_isFull_23 : decode cX7_isFull 23 = .ok (.iload_n 1, 1) := by decide +kernel
theorem dX7_isFull_24 : decode cX7_isFull 24 = .ok (.if_icmp .eq 22, 3) := by decide +kernel
theorem dX7_isFull_27 : decode cX7_isFull 27 = .ok (.aload_n 0, 1) := by decide +kernel
theorem dX7_isFull_28 : decode cX7_isFull 28 = .ok (.getfield 33, 3) := by decide +kernel
theorem dX7_isFull_31 : decode cX7_isFull 31 = .ok (.iload_n 3, 1) := by decide +kernel
theorem dX7_isFull_32 : decode cX7_isFull 32 = .ok (.iaload, 1) := by decide +kernel
theorem dX7_isFull_33 : decode cX7_isFull 33 = .ok (.aload_n 0, 1) := by decide +kernel
theorem dX7_isFull_34 : decode cX7_isFull 34 = .ok (.getfield 33, 3) := by decide +kernel
theorem dX7_isFull_37 : decode cX7_isFull 37 = .ok (.iload_n 1, 1) := by decide +kernel
theorem dX7_isFull_38 : decode cX7_isFull 38 = .ok (.iaload, 1) := by decide +kernel
theorem dX7_isFull_39 : decode cX7_isFull 39 = .ok (.if_icmp .ne 7, 3) := by decide +kernel
theorem dX7_isFull_42 : decode cX7_isFull 42 = .ok (.iconst 1, 1) := by decide +kernel
theorem dX7_isFull_43 : decode cX7_isFull 43 = .ok (.goto 4, 3) := by decide +kernel
theorem dX7_isFull_46 : decode cX7_isFull 46 = .ok (.iconst 0, 1) := by decide +kernel
theorem dX7_isFull_47 : decode cX7_isFull 47 = .ok (.iadd, 1) := by decide +kernel
theorem dX7_isFull_48 : decode cX7_isFull 48 = .ok (.istore_n 2, 1) := by decide +kernel
theorem dX7_isFull_49 : decode cX7_isFull 49 = .ok (.iinc 3 1, 3) := by decide +kernel
theorem dX7_isFull_52 : decode cX7_isFull 52 = .ok (.goto (-48), 3) := by decide +kernel
theorem dX7_isFull_55 : decode cX7_isFull 55 = .ok (.iload_n 2, 1) := by decide +kernel
theorem dX7_isFull_56 : decode cX7_isFull 56 = .ok (.aload_n 0, 1) := by decide +kernel
theorem dX7_isFull_57 : decode cX7_isFull 57 = .ok (.getfield 20, 3) := by decide +kernel
theorem dX7_isFull_60 : decode cX7_isFull 60 = .ok (.aload_n 0, 1) := by decide +kernel
theorem dX7_isFull_61 : decode cX7_isFull 61 = .ok (.getfield 33, 3) := by decide +kernel
theorem dX7_isFull_64 : decode cX7_isFull 64 = .ok (.iload_n 1, 1) := by decide +kernel
theorem dX7_isFull_65 : decode cX7_isFull 65 = .ok (.iaload, 1) := by decide +kernel
theorem dX7_isFull_66 : decode cX7_isFull 66 = .ok (.iaload, 1) := by decide +kernel
theorem dX7_isFull_67 : decode cX7_isFull 67 = .ok (.if_icmp .lt 7, 3) := by decide +kernel
theorem dX7_isFull_70 : decode cX7_isFull 70 = .ok (.iconst 1, 1) := by decide +kernel
theorem dX7_isFull_71 : decode cX7_isFull 71 = .ok (.goto 4, 3) := by decide +kernel
theorem dX7_isFull_74 : decode cX7_isFull 74 = .ok (.iconst 0, 1) := by decide +kernel
theorem dX7_isFull_75 : decode cX7_isFull 75 = .ok (.ireturn, 1) := by decide +kernel
theorem dX7_isOutOfMonth_0 : decode cX7_isOutOfMonth 0 = .ok (.aload_n 0, 1) := by decide +kernel
theorem dX7_isOutOfMonth_1 : decode cX7_isOutOfMonth 1 = .ok (.getfield 30, 3) := by decide +kernel
theorem dX7_isOutOfMonth_4 : decode cX7_isOutOfMonth 4 = .ok (.iload_n 1, 1) := by decide +kernel
theorem dX7_isOutOfMonth_5 : decode cX7_isOutOfMonth 5 = .ok (.iaload, 1) := by decide +kernel
theorem dX7_isOutOfMonth_6 : decode cX7_isOutOfMonth 6 = .ok (.iconst 2, 1) := by decide +kernel
theorem dX7_isOutOfMonth_7 : decode cX7_isOutOfMonth 7 = .ok (.if_icmp .ne 23, 3) := by decide +kernel
theorem dX7_isOutOfMonth_10 : decode cX7_isOutOfMonth 10 = .ok (.aload_n 0, 1) := by decide +kernel
theorem dX7_isOutOfMonth_11 : decode cX7_isOutOfMonth 11 = .ok (.getfield 51, 3) := by decide +kernel
theorem dX7_isOutOfMonth_14 : decode cX7_isOutOfMonth 14 = .ok (.iload_n 1, 1) := by decide +kernel
theorem dX7_isOutOfMonth_15 : decode cX7_isOutOfMonth 15 = .ok (.iaload, 1) := by decide +kernel
theorem dX7_isOutOfMonth_16 : decode cX7_isOutOfMonth 16 = .ok (.aload_n 0, 1) := by decide +kernel
theorem dX7_isOutOfMonth_17 : decode cX7_isOutOfMonth 17 = .ok (.getfield 172, 3) := by decide +kernel
theorem dX7_isOutOfMonth_20 : decode cX7_isOutOfMonth 20 = .ok (.ishr, 1) := by decide +kernel
theorem dX7_isOutOfMonth_21 : decode cX7_isOutOfMonth 21 = .ok (.iconst 1, 1) := by decide +kernel
theorem dX7_isOutOfMonth_22 : decode cX7_isOutOfMonth 22 = .ok (.iand, 1) := by decide +kernel
theorem dX7_isOutOfMonth_23 : decode cX7_isOutOfMonth 23 = .ok (.ifCond .ne 7, 3) := by decide +kernel
theorem dX7_isOutOfMonth_26 : decode cX7_isOutOfMonth 26 = .ok (.iconst 1, 1) := by decide +kernel
theorem dX7_isOutOfMonth_27 : decode cX7_isOutOfMonth 27 = .ok (.goto 4, 3) := by decide +kernel
theorem dX7_isOutOfMonth_30 : decode cX7_isOutOfMonth 30 = .ok (.iconst 0, 1) := by decide +kernel
theorem dX7_isOutOfMonth_31 : decode cX7_isOutOfMonth 31 = .ok (.ireturn, 1) := by decide +kernel
set_option maxRecDepth 20000 in
theorem ggX7_against_X7_isWithin : GoodIn wsX7_against wsX7_isWithin := goodIn_r _ [6, 7, 8, 9, 10, 11, 5, 12, 13, 14, 15, 75, 76, 77, 78, 79, 80, 81, 82, 83, 84, 85, 86, 87, 88, 89, 90, 91, 92, 93, 94, 95, 96, 97, 98, 99, 100, 101, 102, 103, 104, 105, 106, 107, 108, 109, 110, 111, 112, 113, 114, 115, 116, 117, 118, 119, 120, 121, 122, 123, 124, 125] (by decide +kernel) (by decide +kernel)
set_option maxRecDepth 20000 in
theorem gX7_against_X7_isWithin : GoodIn wsX7_against (wsV RX7 175 RX7 yX7_isWithin wsX7_isWithin) := goodIn_app (goodIn_of _ (by decide +kernel)) ggX7_against_X7_isWithin
set_option maxRecDepth 20000 in
theorem ggX7_against_X7_isMarked : GoodIn wsX7_against wsX7_isMarked := goodIn_r _ [19, 7, 20, 75, 76, 77, 78, 79, 80, 81, 82, 83, 84, 85, 86, 87, 88, 89, 90, 91, 92, 93, 94, 95, 96, 97, 98, 99, 100, 101, 102, 103, 104, 105, 106, 107, 108, 109, 110, 111, 112, 113, 114, 115, 116, 117, 118, 119, 120, 121, 122, 123, 124, 125] (by decide +kernel) (by decide +kernel)
set_option maxRecDepth 20000 in
theorem gX7_against_X7_isMarked : GoodIn wsX7_against (wsV RX7 179 RX7 yX7_isMarked wsX7_isMarked) := goodIn_app (goodIn_of _ (by decide +kernel)) ggX7_against_X7_isMarked
set_option maxRecDepth 20000 in
theorem ggX7_against_X7_anyStops : GoodIn wsX7_against wsX7_anyStops := goodIn_r _ [24, 25, 26, 27, 28, 29, 5, 30, 1, 31, 32, 33, 34, 35, 36, 7, 37, 38, 39, 40, 41, 42, 43, 44, 45, 46, 47, 48, 49, 50, 51, 52, 53, 54, 55, 56, 57, 58, 59, 60, 61, 62, 63, 75, 76, 77, 78, 79, 80, 81, 82, 83, 84, 85, 86, 87, 88, 89, 90, 91, 92, 93, 94, 95, 96, 97, 98, 99, 100, 101, 102, 103, 104, 105, 106, 107, 108, 109, 110, 111, 112, 113, 114, 115, 116, 117, 118, 119, 120, 121, 122, 123, 124, 125] (by decide +kernel) (by decide +kernel)
set_option maxRecDepth 20000 in
theorem gX7_against_X7_anyStops : GoodIn wsX7_against (wsV RX7 182 RX7 yX7_anyStops wsX7_anyStops) := goodIn_app (goodIn_of _ (by decide +kernel)) ggX7_against_X7_anyStops
set_option maxRecDepth 20000 in
theorem ggX7_against_X7_isFull : GoodIn wsX7_against wsX7_isFull := goodIn_r _ [67, 25, 26, 46, 68, 75, 76, 77, 78, 79, 80, 81, 82, 83, 84, 85, 86, 87, 88, 89, 90, 91, 92, 93, 94, 95, 96, 97, 98, 99, 100, 101, 102, 103, 104, 105, 106, 107, 108, 109, 110, 111, 112, 113, 114, 115, 116, 117, 118, 119, 120, 121, 122, 123, 124, 125] (by decide +kernel) (by decide +kernel)
set_option maxRecDepth 20000 in
theorem gX7_against_X7_isFull : GoodIn wsX7_against (wsV RX7 185 RX7 yX7_isFull wsX7_isFull) := goodIn_app (goodIn_of _ (by decide +kernel)) ggX7_against_X7_isFull
set_option maxRecDepth 20000 in
theorem ggX7_against_X7_isOutOfMonth : GoodIn wsX7_against wsX7_isOutOfMonth := goodIn_r _ [72, 1, 73, 74, 75, 76, 77, 78, 79, 80, 81, 82, 83, 84, 85, 86, 87, 88, 89, 90, 91, 92, 93, 94, 95, 96, 97, 98, 99, 100, 101, 102, 103, 104, 105, 106, 107, 108, 109, 110, 111, 112, 113, 114, 115, 116, 117, 118, 119, 120, 121, 122, 123, 124, 125] (by decide +kernel) (by decide +kernel)
set_option maxRecDepth 20000 in
theorem gX7_against_X7_isOutOfMonth : GoodIn wsX7_against (wsV RX7 188 RX7 yX7_isOutOfMonth wsX7_isOutOfMonth) := goodIn_app (goodIn_of _ (by decide +kernel)) ggX7_against_X7_isOutOfMonth
theorem dX7_against_0 : decode cX7_against 0 = .ok (.aload_n 0, 1) := by decide +kernel
theorem dX7_against_1 : decode cX7_against 1 = .ok (.iload_n 1, 1) := by decide +kernel
theorem dX7_against_2 : decode cX7_against 2 = .ok (.iload_n 2, 1) := by decide +kernel
theorem dX7_against_3 : decode cX7_against 3 = .ok (.iload_n 3, 1) := by decide +kernel
theorem dX7_against_4 : decode cX7_against 4 = .ok (.invokevirtual 175, 3) := by decide +kernel
theorem dX7_against_7 : decode cX7_against 7 = .ok (.ifCond .ne 5, 3) := by decide +kernel
theorem dX7_against_10 : decode cX7_against 10 = .ok (.iconst 1, 1) := by decide +kernel
theorem dX7_against_11 : decode cX7_against 11 = .ok (.ireturn, 1) := by decide +kernel
theorem dX7_against_12 : decode cX7_against 12 = .ok (.aload_n 0, 1) := by decide +kernel
theorem dX7_against_13 : decode cX7_against 13 = .ok (.iload_n 1, 1) := by decide +kernel
theorem dX7_against_14 : decode cX7_against 14 = .ok (.iload_n 2, 1) := by decide +kernel
theorem dX7_against_15 : decode cX7_against 15 = .ok (.iload_n 3, 1) := by decide +kernel
theorem dX7_against_16 : decode cX7_against 16 = .ok (.iconst 3, 1) := by decide +kernel
theorem dX7_against_17 : decode cX7_against 17 = .ok (.invokevirtual 179, 3) := by decide +kernel
theorem dX7_against_20 : decode cX7_against 20 = .ok (.ifCond .eq 5, 3) := by decide +kernel
theorem dX7_against_23 : decode cX7_against 23 = .ok (.iconst 2, 1) := by decide +kernel
theorem dX7_against_24 : decode cX7_against 24 = .ok (.ireturn, 1) := by decide +kernel
theorem dX7_against_25 : decode cX7_against 25 = .ok (.aload_n 0, 1) := by decide +kernel
theorem dX7_against_26 : decode cX7_against 26 = .ok (.iload_n 1, 1) := by decide +kernel
theorem dX7_against_27 : decode cX7_against 27 = .ok (.iload_n 2, 1) := by decide +kernel
theorem dX7_against_28 : decode cX7_against 28 = .ok (.iload_n 3, 1) := by decide +kernel
theorem dX7_against_29 : decode cX7_against 29 = .ok (.iconst 3, 1) := by decide +kernel
theorem dX7_against_30 : decode cX7_against 30 = .ok (.invokevirtual 182, 3) := by decide +kernel
theorem dX7_against_33 : decode cX7_against 33 = .ok (.ifCond .eq 5, 3) := by decide +kernel
theorem dX7_against_36 : decode cX7_against 36 = .ok (.iconst 3, 1) := by decide +kernel
theorem dX7_against_37 : decode cX7_against 37 = .ok (.ireturn, 1) := by decide +kernel
theorem dX7_against_38 : decode cX7_against 38 = .ok (.aload_n 0, 1) := by decide +kernel
theorem dX7_against_39 : decode cX7_against 39 = .ok (.iload_n 1, 1) := by decide +kernel
theorem dX7_against_40 : decode cX7_against 40 = .ok (.invokevirtual 185, 3) := by decide +kernel
theorem dX7_against_43 : decode cX7_against 43 = .ok (.ifCond .eq 5, 3) := by decide +kernel
theorem dX7_against_46 : decode cX7_against 46 = .ok (.iconst 4, 1) := by decide +kernel
theorem dX7_against_47 : decode cX7_against 47 = .ok (.ireturn, 1) := by decide +kernel
theorem dX7_against_48 : decode cX7_against 48 = .ok (.aload_n 0, 1) := by decide +kernel
theorem dX7_against_49 : decode cX7_against 49 = .ok (.iload_n 1, 1) := by decide +kernel
theorem dX7_against_50 : decode cX7_against 50 = .ok (.iload_n 2, 1) := by decide +kernel
theorem dX7_against_51 : decode cX7_against 51 = .ok (.iload_n 3, 1) := by decide +kernel
theorem dX7_against_52 : decode cX7_against 52 = .ok (.iconst 5, 1) := by decide +kernel
theorem dX7_against_53 : decode cX7_against 53 = .ok (.invokevirtual 182, 3) := by decide +kernel
theorem dX7_against_56 : decode cX7_against 56 = .ok (.ifCond .eq 5, 3) := by decide +kernel
theorem dX7_against_59 : decode cX7_against 59 = .ok (.iconst 5, 1) := by decide +kernel
theorem dX7_against_60 : decode cX7_against 60 = .ok (.ireturn, 1) := by decide +kernel
theorem dX7_against_61 : decode cX7_against 61 = .ok (.aload_n 0, 1) := by decide +kernel
theorem dX7_against_62 : decode cX7_against 62 = .ok (.iload_n 1, 1) := by decide +kernel
theorem dX7_against_63 : decode cX7_against 63 = .ok (.iload_n 2, 1) := by decide +kernel
theorem dX7_against_64 : decode cX7_against 64 = .ok (.iload_n 3, 1) := by decide +kernel
theorem dX7_against_65 : decode cX7_against 65 = .ok (.bipush 6, 2) := by decide +kernel
theorem dX7_against_67 : decode cX7_against 67 = .ok (.invokevirtual 182, 3) := by decide +kernel
theorem dX7_against_70 : decode cX7_against 70 = .ok (.ifCond .eq 6, 3) := by decide +kernel
theorem dX7_against_73 : decode cX7_against 73 = .ok (.bipush 6, 2) := by decide +kernel
theorem dX7_against_75 : decode cX7_against 75 = .ok (.ireturn, 1) := by decide +kernel
theorem dX7_against_76 : decode cX7_against 76 = .ok (.aload_n 0, 1) := by decide +kernel
theorem dX7_against_77 : decode cX7_against 77 = .ok (.getfield 30, 3) := by decide +kernel
theorem dX7_against_80 : decode cX7_against 80 = .ok (.iload_n 1, 1) := by decide +kernel
theorem dX7_against_81 : decode cX7_against 81 = .ok (.iaload, 1) := by decide +kernel
theorem dX7_against_82 : decode cX7_against 82 = .ok (.iconst 3, 1) := by decide +kernel
theorem dX7_against_83 : decode cX7_against 83 = .ok (.if_icmp .ne 17, 3) := by decide +kernel
theorem dX7_against_86 : decode cX7_against 86 = .ok (.aload_n 0, 1) := by decide +kernel
theorem dX7_against_87 : decode cX7_against 87 = .ok (.iload_n 1, 1) := by decide +kernel
theorem dX7_against_88 : decode cX7_against 88 = .ok (.iload_n 2, 1) := by decide +kernel
theorem dX7_against_89 : decode cX7_against 89 = .ok (.iload_n 3, 1) := by decide +kernel
theorem dX7_against_90 : decode cX7_against 90 = .ok (.iconst 4, 1) := by decide +kernel
theorem dX7_against_91 : decode cX7_against 91 = .ok (.invokevirtual 179, 3) := by decide +kernel
theorem dX7_against_94 : decode cX7_against 94 = .ok (.ifCond .ne 6, 3) := by decide +kernel
theorem dX7_against_97 : decode cX7_against 97 = .ok (.bipush 7, 2) := by decide +kernel
theorem dX7_against_99 : decode cX7_against 99 = .ok (.ireturn, 1) := by decide +kernel
theorem dX7_against_100 : decode cX7_against 100 = .ok (.aload_n 0, 1) := by decide +kernel
theorem dX7_against_101 : decode cX7_against 101 = .ok (.iload_n 1, 1) := by decide +kernel
theorem dX7_against_102 : decode cX7_against 102 = .ok (.iload_n 2, 1) := by decide +kernel
theorem dX7_against_103 : decode cX7_against 103 = .ok (.iload_n 3, 1) := by decide +kernel
theorem dX7_against_104 : decode cX7_against 104 = .ok (.bipush 8, 2) := by decide +kernel
theorem dX7_against_106 : decode cX7_against 106 = .ok (.invokevirtual 182, 3) := by decide +kernel
theorem dX7_against_109 : decode cX7_against 109 = .ok (.ifCond .eq 6, 3) := by decide +kernel
theorem dX7_against_112 : decode cX7_against 112 = .ok (.bipush 8, 2) := by decide +kernel
theorem dX7_against_114 : decode cX7_against 114 = .ok (.ireturn, 1) := by decide +kernel
theorem dX7_against_115 : decode cX7_against 115 = .ok (.aload_n 0, 1) := by decide +kernel
theorem dX7_against_116 : decode cX7_against 116 = .ok (.iload_n 1, 1) := by decide +kernel
theorem dX7_against_117 : decode cX7_against 117 = .ok (.invokevirtual 188, 3) := by decide +kernel
theorem dX7_against_120 : decode cX7_against 120 = .ok (.ifCond .eq 6, 3) := by decide +kernel
theorem dX7_against_123 : decode cX7_against 123 = .ok (.bipush 9, 2) := by decide +kernel
theorem dX7_against_125 : decode cX7_against 125 = .ok (.ireturn, 1) := by decide +kernel
theorem dX7_against_126 : decode cX7_against 126 = .ok (.aload_n 0, 1) := by decide +kernel
theorem dX7_against_127 : decode cX7_against 127 = .ok (.iload_n 1, 1) := by decide +kernel
theorem dX7_against_128 : decode cX7_against 128 = .ok (.iload_n 2, 1) := by decide +kernel
theorem dX7_against_129 : decode cX7_against 129 = .ok (.iload_n 3, 1) := by decide +kernel
theorem dX7_against_130 : decode cX7_against 130 = .ok (.bipush 10, 2) := by decide +kernel
theorem dX7_against_132 : decode cX7_against 132 = .ok (.invokevirtual 182, 3) := by decide +kernel
theorem dX7_against_135 : decode cX7_against 135 = .ok (.ifCond .eq 8, 3) := by decide +kernel
theorem dX7_against_138 : decode cX7_against 138 = .ok (.bipush 10, 2) := by decide +kernel
theorem dX7_against_140 : decode cX7_against 140 = .ok (.goto 4, 3) := by decide +kernel
theorem dX7_against_143 : decode cX7_against 143 = .ok (.iconst 0, 1) := by decide +kernel
theorem dX7_against_144 : decode cX7_against 144 = .ok (.ireturn, 1) := by decide +kernel
theorem dX7_takes_0 : decode cX7_takes 0 = .ok (.iconst 0, 1) := by decide +kernel
theorem dX7_takes_1 : decode cX7_takes 1 = .ok (.istore_n 2, 1) := by decide +kernel
theorem dX7_takes_2 : decode cX7_takes 2 = .ok (.iload_n 2, 1) := by decide +kernel
theorem dX7_takes_3 : decode cX7_takes 3 = .ok (.sipush 8000, 3) := by decide +kernel
theorem dX7_takes_6 : decode cX7_takes 6 = .ok (.if_icmp .ge 31, 3) := by decide +kernel
theorem dX7_takes_9 : decode cX7_takes 9 = .ok (.aload_n 0, 1) := by decide +kernel
theorem dX7_takes_10 : decode cX7_takes 10 = .ok (.getfield 112, 3) := by decide +kernel
theorem dX7_takes_13 : decode cX7_takes 13 = .ok (.iload_n 2, 1) := by decide +kernel
theorem dX7_takes_14 : decode cX7_takes 14 = .ok (.aload_n 0, 1) := by decide +kernel
theorem dX7_takes_15 : decode cX7_takes 15 = .ok (.getfield 13, 3) := by decide +kernel
theorem dX7_takes_18 : decode cX7_takes 18 = .ok (.iload_n 2, 1) := by decide +kernel
theorem dX7_takes_19 : decode cX7_takes 19 = .ok (.baload, 1) := by decide +kernel
theorem dX7_takes_20 : decode cX7_takes 20 = .ok (.iconst 3, 1) := by decide +kernel
theorem dX7_takes_21 : decode cX7_takes 21 = .ok (.iand, 1) := by decide +kernel
theorem dX7_takes_22 : decode cX7_takes 22 = .ok (.ifCond .eq 7, 3) := by decide +kernel
theorem dX7_takes_25 : decode cX7_takes 25 = .ok (.iconst 1, 1) := by decide +kernel
theorem dX7_takes_26 : decode cX7_takes 26 = .ok (.goto 4, 3) := by decide +kernel
theorem dX7_takes_29 : decode cX7_takes 29 = .ok (.iconst 0, 1) := by decide +kernel
theorem dX7_takes_30 : decode cX7_takes 30 = .ok (.bastore, 1) := by decide +kernel
theorem dX7_takes_31 : decode cX7_takes 31 = .ok (.iinc 2 1, 3) := by decide +kernel
theorem dX7_takes_34 : decode cX7_takes 34 = .ok (.goto (-32), 3) := by decide +kernel
theorem dX7_takes_37 : decode cX7_takes 37 = .ok (.iconst 0, 1) := by decide +kernel
theorem dX7_takes_38 : decode cX7_takes 38 = .ok (.istore_n 2, 1) := by decide +kernel
theorem dX7_takes_39 : decode cX7_takes 39 = .ok (.iload_n 2, 1) := by decide +kernel
theorem dX7_takes_40 : decode cX7_takes 40 = .ok (.aload_n 0, 1) := by decide +kernel
theorem dX7_takes_41 : decode cX7_takes 41 = .ok (.getfield 131, 3) := by decide +kernel
theorem dX7_takes_44 : decode cX7_takes 44 = .ok (.if_icmp .ge 66, 3) := by decide +kernel
theorem dX7_takes_47 : decode cX7_takes 47 = .ok (.iconst 0, 1) := by decide +kernel
theorem dX7_takes_48 : decode cX7_takes 48 = .ok (.istore_n 3, 1) := by decide +kernel
theorem dX7_takes_49 : decode cX7_takes 49 = .ok (.aload_n 0, 1) := by decide +kernel
theorem dX7_takes_50 : decode cX7_takes 50 = .ok (.getfield 87, 3) := by decide +kernel
theorem dX7_takes_53 : decode cX7_takes 53 = .ok (.iload_n 2, 1) := by decide +kernel
theorem dX7_takes_54 : decode cX7_takes 54 = .ok (.baload, 1) := by decide +kernel
theorem dX7_takes_55 : decode cX7_takes 55 = .ok (.ifCond .eq 49, 3) := by decide +kernel
theorem dX7_takes_58 : decode cX7_takes 58 = .ok (.iload_n 2, 1) := by decide +kernel
theorem dX7_takes_59 : decode cX7_takes 59 = .ok (.iload_n 1, 1) := by decide +kernel
theorem dX7_takes_60 : decode cX7_takes 60 = .ok (.if_icmp .eq 44, 3) := by decide +kernel
theorem dX7_takes_63 : decode cX7_takes 63 = .ok (.iload_n 3, 1) := by decide +kernel
theorem dX7_takes_64 : decode cX7_takes 64 = .ok (.aload_n 0, 1) := by decide +kernel
theorem dX7_takes_65 : decode cX7_takes 65 = .ok (.getfield 36, 3) := by decide +kernel
theorem dX7_takes_68 : decode cX7_takes 68 = .ok (.iload_n 2, 1) := by decide +kernel
theorem dX7_takes_69 : decode cX7_takes 69 = .ok (.iaload, 1) := by decide +kernel
theorem dX7_takes_70 : decode cX7_takes 70 = .ok (.if_icmp .ge 34, 3) := by decide +kernel
theorem dX7_takes_73 : decode cX7_takes 73 = .ok (.aload_n 0, 1) := by decide +kernel
theorem dX7_takes_74 : decode cX7_takes 74 = .ok (.getfield 112, 3) := by decide +kernel
theorem dX7_takes_77 : decode cX7_takes 77 = .ok (.sipush 200, 3) := by decide +kernel
theorem dX7_takes_80 : decode cX7_takes 80 = .ok (.aload_n 0, 1) := by decide +kernel
theorem dX7_takes_81 : decode cX7_takes 81 = .ok (.getfield 90, 3) := by decide +kernel
theorem dX7_takes_84 : decode cX7_takes 84 = .ok (.iload_n 2, 1) := by decide +kernel
theorem dX7_takes_85 : decode cX7_takes 85 = .ok (.iaload, 1) := by decide +kernel
theorem dX7_takes_86 : decode cX7_takes 86 = .ok (.imul, 1) := by decide +kernel
theorem dX7_takes_87 : decode cX7_takes 87 = .ok (.aload_n 0, 1) := by decide +kernel
theorem dX7_takes_88 : decode cX7_takes 88 = .ok (.getfield 93, 3) := by decide +kernel
theorem dX7_takes_91 : decode cX7_takes 91 = .ok (.iload_n 2, 1) := by decide +kernel
theorem dX7_takes_92 : decode cX7_takes 92 = .ok (.iaload, 1) := by decide +kernel
theorem dX7_takes_93 : decode cX7_takes 93 = .ok (.iadd, 1) := by decide +kernel
theorem dX7_takes_94 : decode cX7_takes 94 = .ok (.iload_n 3, 1) := by decide +kernel
theorem dX7_takes_95 : decode cX7_takes 95 = .ok (.iadd, 1) := by decide +kernel
theorem dX7_takes_96 : decode cX7_takes 96 = .ok (.iconst 1, 1) := by decide +kernel
theorem dX7_takes_97 : decode cX7_takes 97 = .ok (.bastore, 1) := by decide +kernel
theorem dX7_takes_98 : decode cX7_takes 98 = .ok (.iinc 3 1, 3) := by decide +kernel
theorem dX7_takes_101 : decode cX7_takes 101 = .ok (.goto (-52), 3) := by decide +kernel
theorem dX7_takes_104 : decode cX7_takes 104 = .ok (.iinc 2 1, 3) := by decide +kernel
theorem dX7_takes_107 : decode cX7_takes 107 = .ok (.goto (-68), 3) := by decide +kernel
theorem dX7_takes_110 : decode cX7_takes 110 = .ok (.return_, 1) := by decide +kernel
set_option maxRecDepth 20000 in
theorem ggX7_goodSpot_X7_against : GoodIn wsX7_goodSpot wsX7_against := goodIn_r _ [9, 10, 11, 12, 13, 8, 14, 15, 16, 17, 18, 19, 20, 21, 22, 23, 24, 25, 26, 27, 28, 29, 30, 31, 32, 33, 34, 35, 36, 37, 38, 39, 40, 41, 42, 43, 44, 45, 46, 47, 48, 49, 50, 51, 52, 53, 54, 55, 56, 57, 58, 59, 60, 61, 62, 63, 64, 65, 66, 67, 68, 69, 70, 71, 72, 73, 74, 75, 76, 77, 78, 79, 80, 81, 82, 93, 94, 95, 96, 97, 98, 99, 100, 101, 102, 103, 104, 105, 106, 107, 108, 109, 110, 111, 112, 113, 114, 115, 116, 117, 118, 119, 120, 121, 122, 123, 124, 125, 126, 127, 128, 129, 130, 131, 132, 133, 134, 135, 136, 137, 138, 139, 140, 141, 142, 143] (by decide +kernel) (by decide +kernel)
set_option maxRecDepth 20000 in
theorem gX7_goodSpot_X7_against : GoodIn wsX7_goodSpot (wsV RX7 191 RX7 yX7_against wsX7_against) := goodIn_app (goodIn_of _ (by decide +kernel)) ggX7_goodSpot_X7_against
set_option maxRecDepth 20000 in
theorem ggX7_goodSpot_X7_isFull : GoodIn wsX7_goodSpot wsX7_isFull := goodIn_r _ [75, 33, 34, 54, 76, 93, 94, 95, 96, 97, 98, 99, 100, 101, 102, 103, 104, 105, 106, 107, 108, 109, 110, 111, 112, 113, 114, 115, 116, 117, 118, 119, 120, 121, 122, 123, 124, 125, 126, 127, 128, 129, 130, 131, 132, 133, 134, 135, 136, 137, 138, 139, 140, 141, 142, 143] (by decide +kernel) (by decide +kernel)
set_option maxRecDepth 20000 in
theorem gX7_goodSpot_X7_isFull : GoodIn wsX7_goodSpot (wsV RX7 185 RX7 yX7_isFull wsX7_isFull) := goodIn_app (goodIn_of _ (by decide +kernel)) ggX7_goodSpot_X7_isFull
set_option maxRecDepth 20000 in
theorem ggX7_goodSpot_X7_isOutOfMonth : GoodIn wsX7_goodSpot wsX7_isOutOfMonth := goodIn_r _ [80, 10, 81, 82, 93, 94, 95, 96, 97, 98, 99, 100, 101, 102, 103, 104, 105, 106, 107, 108, 109, 110, 111, 112, 113, 114, 115, 116, 117, 118, 119, 120, 121, 122, 123, 124, 125, 126, 127, 128, 129, 130, 131, 132, 133, 134, 135, 136, 137, 138, 139, 140, 141, 142, 143] (by decide +kernel) (by decide +kernel)
set_option maxRecDepth 20000 in
theorem gX7_goodSpot_X7_isOutOfMonth : GoodIn wsX7_goodSpot (wsV RX7 188 RX7 yX7_isOutOfMonth wsX7_isOutOfMonth) := goodIn_app (goodIn_of _ (by decide +kernel)) ggX7_goodSpot_X7_isOutOfMonth
set_option maxRecDepth 20000 in
theorem ggX7_goodSpot_X7_anyStops : GoodIn wsX7_goodSpot wsX7_anyStops := goodIn_r _ [32, 33, 34, 35, 36, 37, 8, 38, 10, 39, 40, 41, 42, 43, 44, 15, 45, 46, 47, 48, 49, 50, 51, 52, 53, 54, 55, 56, 57, 58, 59, 60, 61, 62, 63, 64, 65, 66, 67, 68, 69, 70, 71, 93, 94, 95, 96, 97, 98, 99, 100, 101, 102, 103, 104, 105, 106, 107, 108, 109, 110, 111, 112, 113, 114, 115, 116, 117, 118, 119, 120, 121, 122, 123, 124, 125, 126, 127, 128, 129, 130, 131, 132, 133, 134, 135, 136, 137, 138, 139, 140, 141, 142, 143] (by decide +kernel) (by decide +kernel)
set_option maxRecDepth 20000 in
theorem gX7_goodSpot_X7_anyStops : GoodIn wsX7_goodSpot (wsV RX7 182 RX7 yX7_anyStops wsX7_anyStops) := goodIn_app (goodIn_of _ (by decide +kernel)) ggX7_goodSpot_X7_anyStops
set_option maxRecDepth 20000 in
theorem ggX7_goodSpot_X7_takes : GoodIn wsX7_goodSpot wsX7_takes := goodIn_r _ [86, 87, 28, 33, 34, 15, 43, 44, 93, 94, 95, 96, 97, 98, 99, 100, 101, 102, 103, 104, 105, 106, 107, 108, 109, 110, 111, 112, 113, 114, 115, 116, 117, 118, 119, 120, 121, 122, 123, 124, 125, 126, 127, 128, 129, 130, 131, 132, 133, 134, 135, 136, 137, 138, 139, 140, 141, 142, 143] (by decide +kernel) (by decide +kernel)
set_option maxRecDepth 20000 in
theorem gX7_goodSpot_X7_takes : GoodIn wsX7_goodSpot (wsV RX7 195 RX7 yX7_takes wsX7_takes) := goodIn_app (goodIn_of _ (by decide +kernel)) ggX7_goodSpot_X7_takes
set_option maxRecDepth 20000 in
theorem ggX7_goodSpot_X7_goodIn : GoodIn wsX7_goodSpot wsX7_goodIn := goodIn_r _ [91, 92, 16, 87, 15, 5, 6, 7, 8, 9, 10, 11, 12, 13, 14, 17, 18, 19, 20, 21, 22, 23, 24, 25, 26, 27, 28, 29, 30, 31, 32, 33, 34, 35, 36, 37, 38, 39, 40, 41, 42, 43, 44, 45, 46, 47, 48, 49, 50, 51, 52, 53, 54, 55, 56, 57, 58, 59, 60, 61, 62, 63, 64, 65, 66, 67, 68, 69, 70, 71, 72, 73, 74, 75, 76, 77, 78, 79, 80, 81, 82, 93, 94, 95, 96, 97, 98, 99, 100, 101, 102, 103, 104, 105, 106, 107, 108, 109, 110, 111, 112, 113, 114, 115, 116, 117, 118, 119, 120, 121, 122, 123, 124, 125, 126, 127, 128, 129, 130, 131, 132, 133, 134, 135, 136, 137, 138, 139, 140, 141, 142, 143] (by decide +kernel) (by decide +kernel)
set_option maxRecDepth 20000 in
theorem gX7_goodSpot_X7_goodIn : GoodIn wsX7_goodSpot (wsV RX7 199 RX7 yX7_goodIn wsX7_goodIn) := goodIn_app (goodIn_of _ (by decide +kernel)) ggX7_goodSpot_X7_goodIn
theorem dX7_goodSpot_0 : decode cX7_goodSpot 0 = .ok (.iconst 0, 1) := by decide +kernel
theorem dX7_goodSpot_1 : decode cX7_goodSpot 1 = .ok (.istore_n 2, 1) := by decide +kernel
theorem dX7_goodSpot_2 : decode cX7_goodSpot 2 = .ok (.iload_n 2, 1) := by decide +kernel
theorem dX7_goodSpot_3 : decode cX7_goodSpot 3 = .ok (.aload_n 0, 1) := by decide +kernel
theorem dX7_goodSpot_4 : decode cX7_goodSpot 4 = .ok (.getfield 60, 3) := by decide +kernel
theorem dX7_goodSpot_7 : decode cX7_goodSpot 7 = .ok (.iload_n 1, 1) := by decide +kernel
theorem dX7_goodSpot_8 : decode cX7_goodSpot 8 = .ok (.iaload, 1) := by decide +kernel
theorem dX7_goodSpot_9 : decode cX7_goodSpot 9 = .ok (.if_icmp .ge 54, 3) := by decide +kernel
theorem dX7_goodSpot_12 : decode cX7_goodSpot 12 = .ok (.bipush 12, 2) := by decide +kernel
theorem dX7_goodSpot_14 : decode cX7_goodSpot 14 = .ok (.iload_n 1, 1) := by decide +kernel
theorem dX7_goodSpot_15 : decode cX7_goodSpot 15 = .ok (.imul, 1) := by decide +kernel
theorem dX7_goodSpot_16 : decode cX7_goodSpot 16 = .ok (.iload_n 2, 1) := by decide +kernel
theorem dX7_goodSpot_17 : decode cX7_goodSpot 17 = .ok (.iadd, 1) := by decide +kernel
theorem dX7_goodSpot_18 : decode cX7_goodSpot 18 = .ok (.istore_n 3, 1) := by decide +kernel
theorem dX7_goodSpot_19 : decode cX7_goodSpot 19 = .ok (.aload_n 0, 1) := by decide +kernel
theorem dX7_goodSpot_20 : decode cX7_goodSpot 20 = .ok (.iload_n 1, 1) := by decide +kernel
theorem dX7_goodSpot_21 : decode cX7_goodSpot 21 = .ok (.aload_n 0, 1) := by decide +kernel
theorem dX7_goodSpot_22 : decode cX7_goodSpot 22 = .ok (.getfield 54, 3) := by decide +kernel
theorem dX7_goodSpot_25 : decode cX7_goodSpot 25 = .ok (.iload_n 3, 1) := by decide +kernel
theorem dX7_goodSpot_26 : decode cX7_goodSpot 26 = .ok (.iaload, 1) := by decide +kernel
theorem dX7_goodSpot_27 : decode cX7_goodSpot 27 = .ok (.aload_n 0, 1) := by decide +kernel
theorem dX7_goodSpot_28 : decode cX7_goodSpot 28 = .ok (.getfield 57, 3) := by decide +kernel
theorem dX7_goodSpot_31 : decode cX7_goodSpot 31 = .ok (.iload_n 3, 1) := by decide +kernel
theorem dX7_goodSpot_32 : decode cX7_goodSpot 32 = .ok (.iaload, 1) := by decide +kernel
theorem dX7_goodSpot_33 : decode cX7_goodSpot 33 = .ok (.invokevirtual 191, 3) := by decide +kernel
theorem dX7_goodSpot_36 : decode cX7_goodSpot 36 = .ok (.ifCond .ne 21, 3) := by decide +kernel
theorem dX7_goodSpot_39 : decode cX7_goodSpot 39 = .ok (.sipush 200, 3) := by decide +kernel
theorem dX7_goodSpot_42 : decode cX7_goodSpot 42 = .ok (.aload_n 0, 1) := by decide +kernel
theorem dX7_goodSpot_43 : decode cX7_goodSpot 43 = .ok (.getfield 54, 3) := by decide +kernel
theorem dX7_goodSpot_46 : decode cX7_goodSpot 46 = .ok (.iload_n 3, 1) := by decide +kernel
theorem dX7_goodSpot_47 : decode cX7_goodSpot 47 = .ok (.iaload, 1) := by decide +kernel
theorem dX7_goodSpot_48 : decode cX7_goodSpot 48 = .ok (.imul, 1) := by decide +kernel
theorem dX7_goodSpot_49 : decode cX7_goodSpot 49 = .ok (.aload_n 0, 1) := by decide +kernel
theorem dX7_goodSpot_50 : decode cX7_goodSpot 50 = .ok (.getfield 57, 3) := by decide +kernel
theorem dX7_goodSpot_53 : decode cX7_goodSpot 53 = .ok (.iload_n 3, 1) := by decide +kernel
theorem dX7_goodSpot_54 : decode cX7_goodSpot 54 = .ok (.iaload, 1) := by decide +kernel
theorem dX7_goodSpot_55 : decode cX7_goodSpot 55 = .ok (.iadd, 1) := by decide +kernel
theorem dX7_goodSpot_56 : decode cX7_goodSpot 56 = .ok (.ireturn, 1) := by decide +kernel
theorem dX7_goodSpot_57 : decode cX7_goodSpot 57 = .ok (.iinc 2 1, 3) := by decide +kernel
theorem dX7_goodSpot_60 : decode cX7_goodSpot 60 = .ok (.goto (-58), 3) := by decide +kernel
theorem dX7_goodSpot_63 : decode cX7_goodSpot 63 = .ok (.aload_n 0, 1) := by decide +kernel
theorem dX7_goodSpot_64 : decode cX7_goodSpot 64 = .ok (.getfield 63, 3) := by decide +kernel
theorem dX7_goodSpot_67 : decode cX7_goodSpot 67 = .ok (.iload_n 1, 1) := by decide +kernel
theorem dX7_goodSpot_68 : decode cX7_goodSpot 68 = .ok (.baload, 1) := by decide +kernel
theorem dX7_goodSpot_69 : decode cX7_goodSpot 69 = .ok (.ifCond .eq 31, 3) := by decide +kernel
theorem dX7_goodSpot_72 : decode cX7_goodSpot 72 = .ok (.aload_n 0, 1) := by decide +kernel
theorem dX7_goodSpot_73 : decode cX7_goodSpot 73 = .ok (.iload_n 1, 1) := by decide +kernel
theorem dX7_goodSpot_74 : decode cX7_goodSpot 74 = .ok (.invokevirtual 185, 3) := by decide +kernel
theorem dX7_goodSpot_77 : decode cX7_goodSpot 77 = .ok (.ifCond .ne 23, 3) := by decide +kernel
theorem dX7_goodSpot_80 : decode cX7_goodSpot 80 = .ok (.aload_n 0, 1) := by decide +kernel
theorem dX7_goodSpot_81 : decode cX7_goodSpot 81 = .ok (.iload_n 1, 1) := by decide +kernel
theorem dX7_goodSpot_82 : decode cX7_goodSpot 82 = .ok (.invokevirtual 188, 3) := by decide +kernel
theorem dX7_goodSpot_85 : decode cX7_goodSpot 85 = .ok (.ifCond .ne 15, 3) := by decide +kernel
theorem dX7_goodSpot_88 : decode cX7_goodSpot 88 = .ok (.aload_n 0, 1) := by decide +kernel
theorem dX7_goodSpot_89 : decode cX7_goodSpot 89 = .ok (.iload_n 1, 1) := by decide +kernel
theorem dX7_goodSpot_90 : decode cX7_goodSpot 90 = .ok (.iconst 0, 1) := by decide +kernel
theorem dX7_goodSpot_91 : decode cX7_goodSpot 91 = .ok (.iconst 0, 1) := by decide +kernel
theorem dX7_goodSpot_92 : decode cX7_goodSpot 92 = .ok (.bipush 10, 2) := by decide +kernel
theorem dX7_goodSpot_94 : decode cX7_goodSpot 94 = .ok (.invokevirtual 182, 3) := by decide +kernel
theorem dX7_goodSpot_97 : decode cX7_goodSpot 97 = .ok (.ifCond .eq 5, 3) := by decide +kernel
theorem dX7_goodSpot_100 : decode cX7_goodSpot 100 = .ok (.iconst (-1), 1) := by decide +kernel
theorem dX7_goodSpot_101 : decode cX7_goodSpot 101 = .ok (.ireturn, 1) := by decide +kernel
theorem dX7_goodSpot_102 : decode cX7_goodSpot 102 = .ok (.aload_n 0, 1) := by decide +kernel
theorem dX7_goodSpot_103 : decode cX7_goodSpot 103 = .ok (.iload_n 1, 1) := by decide +kernel
theorem dX7_goodSpot_104 : decode cX7_goodSpot 104 = .ok (.invokevirtual 195, 3) := by decide +kernel
theorem dX7_goodSpot_107 : decode cX7_goodSpot 107 = .ok (.iconst (-1), 1) := by decide +kernel
theorem dX7_goodSpot_108 : decode cX7_goodSpot 108 = .ok (.istore_n 2, 1) := by decide +kernel
theorem dX7_goodSpot_109 : decode cX7_goodSpot 109 = .ok (.iconst 0, 1) := by decide +kernel
theorem dX7_goodSpot_110 : decode cX7_goodSpot 110 = .ok (.istore_n 3, 1) := by decide +kernel
theorem dX7_goodSpot_111 : decode cX7_goodSpot 111 = .ok (.iload_n 3, 1) := by decide +kernel
theorem dX7_goodSpot_112 : decode cX7_goodSpot 112 = .ok (.bipush 40, 2) := by decide +kernel
theorem dX7_goodSpot_114 : decode cX7_goodSpot 114 = .ok (.if_icmp .ge 20, 3) := by decide +kernel
theorem dX7_goodSpot_117 : decode cX7_goodSpot 117 = .ok (.iload_n 2, 1) := by decide +kernel
theorem dX7_goodSpot_118 : decode cX7_goodSpot 118 = .ok (.ifCond .ge 16, 3) := by decide +kernel
theorem dX7_goodSpot_121 : decode cX7_goodSpot 121 = .ok (.aload_n 0, 1) := by decide +kernel
theorem dX7_goodSpot_122 : decode cX7_goodSpot 122 = .ok (.iload_n 1, 1) := by decide +kernel
theorem dX7_goodSpot_123 : decode cX7_goodSpot 123 = .ok (.iload_n 3, 1) := by decide +kernel
theorem dX7_goodSpot_124 : decode cX7_goodSpot 124 = .ok (.invokevirtual 199, 3) := by decide +kernel
theorem dX7_goodSpot_127 : decode cX7_goodSpot 127 = .ok (.istore_n 2, 1) := by decide +kernel
theorem dX7_goodSpot_128 : decode cX7_goodSpot 128 = .ok (.iinc 3 1, 3) := by decide +kernel
theorem dX7_goodSpot_131 : decode cX7_goodSpot 131 = .ok (.goto (-20), 3) := by decide +kernel
theorem dX7_goodSpot_134 : decode cX7_goodSpot 134 = .ok (.iload_n 2, 1) := by decide +kernel
theorem dX7_goodSpot_135 : decode cX7_goodSpot 135 = .ok (.ireturn, 1) := by decide +kernel
set_option maxRecDepth 20000 in
theorem ggX7_goodIn_X7_against : GoodIn wsX7_goodIn wsX7_against := goodIn_r _ [9, 10, 11, 12, 13, 8, 14, 4, 2, 15, 16, 17, 18, 19, 20, 21, 22, 23, 24, 25, 26, 27, 28, 29, 30, 31, 32, 33, 34, 35, 36, 37, 38, 39, 40, 41, 42, 43, 44, 45, 46, 47, 48, 49, 50, 51, 52, 53, 54, 55, 56, 57, 58, 59, 60, 61, 62, 63, 64, 65, 66, 67, 68, 69, 70, 71, 72, 73, 74, 75, 76, 77, 78, 79, 80, 81, 82, 83, 84, 85, 86, 87, 88, 89, 90, 91, 92, 93, 94, 95, 96, 97, 98, 99, 100, 101, 102, 103, 104, 105, 106, 107, 108, 109, 110, 111, 112, 113, 114, 115, 116, 117, 118, 119, 120, 121, 122, 123, 124, 125, 126, 127, 128, 129, 130, 131] (by decide +kernel) (by decide +kernel)
set_option maxRecDepth 20000 in
theorem gX7_goodIn_X7_against : GoodIn wsX7_goodIn (wsV RX7 191 RX7 yX7_against wsX7_against) := goodIn_app (goodIn_of _ (by decide +kernel)) ggX7_goodIn_X7_against
theorem dX7_goodIn_0 : decode cX7_goodIn 0 = .ok (.aload_n 0, 1) := by decide +kernel
theorem dX7_goodIn_1 : decode cX7_goodIn 1 = .ok (.getfield 115, 3) := by decide +kernel
theorem dX7_goodIn_4 : decode cX7_goodIn 4 = .ok (.aload_n 0, 1) := by decide +kernel
theorem dX7_goodIn_5 : decode cX7_goodIn 5 = .ok (.getfield 9, 3) := by decide +kernel
theorem dX7_goodIn_8 : decode cX7_goodIn 8 = .ok (.iload_n 2, 1) := by decide +kernel
theorem dX7_goodIn_9 : decode cX7_goodIn 9 = .ok (.iaload, 1) := by decide +kernel
theorem dX7_goodIn_10 : decode cX7_goodIn 10 = .ok (.iconst 0, 1) := by decide +kernel
theorem dX7_goodIn_11 : decode cX7_goodIn 11 = .ok (.iastore, 1) := by decide +kernel
theorem dX7_goodIn_12 : decode cX7_goodIn 12 = .ok (.aload_n 0, 1) := by decide +kernel
theorem dX7_goodIn_13 : decode cX7_goodIn 13 = .ok (.getfield 9, 3) := by decide +kernel
theorem dX7_goodIn_16 : decode cX7_goodIn 16 = .ok (.iload_n 2, 1) := by decide +kernel
theorem dX7_goodIn_17 : decode cX7_goodIn 17 = .ok (.iaload, 1) := by decide +kernel
theorem dX7_goodIn_18 : decode cX7_goodIn 18 = .ok (.iconst 1, 1) := by decide +kernel
theorem dX7_goodIn_19 : decode cX7_goodIn 19 = .ok (.isub, 1) := by decide +kernel
theorem dX7_goodIn_20 : decode cX7_goodIn 20 = .ok (.istore_n 3, 1) := by decide +kernel
theorem dX7_goodIn_21 : decode cX7_goodIn 21 = .ok (.iload_n 3, 1) := by decide +kernel
theorem dX7_goodIn_22 : decode cX7_goodIn 22 = .ok (.ifCond .lt 44, 3) := by decide +kernel
theorem dX7_goodIn_25 : decode cX7_goodIn 25 = .ok (.aload_n 0, 1) := by decide +kernel
theorem dX7_goodIn_26 : decode cX7_goodIn 26 = .ok (.getfield 115, 3) := by decide +kernel
theorem dX7_goodIn_29 : decode cX7_goodIn 29 = .ok (.iload_n 3, 1) := by decide +kernel
theorem dX7_goodIn_30 : decode cX7_goodIn 30 = .ok (.aload_n 0, 1) := by decide +kernel
theorem dX7_goodIn_31 : decode cX7_goodIn 31 = .ok (.getfield 112, 3) := by decide +kernel
theorem dX7_goodIn_34 : decode cX7_goodIn 34 = .ok (.sipush 200, 3) := by decide +kernel
theorem dX7_goodIn_37 : decode cX7_goodIn 37 = .ok (.iload_n 2, 1) := by decide +kernel
theorem dX7_goodIn_38 : decode cX7_goodIn 38 = .ok (.imul, 1) := by decide +kernel
theorem dX7_goodIn_39 : decode cX7_goodIn 39 = .ok (.iload_n 3, 1) := by decide +kernel
theorem dX7_goodIn_40 : decode cX7_goodIn 40 = .ok (.iadd, 1) := by decide +kernel
theorem dX7_goodIn_41 : decode cX7_goodIn 41 = .ok (.baload, 1) := by decide +kernel
theorem dX7_goodIn_42 : decode cX7_goodIn 42 = .ok (.ifCond .eq 7, 3) := by decide +kernel
theorem dX7_goodIn_45 : decode cX7_goodIn 45 = .ok (.iconst 0, 1) := by decide +kernel
theorem dX7_goodIn_46 : decode cX7_goodIn 46 = .ok (.goto 13, 3) := by decide +kernel
theorem dX7_goodIn_49 : decode cX7_goodIn 49 = .ok (.aload_n 0, 1) := by decide +kernel
theorem dX7_goodIn_50 : decode cX7_goodIn 50 = .ok (.getfield 115, 3) := by decide +kernel
theorem dX7_goodIn_53 : decode cX7_goodIn 53 = .ok (.iload_n 3, 1) := by decide +kernel
theorem dX7_goodIn_54 : decode cX7_goodIn 54 = .ok (.iconst 1, 1) := by decide +kernel
theorem dX7_goodIn_55 : decode cX7_goodIn 55 = .ok (.iadd, 1) := by decide +kernel
theorem dX7_goodIn_56 : decode cX7_goodIn 56 = .ok (.iaload, 1) := by decide +kernel
theorem dX7_goodIn_57 : decode cX7_goodIn 57 = .ok (.iconst 1, 1) := by decide +kernel
theorem dX7_goodIn_58 : decode cX7_goodIn 58 = .ok (.iadd, 1) := by decide +kernel
theorem dX7_goodIn_59 : decode cX7_goodIn 59 = .ok (.iastore, 1) := by decide +kernel
theorem dX7_goodIn_60 : decode cX7_goodIn 60 = .ok (.iinc 3 (-1), 3) := by decide +kernel
theorem dX7_goodIn_63 : decode cX7_goodIn 63 = .ok (.goto (-42), 3) := by decide +kernel
theorem dX7_goodIn_66 : decode cX7_goodIn 66 = .ok (.iconst 0, 1) := by decide +kernel
theorem dX7_goodIn_67 : decode cX7_goodIn 67 = .ok (.istore_n 3, 1) := by decide +kernel
theorem dX7_goodIn_68 : decode cX7_goodIn 68 = .ok (.iload_n 3, 1) := by decide +kernel
theorem dX7_goodIn_69 : decode cX7_goodIn 69 = .ok (.aload_n 0, 1) := by decide +kernel
theorem dX7_goodIn_70 : decode cX7_goodIn 70 = .ok (.getfield 36, 3) := by decide +kernel
theorem dX7_goodIn_73 : decode cX7_goodIn 73 = .ok (.iload_n 1, 1) := by decide +kernel
theorem dX7_goodIn_74 : decode cX7_goodIn 74 = .ok (.iaload, 1) := by decide +kernel
theorem dX7_goodIn_75 : decode cX7_goodIn 75 = .ok (.iadd, 1) := by decide +kernel
theorem dX7_goodIn_76 : decode cX7_goodIn 76 = .ok (.aload_n 0, 1) := by decide +kernel
theorem dX7_goodIn_77 : decode cX7_goodIn 77 = .ok (.getfield 9, 3) := by decide +kernel
theorem dX7_goodIn_80 : decode cX7_goodIn 80 = .ok (.iload_n 2, 1) := by decide +kernel
theorem dX7_goodIn_81 : decode cX7_goodIn 81 = .ok (.iaload, 1) := by decide +kernel
theorem dX7_goodIn_82 : decode cX7_goodIn 82 = .ok (.if_icmp .gt 42, 3) := by decide +kernel
theorem dX7_goodIn_85 : decode cX7_goodIn 85 = .ok (.aload_n 0, 1) := by decide +kernel
theorem dX7_goodIn_86 : decode cX7_goodIn 86 = .ok (.getfield 115, 3) := by decide +kernel
theorem dX7_goodIn_89 : decode cX7_goodIn 89 = .ok (.iload_n 3, 1) := by decide +kernel
theorem dX7_goodIn_90 : decode cX7_goodIn 90 = .ok (.iaload, 1) := by decide +kernel
theorem dX7_goodIn_91 : decode cX7_goodIn 91 = .ok (.aload_n 0, 1) := by decide +kernel
theorem dX7_goodIn_92 : decode cX7_goodIn 92 = .ok (.getfield 36, 3) := by decide +kernel
theorem dX7_goodIn_95 : decode cX7_goodIn 95 = .ok (.iload_n 1, 1) := by decide +kernel
theorem dX7_goodIn_96 : decode cX7_goodIn 96 = .ok (.iaload, 1) := by decide +kernel
theorem dX7_goodIn_97 : decode cX7_goodIn 97 = .ok (.if_icmp .lt 21, 3) := by decide +kernel
theorem dX7_goodIn_100 : decode cX7_goodIn 100 = .ok (.aload_n 0, 1) := by decide +kernel
theorem dX7_goodIn_101 : decode cX7_goodIn 101 = .ok (.iload_n 1, 1) := by decide +kernel
theorem dX7_goodIn_102 : decode cX7_goodIn 102 = .ok (.iload_n 2, 1) := by decide +kernel
theorem dX7_goodIn_103 : decode cX7_goodIn 103 = .ok (.iload_n 3, 1) := by decide +kernel
theorem dX7_goodIn_104 : decode cX7_goodIn 104 = .ok (.invokevirtual 191, 3) := by decide +kernel
theorem dX7_goodIn_107 : decode cX7_goodIn 107 = .ok (.ifCond .ne 11, 3) := by decide +kernel
theorem dX7_goodIn_110 : decode cX7_goodIn 110 = .ok (.sipush 200, 3) := by decide +kernel
theorem dX7_goodIn_113 : decode cX7_goodIn 113 = .ok (.iload_n 2, 1) := by decide +kernel
theorem dX7_goodIn_114 : decode cX7_goodIn 114 = .ok (.imul, 1) := by decide +kernel
theorem dX7_goodIn_115 : decode cX7_goodIn 115 = .ok (.iload_n 3, 1) := by decide +kernel
theorem dX7_goodIn_116 : decode cX7_goodIn 116 = .ok (.iadd, 1) := by decide +kernel
theorem dX7_goodIn_117 : decode cX7_goodIn 117 = .ok (.ireturn, 1) := by decide +kernel
theorem dX7_goodIn_118 : decode cX7_goodIn 118 = .ok (.iinc 3 1, 3) := by decide +kernel
theorem dX7_goodIn_121 : decode cX7_goodIn 121 = .ok (.goto (-53), 3) := by decide +kernel
theorem dX7_goodIn_124 : decode cX7_goodIn 124 = .ok (.iconst (-1), 1) := by decide +kernel
theorem dX7_goodIn_125 : decode cX7_goodIn 125 = .ok (.ireturn, 1) := by decide +kernel
theorem dX7_bits_0 : decode cX7_bits 0 = .ok (.iconst 0, 1) := by decide +kernel
theorem dX7_bits_1 : decode cX7_bits 1 = .ok (.istore_n 1, 1) := by decide +kernel
theorem dX7_bits_2 : decode cX7_bits 2 = .ok (.iconst 0, 1) := by decide +kernel
theorem dX7_bits_3 : decode cX7_bits 3 = .ok (.istore_n 2, 1) := by decide +kernel
theorem dX7_bits_4 : decode cX7_bits 4 = .ok (.iload_n 2, 1) := by decide +kernel
theorem dX7_bits_5 : decode cX7_bits 5 = .ok (.bipush 8, 2) := by decide +kernel
theorem dX7_bits_7 : decode cX7_bits 7 = .ok (.if_icmp .ge 17, 3) := by decide +kernel
theorem dX7_bits_10 : decode cX7_bits 10 = .ok (.iload_n 1, 1) := by decide +kernel
theorem dX7_bits_11 : decode cX7_bits 11 = .ok (.iload_n 0, 1) := by decide +kernel
theorem dX7_bits_12 : decode cX7_bits 12 = .ok (.iload_n 2, 1) := by decide +kernel
theorem dX7_bits_13 : decode cX7_bits 13 = .ok (.ishr, 1) := by decide +kernel
theorem dX7_bits_14 : decode cX7_bits 14 = .ok (.iconst 1, 1) := by decide +kernel
theorem dX7_bits_15 : decode cX7_bits 15 = .ok (.iand, 1) := by decide +kernel
theorem dX7_bits_16 : decode cX7_bits 16 = .ok (.iadd, 1) := by decide +kernel
theorem dX7_bits_17 : decode cX7_bits 17 = .ok (.istore_n 1, 1) := by decide +kernel
theorem dX7_bits_18 : decode cX7_bits 18 = .ok (.iinc 2 1, 3) := by decide +kernel
theorem dX7_bits_21 : decode cX7_bits 21 = .ok (.goto (-17), 3) := by decide +kernel
theorem dX7_bits_24 : decode cX7_bits 24 = .ok (.iload_n 1, 1) := by decide +kernel
theorem dX7_bits_25 : decode cX7_bits 25 = .ok (.ireturn, 1) := by decide +kernel
set_option maxRecDepth 20000 in
theorem ggX7_isAhead_X7_bits : GoodIn wsX7_isAhead wsX7_bits := goodIn_r _ [9] (by decide +kernel) (by decide +kernel)
set_option maxRecDepth 20000 in
theorem gX7_isAhead_X7_bits : GoodIn wsX7_isAhead (va_wsS RX7 205 yX7_bits wsX7_bits) := goodIn_app (goodIn_of _ (by decide +kernel)) ggX7_isAhead_X7_bits
theorem dX7_isAhead_0 : decode cX7_isAhead 0 = .ok (.aload_n 0, 1) := by decide +kernel
theorem dX7_isAhead_1 : decode cX7_isAhead 1 = .ok (.getfield 108, 3) := by decide +kernel
theorem dX7_isAhead_4 : decode cX7_isAhead 4 = .ok (.iload_n 1, 1) := by decide +kernel
theorem dX7_isAhead_5 : decode cX7_isAhead 5 = .ok (.laload, 1) := by decide +kernel
theorem dX7_isAhead_6 : decode cX7_isAhead 6 = .ok (.ldc2_w 203, 3) := by decide +kernel
theorem dX7_isAhead_9 : decode cX7_isAhead 9 = .ok (.lcmp, 1) := by decide +kernel
theorem dX7_isAhead_10 : decode cX7_isAhead 10 = .ok (.ifCond .le 7, 3) := by decide +kernel
theorem dX7_isAhead_13 : decode cX7_isAhead 13 = .ok (.iconst 1, 1) := by decide +kernel
theorem dX7_isAhead_14 : decode cX7_isAhead 14 = .ok (.goto 4, 3) := by decide +kernel
theorem dX7_isAhead_17 : decode cX7_isAhead 17 = .ok (.iconst 0, 1) := by decide +kernel
theorem dX7_isAhead_18 : decode cX7_isAhead 18 = .ok (.istore_n 3, 1) := by decide +kernel
theorem dX7_isAhead_19 : decode cX7_isAhead 19 = .ok (.iload_n 3, 1) := by decide +kernel
theorem dX7_isAhead_20 : decode cX7_isAhead 20 = .ok (.aload_n 0, 1) := by decide +kernel
theorem dX7_isAhead_21 : decode cX7_isAhead 21 = .ok (.getfield 108, 3) := by decide +kernel
theorem dX7_isAhead_24 : decode cX7_isAhead 24 = .ok (.iload_n 2, 1) := by decide +kernel
theorem dX7_isAhead_25 : decode cX7_isAhead 25 = .ok (.laload, 1) := by decide +kernel
theorem dX7_isAhead_26 : decode cX7_isAhead 26 = .ok (.ldc2_w 203, 3) := by decide +kernel
theorem dX7_isAhead_29 : decode cX7_isAhead 29 = .ok (.lcmp, 1) := by decide +kernel
theorem dX7_isAhead_30 : decode cX7_isAhead 30 = .ok (.ifCond .le 7, 3) := by decide +kernel
theorem dX7_isAhead_33 : decode cX7_isAhead 33 = .ok (.iconst 1, 1) := by decide +kernel
theorem dX7_isAhead_34 : decode cX7_isAhead 34 = .ok (.goto 4, 3) := by decide +kernel
theorem dX7_isAhead_37 : decode cX7_isAhead 37 = .ok (.iconst 0, 1) := by decide +kernel
theorem dX7_isAhead_38 : decode cX7_isAhead 38 = .ok (.if_icmp .eq 13, 3) := by decide +kernel
theorem dX7_isAhead_41 : decode cX7_isAhead 41 = .ok (.iload_n 3, 1) := by decide +kernel
theorem dX7_isAhead_42 : decode cX7_isAhead 42 = .ok (.ifCond .ne 7, 3) := by decide +kernel
theorem dX7_isAhead_45 : decode cX7_isAhead 45 = .ok (.iconst 1, 1) := by decide +kernel
theorem dX7_isAhead_46 : decode cX7_isAhead 46 = .ok (.goto 4, 3) := by decide +kernel
theorem dX7_isAhead_49 : decode cX7_isAhead 49 = .ok (.iconst 0, 1) := by decide +kernel
theorem dX7_isAhead_50 : decode cX7_isAhead 50 = .ok (.ireturn, 1) := by decide +kernel
theorem dX7_isAhead_51 : decode cX7_isAhead 51 = .ok (.aload_n 0, 1) := by decide +kernel
theorem dX7_isAhead_52 : decode cX7_isAhead 52 = .ok (.getfield 99, 3) := by decide +kernel
theorem dX7_isAhead_55 : decode cX7_isAhead 55 = .ok (.iload_n 1, 1) := by decide +kernel
theorem dX7_isAhead_56 : decode cX7_isAhead 56 = .ok (.iaload, 1) := by decide +kernel
theorem dX7_isAhead_57 : decode cX7_isAhead 57 = .ok (.invokestatic 205, 3) := by decide +kernel
theorem dX7_isAhead_60 : decode cX7_isAhead 60 = .ok (.istore 4, 2) := by decide +kernel
theorem dX7_isAhead_62 : decode cX7_isAhead 62 = .ok (.aload_n 0, 1) := by decide +kernel
theorem dX7_isAhead_63 : decode cX7_isAhead 63 = .ok (.getfield 99, 3) := by decide +kernel
theorem dX7_isAhead_66 : decode cX7_isAhead 66 = .ok (.iload_n 2, 1) := by decide +kernel
theorem dX7_isAhead_67 : decode cX7_isAhead 67 = .ok (.iaload, 1) := by decide +kernel
theorem dX7_isAhead_68 : decode cX7_isAhead 68 = .ok (.invokestatic 205, 3) := by decide +kernel
theorem dX7_isAhead_71 : decode cX7_isAhead 71 = .ok (.istore 5, 2) := by decide +kernel
theorem dX7_isAhead_73 : decode cX7_isAhead 73 = .ok (.iload 4, 2) := by decide +kernel
theorem dX7_isAhead_75 : decode cX7_isAhead 75 = .ok (.iload 5, 2) := by decide +kernel
theorem dX7_isAhead_77 : decode cX7_isAhead 77 = .ok (.if_icmp .eq 16, 3) := by decide +kernel
theorem dX7_isAhead_80 : decode cX7_isAhead 80 = .ok (.iload 4, 2) := by decide +kernel
theorem dX7_isAhead_82 : decode cX7_isAhead 82 = .ok (.iload 5, 2) := by decide +kernel
theorem dX7_isAhead_84 : decode cX7_isAhead 84 = .ok (.if_icmp .le 7, 3) := by decide +kernel
theorem dX7_isAhead_87 : decode cX7_isAhead 87 = .ok (.iconst 1, 1) := by decide +kernel
theorem dX7_isAhead_88 : decode cX7_isAhead 88 = .ok (.goto 4, 3) := by decide +kernel
theorem dX7_isAhead_91 : decode cX7_isAhead 91 = .ok (.iconst 0, 1) := by decide +kernel
theorem dX7_isAhead_92 : decode cX7_isAhead 92 = .ok (.ireturn, 1) := by decide +kernel
theorem dX7_isAhead_93 : decode cX7_isAhead 93 = .ok (.aload_n 0, 1) := by decide +kernel
theorem dX7_isAhead_94 : decode cX7_isAhead 94 = .ok (.getfield 105, 3) := by decide +kernel
theorem dX7_isAhead_97 : decode cX7_isAhead 97 = .ok (.iload_n 1, 1) := by decide +kernel
theorem dX7_isAhead_98 : decode cX7_isAhead 98 = .ok (.iaload, 1) := by decide +kernel
theorem dX7_isAhead_99 : decode cX7_isAhead 99 = .ok (.aload_n 0, 1) := by decide +kernel
theorem dX7_isAhead_100 : decode cX7_isAhead 100 = .ok (.getfield 105, 3) := by decide +kernel
theorem dX7_isAhead_103 : decode cX7_isAhead 103 = .ok (.iload_n 2, 1) := by decide +kernel
theorem dX7_isAhead_104 : decode cX7_isAhead 104 = .ok (.iaload, 1) := by decide +kernel
theorem dX7_isAhead_105 : decode cX7_isAhead 105 = .ok (.if_icmp .eq 26, 3) := by decide +kernel
theorem dX7_isAhead_108 : decode cX7_isAhead 108 = .ok (.aload_n 0, 1) := by decide +kernel
theorem dX7_isAhead_109 : decode cX7_isAhead 109 = .ok (.getfield 105, 3) := by decide +kernel
theorem dX7_isAhead_112 : decode cX7_isAhead 112 = .ok (.iload_n 1, 1) := by decide +kernel
theorem dX7_isAhead_113 : decode cX7_isAhead 113 = .ok (.iaload, 1) := by decide +kernel
theorem dX7_isAhead_114 : decode cX7_isAhead 114 = .ok (.aload_n 0, 1) := by decide +kernel
theorem dX7_isAhead_115 : decode cX7_isAhead 115 = .ok (.getfield 105, 3) := by decide +kernel
theorem dX7_isAhead_118 : decode cX7_isAhead 118 = .ok (.iload_n 2, 1) := by decide +kernel
theorem dX7_isAhead_119 : decode cX7_isAhead 119 = .ok (.iaload, 1) := by decide +kernel
theorem dX7_isAhead_120 : decode cX7_isAhead 120 = .ok (.if_icmp .ge 7, 3) := by decide +kernel
theorem dX7_isAhead_123 : decode cX7_isAhead 123 = .ok (.iconst 1, 1) := by decide +kernel
theorem dX7_isAhead_124 : decode cX7_isAhead 124 = .ok (.goto 27, 3) := by decide +kernel
theorem dX7_isAhead_127 : decode cX7_isAhead 127 = .ok (.iconst 0, 1) := by decide +kernel
theorem dX7_isAhead_128 : decode cX7_isAhead 128 = .ok (.goto 23, 3) := by decide +kernel
theorem dX7_isAhead_131 : decode cX7_isAhead 131 = .ok (.aload_n 0, 1) := by decide +kernel
theorem dX7_isAhead_132 : decode cX7_isAhead 132 = .ok (.getfield 39, 3) := by decide +kernel
theorem dX7_isAhead_135 : decode cX7_isAhead 135 = .ok (.iload_n 1, 1) := by decide +kernel
theorem dX7_isAhead_136 : decode cX7_isAhead 136 = .ok (.iaload, 1) := by decide +kernel
theorem dX7_isAhead_137 : decode cX7_isAhead 137 = .ok (.aload_n 0, 1) := by decide +kernel
theorem dX7_isAhead_138 : decode cX7_isAhead 138 = .ok (.getfield 39, 3) := by decide +kernel
theorem dX7_isAhead_141 : decode cX7_isAhead 141 = .ok (.iload_n 2, 1) := by decide +kernel
theorem dX7_isAhead_142 : decode cX7_isAhead 142 = .ok (.iaload, 1) := by decide +kernel
theorem dX7_isAhead_143 : decode cX7_isAhead 143 = .ok (.if_icmp .ge 7, 3) := by decide +kernel
theorem dX7_isAhead_146 : decode cX7_isAhead 146 = .ok (.iconst 1, 1) := by decide +kernel
theorem dX7_isAhead_147 : decode cX7_isAhead 147 = .ok (.goto 4, 3) := by decide +kernel
theorem dX7_isAhead_150 : decode cX7_isAhead 150 = .ok (.iconst 0, 1) := by decide +kernel
theorem dX7_isAhead_151 : decode cX7_isAhead 151 = .ok (.ireturn, 1) := by decide +kernel
set_option maxRecDepth 20000 in
theorem ggX7_comesAhead_X7_isAhead : GoodIn wsX7_comesAhead wsX7_isAhead := goodIn_r _ [7, 8, 9, 10, 11, 2, 12, 13, 6, 14, 15, 16, 17, 18, 19, 20, 21, 22, 23, 24, 25, 26, 27, 28, 29, 30, 31, 32, 33, 34, 35, 36, 37, 38, 39, 40, 41, 42, 43, 44, 45, 46, 47, 48, 49, 50, 51, 52, 53, 54, 55, 56, 57, 58, 59, 60, 61, 62, 63, 64, 65] (by decide +kernel) (by decide +kernel)
set_option maxRecDepth 20000 in
theorem gX7_comesAhead_X7_isAhead : GoodIn wsX7_comesAhead (wsV RX7 208 RX7 yX7_isAhead wsX7_isAhead) := goodIn_app (goodIn_of _ (by decide +kernel)) ggX7_comesAhead_X7_isAhead
theorem dX7_comesAhead_0 : decode cX7_comesAhead 0 = .ok (.aload_n 0, 1) := by decide +kernel
theorem dX7_comesAhead_1 : decode cX7_comesAhead 1 = .ok (.getfield 75, 3) := by decide +kernel
theorem dX7_comesAhead_4 : decode cX7_comesAhead 4 = .ok (.iload_n 1, 1) := by decide +kernel
theorem dX7_comesAhead_5 : decode cX7_comesAhead 5 = .ok (.baload, 1) := by decide +kernel
theorem dX7_comesAhead_6 : decode cX7_comesAhead 6 = .ok (.aload_n 0, 1) := by decide +kernel
theorem dX7_comesAhead_7 : decode cX7_comesAhead 7 = .ok (.getfield 75, 3) := by decide +kernel
theorem dX7_comesAhead_10 : decode cX7_comesAhead 10 = .ok (.iload_n 2, 1) := by decide +kernel
theorem dX7_comesAhead_11 : decode cX7_comesAhead 11 = .ok (.baload, 1) := by decide +kernel
theorem dX7_comesAhead_12 : decode cX7_comesAhead 12 = .ok (.if_icmp .eq 10, 3) := by decide +kernel
theorem dX7_comesAhead_15 : decode cX7_comesAhead 15 = .ok (.aload_n 0, 1) := by decide +kernel
theorem dX7_comesAhead_16 : decode cX7_comesAhead 16 = .ok (.getfield 75, 3) := by decide +kernel
theorem dX7_comesAhead_19 : decode cX7_comesAhead 19 = .ok (.iload_n 1, 1) := by decide +kernel
theorem dX7_comesAhead_20 : decode cX7_comesAhead 20 = .ok (.baload, 1) := by decide +kernel
theorem dX7_comesAhead_21 : decode cX7_comesAhead 21 = .ok (.ireturn, 1) := by decide +kernel
theorem dX7_comesAhead_22 : decode cX7_comesAhead 22 = .ok (.aload_n 0, 1) := by decide +kernel
theorem dX7_comesAhead_23 : decode cX7_comesAhead 23 = .ok (.getfield 75, 3) := by decide +kernel
theorem dX7_comesAhead_26 : decode cX7_comesAhead 26 = .ok (.iload_n 1, 1) := by decide +kernel
theorem dX7_comesAhead_27 : decode cX7_comesAhead 27 = .ok (.baload, 1) := by decide +kernel
theorem dX7_comesAhead_28 : decode cX7_comesAhead 28 = .ok (.ifCond .eq 26, 3) := by decide +kernel
theorem dX7_comesAhead_31 : decode cX7_comesAhead 31 = .ok (.aload_n 0, 1) := by decide +kernel
theorem dX7_comesAhead_32 : decode cX7_comesAhead 32 = .ok (.getfield 39, 3) := by decide +kernel
theorem dX7_comesAhead_35 : decode cX7_comesAhead 35 = .ok (.iload_n 1, 1) := by decide +kernel
theorem dX7_comesAhead_36 : decode cX7_comesAhead 36 = .ok (.iaload, 1) := by decide +kernel
theorem dX7_comesAhead_37 : decode cX7_comesAhead 37 = .ok (.aload_n 0, 1) := by decide +kernel
theorem dX7_comesAhead_38 : decode cX7_comesAhead 38 = .ok (.getfield 39, 3) := by decide +kernel
theorem dX7_comesAhead_41 : decode cX7_comesAhead 41 = .ok (.iload_n 2, 1) := by decide +kernel
theorem dX7_comesAhead_42 : decode cX7_comesAhead 42 = .ok (.iaload, 1) := by decide +kernel
theorem dX7_comesAhead_43 : decode cX7_comesAhead 43 = .ok (.if_icmp .ge 7, 3) := by decide +kernel
theorem dX7_comesAhead_46 : decode cX7_comesAhead 46 = .ok (.iconst 1, 1) := by decide +kernel
theorem dX7_comesAhead_47 : decode cX7_comesAhead 47 = .ok (.goto 13, 3) := by decide +kernel
theorem dX7_comesAhead_50 : decode cX7_comesAhead 50 = .ok (.iconst 0, 1) := by decide +kernel
theorem dX7_comesAhead_51 : decode cX7_comesAhead 51 = .ok (.goto 9, 3) := by decide +kernel
theorem dX7_comesAhead_54 : decode cX7_comesAhead 54 = .ok (.aload_n 0, 1) := by decide +kernel
theorem dX7_comesAhead_55 : decode cX7_comesAhead 55 = .ok (.iload_n 1, 1) := by decide +kernel
theorem dX7_comesAhead_56 : decode cX7_comesAhead 56 = .ok (.iload_n 2, 1) := by decide +kernel
theorem dX7_comesAhead_57 : decode cX7_comesAhead 57 = .ok (.invokevirtual 208, 3) := by decide +kernel
theorem dX7_comesAhead_60 : decode cX7_comesAhead 60 = .ok (.ireturn, 1) := by decide +kernel
set_option maxRecDepth 20000 in
theorem ggX7_lines_X7_comesAhead : GoodIn wsX7_lines wsX7_comesAhead := goodIn_r _ [12, 13, 14, 15, 16, 17, 11, 18, 19, 20, 21, 22, 23, 24, 25, 26, 27, 28, 29, 30, 31, 32, 33, 34, 35, 36, 37, 38, 39, 40, 41, 42, 43, 44, 45, 46, 47, 48, 49, 50, 51, 52, 53, 54, 55, 56, 57, 58, 59, 60, 61, 62, 63, 64, 65, 66, 67, 68, 69, 70, 71, 72, 73, 74, 75, 76] (by decide +kernel) (by decide +kernel)
set_option maxRecDepth 20000 in
theorem gX7_lines_X7_comesAhead : GoodIn wsX7_lines (wsV RX7 217 RX7 yX7_comesAhead wsX7_comesAhead) := goodIn_app (goodIn_of _ (by decide +kernel)) ggX7_lines_X7_comesAhead
theorem dX7_lines_0 : decode cX7_lines 0 = .ok (.aload_n 0, 1) := by decide +kernel
theorem dX7_lines_1 : decode cX7_lines 1 = .ok (.iconst 0, 1) := by decide +kernel
theorem dX7_lines_2 : decode cX7_lines 2 = .ok (.putfield 211, 3) := by decide +kernel
theorem dX7_lines_5 : decode cX7_lines 5 = .ok (.iconst 0, 1) := by decide +kernel
theorem dX7_lines_6 : decode cX7_lines 6 = .ok (.istore_n 1, 1) := by decide +kernel
theorem dX7_lines_7 : decode cX7_lines 7 = .ok (.iload_n 1, 1) := by decide +kernel
theorem dX7_lines_8 : decode cX7_lines 8 = .ok (.aload_n 0, 1) := by decide +kernel
theorem dX7_lines_9 : decode cX7_lines 9 = .ok (.getfield 131, 3) := by decide +kernel
theorem dX7_lines_12 : decode cX7_lines 12 = .ok (.if_icmp .ge 109, 3) := by decide +kernel
theorem dX7_lines_15 : decode cX7_lines 15 = .ok (.aload_n 0, 1) := by decide +kernel
theorem dX7_lines_16 : decode cX7_lines 16 = .ok (.getfield 214, 3) := by decide +kernel
theorem dX7_lines_19 : decode cX7_lines 19 = .ok (.iconst 3, 1) := by decide +kernel
theorem dX7_lines_20 : decode cX7_lines 20 = .ok (.if_icmp .ne 101, 3) := by decide +kernel
theorem dX7_lines_23 : decode cX7_lines 23 = .ok (.aload_n 0, 1) := by decide +kernel
theorem dX7_lines_24 : decode cX7_lines 24 = .ok (.getfield 69, 3) := by decide +kernel
theorem dX7_lines_27 : decode cX7_lines 27 = .ok (.iload_n 1, 1) := by decide +kernel
theorem dX7_lines_28 : decode cX7_lines 28 = .ok (.baload, 1) := by decide +kernel
theorem dX7_lines_29 : decode cX7_lines 29 = .ok (.ifCond .eq 86, 3) := by decide +kernel
theorem dX7_lines_32 : decode cX7_lines 32 = .ok (.aload_n 0, 1) := by decide +kernel
theorem dX7_lines_33 : decode cX7_lines 33 = .ok (.getfield 87, 3) := by decide +kernel
theorem dX7_lines_36 : decode cX7_lines 36 = .ok (.iload_n 1, 1) := by decide +kernel
theorem dX7_lines_37 : decode cX7_lines 37 = .ok (.baload, 1) := by decide +kernel
theorem dX7_lines_38 : decode cX7_lines 38 = .ok (.ifCond .ne 77, 3) := by decide +kernel
theorem dX7_lines_41 : decode cX7_lines 41 = .ok (.aload_n 0, 1) := by decide +kernel
theorem dX7_lines_42 : decode cX7_lines 42 = .ok (.getfield 81, 3) := by decide +kernel
theorem dX7_lines_45 : decode cX7_lines 45 = .ok (.iload_n 1, 1) := by decide +kernel
theorem dX7_lines_46 : decode cX7_lines 46 = .ok (.baload, 1) := by decide +kernel
theorem dX7_lines_47 : decode cX7_lines 47 = .ok (.ifCond .eq 6, 3) := by decide +kernel
theorem dX7_lines_50 : decode cX7_lines 50 = .ok (.goto 65, 3) := by decide +kernel
theorem dX7_lines_53 : decode cX7_lines 53 = .ok (.aload_n 0, 1) := by decide +kernel
theorem dX7_lines_54 : decode cX7_lines 54 = .ok (.getfield 211, 3) := by decide +kernel
theorem dX7_lines_57 : decode cX7_lines 57 = .ok (.istore_n 2, 1) := by decide +kernel
theorem dX7_lines_58 : decode cX7_lines 58 = .ok (.iload_n 2, 1) := by decide +kernel
theorem dX7_lines_59 : decode cX7_lines 59 = .ok (.ifCond .le 39, 3) := by decide +kernel
theorem dX7_lines_62 : decode cX7_lines 62 = .ok (.aload_n 0, 1) := by decide +kernel
theorem dX7_lines_63 : decode cX7_lines 63 = .ok (.iload_n 1, 1) := by decide +kernel
theorem dX7_lines_64 : decode cX7_lines 64 = .ok (.aload_n 0, 1) := by decide +kernel
theorem dX7_lines_65 : decode cX7_lines 65 = .ok (.getfield 118, 3) := by decide +kernel
theorem dX7_lines_68 : decode cX7_lines 68 = .ok (.iload_n 2, 1) := by decide +kernel
theorem dX7_lines_69 : decode cX7_lines 69 = .ok (.iconst 1, 1) := by decide +kernel
theorem dX7_lines_70 : decode cX7_lines 70 = .ok (.isub, 1) := by decide +kernel
theorem dX7_lines_71 : decode cX7_lines 71 = .ok (.iaload, 1) := by decide +kernel
theorem dX7_lines_72 : decode cX7_lines 72 = .ok (.invokevirtual 217, 3) := by decide +kernel
theorem dX7_lines_75 : decode cX7_lines 75 = .ok (.ifCond .eq 23, 3) := by decide +kernel
theorem dX7_lines_78 : decode cX7_lines 78 = .ok (.aload_n 0, 1) := by decide +kernel
theorem dX7_lines_79 : decode cX7_lines 79 = .ok (.getfield 118, 3) := by decide +kernel
theorem dX7_lines_82 : decode cX7_lines 82 = .ok (.iload_n 2, 1) := by decide +kernel
theorem dX7_lines_83 : decode cX7_lines 83 = .ok (.aload_n 0, 1) := by decide +kernel
theorem dX7_lines_84 : decode cX7_lines 84 = .ok (.getfield 118, 3) := by decide +kernel
theorem dX7_lines_87 : decode cX7_lines 87 = .ok (.iload_n 2, 1) := by decide +kernel
theorem dX7_lines_88 : decode cX7_lines 88 = .ok (.iconst 1, 1) := by decide +kernel
theorem dX7_lines_89 : decode cX7_lines 89 = .ok (.isub, 1) := by decide +kernel
theorem dX7_lines_90 : decode cX7_lines 90 = .ok (.iaload, 1) := by decide +kernel
theorem dX7_lines_91 : decode cX7_lines 91 = .ok (.iastore, 1) := by decide +kernel
theorem dX7_lines_92 : decode cX7_lines 92 = .ok (.iinc 2 (-1), 3) := by decide +kernel
theorem dX7_lines_95 : decode cX7_lines 95 = .ok (.goto (-37), 3) := by decide +kernel
theorem dX7_lines_98 : decode cX7_lines 98 = .ok (.aload_n 0, 1) := by decide +kernel
theorem dX7_lines_99 : decode cX7_lines 99 = .ok (.getfield 118, 3) := by decide +kernel
theorem dX7_lines_102 : decode cX7_lines 102 = .ok (.iload_n 2, 1) := by decide +kernel
theorem dX7_lines_103 : decode cX7_lines 103 = .ok (.iload_n 1, 1) := by decide +kernel
theorem dX7_lines_104 : decode cX7_lines 104 = .ok (.iastore, 1) := by decide +kernel
theorem dX7_lines_105 : decode cX7_lines 105 = .ok (.aload_n 0, 1) := by decide +kernel
theorem dX7_lines_106 : decode cX7_lines 106 = .ok (.dup, 1) := by decide +kernel
theorem dX7_lines_107 : decode cX7_lines 107 = .ok (.getfield 211, 3) := by decide +kernel
theorem dX7_lines_110 : decode cX7_lines 110 = .ok (.iconst 1, 1) := by decide +kernel
theorem dX7_lines_111 : decode cX7_lines 111 = .ok (.iadd, 1) := by decide +kernel
theorem dX7_lines_112 : decode cX7_lines 112 = .ok (.putfield 211, 3) := by decide +kernel
theorem dX7_lines_115 : decode cX7_lines 115 = .ok (.iinc 1 1, 3) := by decide +kernel
theorem dX7_lines_118 : decode cX7_lines 118 = .ok (.goto (-111), 3) := by decide +kernel
theorem dX7_lines_121 : decode cX7_lines 121 = .ok (.return_, 1) := by decide +kernel
theorem dX7_ranks_0 : decode cX7_ranks 0 = .ok (.iconst 0, 1) := by decide +kernel
theorem dX7_ranks_1 : decode cX7_ranks 1 = .ok (.istore_n 1, 1) := by decide +kernel
theorem dX7_ranks_2 : decode cX7_ranks 2 = .ok (.iload_n 1, 1) := by decide +kernel
theorem dX7_ranks_3 : decode cX7_ranks 3 = .ok (.aload_n 0, 1) := by decide +kernel
theorem dX7_ranks_4 : decode cX7_ranks 4 = .ok (.getfield 131, 3) := by decide +kernel
theorem dX7_ranks_7 : decode cX7_ranks 7 = .ok (.if_icmp .ge 64, 3) := by decide +kernel
theorem dX7_ranks_10 : decode cX7_ranks 10 = .ok (.iload_n 1, 1) := by decide +kernel
theorem dX7_ranks_11 : decode cX7_ranks 11 = .ok (.istore_n 2, 1) := by decide +kernel
theorem dX7_ranks_12 : decode cX7_ranks 12 = .ok (.iload_n 2, 1) := by decide +kernel
theorem dX7_ranks_13 : decode cX7_ranks 13 = .ok (.ifCond .le 45, 3) := by decide +kernel
theorem dX7_ranks_16 : decode cX7_ranks 16 = .ok (.aload_n 0, 1) := by decide +kernel
theorem dX7_ranks_17 : decode cX7_ranks 17 = .ok (.getfield 39, 3) := by decide +kernel
theorem dX7_ranks_20 : decode cX7_ranks 20 = .ok (.aload_n 0, 1) := by decide +kernel
theorem dX7_ranks_21 : decode cX7_ranks 21 = .ok (.getfield 121, 3) := by decide +kernel
theorem dX7_ranks_24 : decode cX7_ranks 24 = .ok (.iload_n 2, 1) := by decide +kernel
theorem dX7_ranks_25 : decode cX7_ranks 25 = .ok (.iconst 1, 1) := by decide +kernel
theorem dX7_ranks_26 : decode cX7_ranks 26 = .ok (.isub, 1) := by decide +kernel
theorem dX7_ranks_27 : decode cX7_ranks 27 = .ok (.iaload, 1) := by decide +kernel
theorem dX7_ranks_28 : decode cX7_ranks 28 = .ok (.iaload, 1) := by decide +kernel
theorem dX7_ranks_29 : decode cX7_ranks 29 = .ok (.aload_n 0, 1) := by decide +kernel
theorem dX7_ranks_30 : decode cX7_ranks 30 = .ok (.getfield 39, 3) := by decide +kernel
theorem dX7_ranks_33 : decode cX7_ranks 33 = .ok (.iload_n 1, 1) := by decide +kernel
theorem dX7_ranks_34 : decode cX7_ranks 34 = .ok (.iaload, 1) := by decide +kernel
theorem dX7_ranks_35 : decode cX7_ranks 35 = .ok (.if_icmp .le 23, 3) := by decide +kernel
theorem dX7_ranks_38 : decode cX7_ranks 38 = .ok (.aload_n 0, 1) := by decide +kernel
theorem dX7_ranks_39 : decode cX7_ranks 39 = .ok (.getfield 121, 3) := by decide +kernel
theorem dX7_ranks_42 : decode cX7_ranks 42 = .ok (.iload_n 2, 1) := by decide +kernel
theorem dX7_ranks_43 : decode cX7_ranks 43 = .ok (.aload_n 0, 1) := by decide +kernel
theorem dX7_ranks_44 : decode cX7_ranks 44 = .ok (.getfield 121, 3) := by decide +kernel
theorem dX7_ranks_47 : decode cX7_ranks 47 = .ok (.iload_n 2, 1) := by decide +kernel
theorem dX7_ranks_48 : decode cX7_ranks 48 = .ok (.iconst 1, 1) := by decide +kernel
theorem dX7_ranks_49 : decode cX7_ranks 49 = .ok (.isub, 1) := by decide +kernel
theorem dX7_ranks_50 : decode cX7_ranks 50 = .ok (.iaload, 1) := by decide +kernel
theorem dX7_ranks_51 : decode cX7_ranks 51 = .ok (.iastore, 1) := by decide +kernel
theorem dX7_ranks_52 : decode cX7_ranks 52 = .ok (.iinc 2 (-1), 3) := by decide +kernel
theorem dX7_ranks_55 : decode cX7_ranks 55 = .ok (.goto (-43), 3) := by decide +kernel
theorem dX7_ranks_58 : decode cX7_ranks 58 = .ok (.aload_n 0, 1) := by decide +kernel
theorem dX7_ranks_59 : decode cX7_ranks 59 = .ok (.getfield 121, 3) := by decide +kernel
theorem dX7_ranks_62 : decode cX7_ranks 62 = .ok (.iload_n 2, 1) := by decide +kernel
theorem dX7_ranks_63 : decode cX7_ranks 63 = .ok (.iload_n 1, 1) := by decide +kernel
theorem dX7_ranks_64 : decode cX7_ranks 64 = .ok (.iastore, 1) := by decide +kernel
theorem dX7_ranks_65 : decode cX7_ranks 65 = .ok (.iinc 1 1, 3) := by decide +kernel
theorem dX7_ranks_68 : decode cX7_ranks 68 = .ok (.goto (-66), 3) := by decide +kernel
theorem dX7_ranks_71 : decode cX7_ranks 71 = .ok (.return_, 1) := by decide +kernel
theorem dX7_comes_0 : decode cX7_comes 0 = .ok (.aload_n 0, 1) := by decide +kernel
theorem dX7_comes_1 : decode cX7_comes 1 = .ok (.getfield 87, 3) := by decide +kernel
theorem dX7_comes_4 : decode cX7_comes 4 = .ok (.iload_n 1, 1) := by decide +kernel
theorem dX7_comes_5 : decode cX7_comes 5 = .ok (.iconst 1, 1) := by decide +kernel
theorem dX7_comes_6 : decode cX7_comes 6 = .ok (.bastore, 1) := by decide +kernel
theorem dX7_comes_7 : decode cX7_comes 7 = .ok (.aload_n 0, 1) := by decide +kernel
theorem dX7_comes_8 : decode cX7_comes 8 = .ok (.getfield 84, 3) := by decide +kernel
theorem dX7_comes_11 : decode cX7_comes 11 = .ok (.iload_n 1, 1) := by decide +kernel
theorem dX7_comes_12 : decode cX7_comes 12 = .ok (.iconst 1, 1) := by decide +kernel
theorem dX7_comes_13 : decode cX7_comes 13 = .ok (.bastore, 1) := by decide +kernel
theorem dX7_comes_14 : decode cX7_comes 14 = .ok (.aload_n 0, 1) := by decide +kernel
theorem dX7_comes_15 : decode cX7_comes 15 = .ok (.getfield 90, 3) := by decide +kernel
theorem dX7_comes_18 : decode cX7_comes 18 = .ok (.iload_n 1, 1) := by decide +kernel
theorem dX7_comes_19 : decode cX7_comes 19 = .ok (.iload_n 2, 1) := by decide +kernel
theorem dX7_comes_20 : decode cX7_comes 20 = .ok (.iastore, 1) := by decide +kernel
theorem dX7_comes_21 : decode cX7_comes 21 = .ok (.aload_n 0, 1) := by decide +kernel
theorem dX7_comes_22 : decode cX7_comes 22 = .ok (.getfield 93, 3) := by decide +kernel
theorem dX7_comes_25 : decode cX7_comes 25 = .ok (.iload_n 1, 1) := by decide +kernel
theorem dX7_comes_26 : decode cX7_comes 26 = .ok (.iload_n 3, 1) := by decide +kernel
theorem dX7_comes_27 : decode cX7_comes 27 = .ok (.iastore, 1) := by decide +kernel
theorem dX7_comes_28 : decode cX7_comes 28 = .ok (.aload_n 0, 1) := by decide +kernel
theorem dX7_comes_29 : decode cX7_comes 29 = .ok (.getfield 96, 3) := by decide +kernel
theorem dX7_comes_32 : decode cX7_comes 32 = .ok (.iload_n 1, 1) := by decide +kernel
theorem dX7_comes_33 : decode cX7_comes 33 = .ok (.aload_n 0, 1) := by decide +kernel
theorem dX7_comes_34 : decode cX7_comes 34 = .ok (.getfield 220, 3) := by decide +kernel
theorem dX7_comes_37 : decode cX7_comes 37 = .ok (.iastore, 1) := by decide +kernel
theorem dX7_comes_38 : decode cX7_comes 38 = .ok (.return_, 1) := by decide +kernel
theorem dX7_goes_0 : decode cX7_goes 0 = .ok (.aload_n 0, 1) := by decide +kernel
theorem dX7_goes_1 : decode cX7_goes 1 = .ok (.getfield 220, 3) := by decide +kernel
theorem dX7_goes_4 : decode cX7_goes 4 = .ok (.aload_n 0, 1) := by decide +kernel
theorem dX7_goes_5 : decode cX7_goes 5 = .ok (.getfield 96, 3) := by decide +kernel
theorem dX7_goes_8 : decode cX7_goes 8 = .ok (.iload_n 1, 1) := by decide +kernel
theorem dX7_goes_9 : decode cX7_goes 9 = .ok (.iaload, 1) := by decide +kernel
theorem dX7_goes_10 : decode cX7_goes 10 = .ok (.isub, 1) := by decide +kernel
theorem dX7_goes_11 : decode cX7_goes 11 = .ok (.iconst 1, 1) := by decide +kernel
theorem dX7_goes_12 : decode cX7_goes 12 = .ok (.if_icmp .ge 7, 3) := by decide +kernel
theorem dX7_goes_15 : decode cX7_goes 15 = .ok (.iconst 1, 1) := by decide +kernel
theorem dX7_goes_16 : decode cX7_goes 16 = .ok (.goto 14, 3) := by decide +kernel
theorem dX7_goes_19 : decode cX7_goes 19 = .ok (.aload_n 0, 1) := by decide +kernel
theorem dX7_goes_20 : decode cX7_goes 20 = .ok (.getfield 220, 3) := by decide +kernel
theorem dX7_goes_23 : decode cX7_goes 23 = .ok (.aload_n 0, 1) := by decide +kernel
theorem dX7_goes_24 : decode cX7_goes 24 = .ok (.getfield 96, 3) := by decide +kernel
theorem dX7_goes_27 : decode cX7_goes 27 = .ok (.iload_n 1, 1) := by decide +kernel
theorem dX7_goes_28 : decode cX7_goes 28 = .ok (.iaload, 1) := by decide +kernel
theorem dX7_goes_29 : decode cX7_goes 29 = .ok (.isub, 1) := by decide +kernel
theorem dX7_goes_30 : decode cX7_goes 30 = .ok (.istore_n 2, 1) := by decide +kernel
theorem dX7_goes_31 : decode cX7_goes 31 = .ok (.aload_n 0, 1) := by decide +kernel
theorem dX7_goes_32 : decode cX7_goes 32 = .ok (.getfield 30, 3) := by decide +kernel
theorem dX7_goes_35 : decode cX7_goes 35 = .ok (.iload_n 1, 1) := by decide +kernel
theorem dX7_goes_36 : decode cX7_goes 36 = .ok (.iaload, 1) := by decide +kernel
theorem dX7_goes_37 : decode cX7_goes 37 = .ok (.iconst 4, 1) := by decide +kernel
theorem dX7_goes_38 : decode cX7_goes 38 = .ok (.if_icmp .ne 7, 3) := by decide +kernel
theorem dX7_goes_41 : decode cX7_goes 41 = .ok (.iconst 0, 1) := by decide +kernel
theorem dX7_goes_42 : decode cX7_goes 42 = .ok (.goto 27, 3) := by decide +kernel
theorem dX7_goes_45 : decode cX7_goes 45 = .ok (.aload_n 0, 1) := by decide +kernel
theorem dX7_goes_46 : decode cX7_goes 46 = .ok (.getfield 36, 3) := by decide +kernel
theorem dX7_goes_49 : decode cX7_goes 49 = .ok (.iload_n 1, 1) := by decide +kernel
theorem dX7_goes_50 : decode cX7_goes 50 = .ok (.iaload, 1) := by decide +kernel
theorem dX7_goes_51 : decode cX7_goes 51 = .ok (.iconst 1, 1) := by decide +kernel
theorem dX7_goes_52 : decode cX7_goes 52 = .ok (.iadd, 1) := by decide +kernel
theorem dX7_goes_53 : decode cX7_goes 53 = .ok (.iconst 2, 1) := by decide +kernel
theorem dX7_goes_54 : decode cX7_goes 54 = .ok (.idiv, 1) := by decide +kernel
theorem dX7_goes_55 : decode cX7_goes 55 = .ok (.iload_n 2, 1) := by decide +kernel
theorem dX7_goes_56 : decode cX7_goes 56 = .ok (.imul, 1) := by decide +kernel
theorem dX7_goes_57 : decode cX7_goes 57 = .ok (.aload_n 0, 1) := by decide +kernel
theorem dX7_goes_58 : decode cX7_goes 58 = .ok (.getfield 17, 3) := by decide +kernel
theorem dX7_goes_61 : decode cX7_goes 61 = .ok (.aload_n 0, 1) := by decide +kernel
theorem dX7_goes_62 : decode cX7_goes 62 = .ok (.getfield 33, 3) := by decide +kernel
theorem dX7_goes_65 : decode cX7_goes 65 = .ok (.iload_n 1, 1) := by decide +kernel
theorem dX7_goes_66 : decode cX7_goes 66 = .ok (.iaload, 1) := by decide +kernel
theorem dX7_goes_67 : decode cX7_goes 67 = .ok (.iaload, 1) := by decide +kernel
theorem dX7_goes_68 : decode cX7_goes 68 = .ok (.imul, 1) := by decide +kernel
theorem dX7_goes_69 : decode cX7_goes 69 = .ok (.istore_n 3, 1) := by decide +kernel
theorem dX7_goes_70 : decode cX7_goes 70 = .ok (.aload_n 0, 1) := by decide +kernel
theorem dX7_goes_71 : decode cX7_goes 71 = .ok (.getfield 87, 3) := by decide +kernel
theorem dX7_goes_74 : decode cX7_goes 74 = .ok (.iload_n 1, 1) := by decide +kernel
theorem dX7_goes_75 : decode cX7_goes 75 = .ok (.iconst 0, 1) := by decide +kernel
theorem dX7_goes_76 : decode cX7_goes 76 = .ok (.bastore, 1) := by decide +kernel
theorem dX7_goes_77 : decode cX7_goes 77 = .ok (.aload_n 0, 1) := by decide +kernel
theorem dX7_goes_78 : decode cX7_goes 78 = .ok (.getfield 108, 3) := by decide +kernel
theorem dX7_goes_81 : decode cX7_goes 81 = .ok (.iload_n 1, 1) := by decide +kernel
theorem dX7_goes_82 : decode cX7_goes 82 = .ok (.dup2, 1) := by decide +kernel
theorem dX7_goes_83 : decode cX7_goes 83 = .ok (.laload, 1) := by decide +kernel
theorem dX7_goes_84 : decode cX7_goes 84 = .ok (.iload_n 3, 1) := by decide +kernel
theorem dX7_goes_85 : decode cX7_goes 85 = .ok (.i2l, 1) := by decide +kernel
theorem dX7_goes_86 : decode cX7_goes 86 = .ok (.ladd, 1) := by decide +kernel
theorem dX7_goes_87 : decode cX7_goes 87 = .ok (.lastore, 1) := by decide +kernel
theorem dX7_goes_88 : decode cX7_goes 88 = .ok (.aload_n 0, 1) := by decide +kernel
theorem dX7_goes_89 : decode cX7_goes 89 = .ok (.dup, 1) := by decide +kernel
theorem dX7_goes_90 : decode cX7_goes 90 = .ok (.getfield 223, 3) := by decide +kernel
theorem dX7_goes_93 : decode cX7_goes 93 = .ok (.iload_n 3, 1) := by decide +kernel
theorem dX7_goes_94 : decode cX7_goes 94 = .ok (.i2l, 1) := by decide +kernel
theorem dX7_goes_95 : decode cX7_goes 95 = .ok (.ladd, 1) := by decide +kernel
theorem dX7_goes_96 : decode cX7_goes 96 = .ok (.putfield 223, 3) := by decide +kernel
theorem dX7_goes_99 : decode cX7_goes 99 = .ok (.iload_n 3, 1) := by decide +kernel
theorem dX7_goes_100 : decode cX7_goes 100 = .ok (.ireturn, 1) := by decide +kernel
set_option maxRecDepth 20000 in
theorem ggX7_row_X7_noRow : GoodIn wsX7_row wsX7_noRow := goodIn_r _ [8] (by decide +kernel) (by decide +kernel)
set_option maxRecDepth 20000 in
theorem gX7_row_X7_noRow : GoodIn wsX7_row (va_wsS RX7 137 yX7_noRow wsX7_noRow) := goodIn_app (goodIn_of _ (by decide +kernel)) ggX7_row_X7_noRow
set_option maxRecDepth 20000 in
theorem ggX7_row_X7_throwsIf : GoodIn wsX7_row wsX7_throwsIf := goodIn_r _ [12, 1, 13, 14, 15, 16, 17, 18, 19, 20, 21, 22, 23, 24, 25, 26, 27, 28, 29, 30, 31, 32, 33, 34, 35, 36, 37, 38, 39, 40, 41, 42, 43, 44, 45, 46, 47, 48, 49, 50, 51, 52, 53, 54, 55, 56, 57, 58, 59, 60, 61, 62, 63] (by decide +kernel) (by decide +kernel)
set_option maxRecDepth 20000 in
theorem gX7_row_X7_throwsIf : GoodIn wsX7_row (wsV RX7 227 RX7 yX7_throwsIf wsX7_throwsIf) := goodIn_app (goodIn_of _ (by decide +kernel)) ggX7_row_X7_throwsIf
theorem dX7_row_0 : decode cX7_row 0 = .ok (.aload_n 0, 1) := by decide +kernel
theorem dX7_row_1 : decode cX7_row 1 = .ok (.iconst 0, 1) := by decide +kernel
theorem dX7_row_2 : decode cX7_row 2 = .ok (.putfield 127, 3) := by decide +kernel
theorem dX7_row_5 : decode cX7_row 5 = .ok (.aload_n 0, 1) := by decide +kernel
theorem dX7_row_6 : decode cX7_row 6 = .ok (.iload_n 1, 1) := by decide +kernel
theorem dX7_row_7 : decode cX7_row 7 = .ok (.invokestatic 137, 3) := by decide +kernel
theorem dX7_row_10 : decode cX7_row 10 = .ok (.iconst 1, 1) := by decide +kernel
theorem dX7_row_11 : decode cX7_row 11 = .ok (.invokevirtual 227, 3) := by decide +kernel
theorem dX7_row_14 : decode cX7_row 14 = .ok (.ifCond .ne 47, 3) := by decide +kernel
theorem dX7_row_17 : decode cX7_row 17 = .ok (.aload_n 0, 1) := by decide +kernel
theorem dX7_row_18 : decode cX7_row 18 = .ok (.iload_n 2, 1) := by decide +kernel
theorem dX7_row_19 : decode cX7_row 19 = .ok (.ifCond .lt 10, 3) := by decide +kernel
theorem dX7_row_22 : decode cX7_row 22 = .ok (.iload_n 2, 1) := by decide +kernel
theorem dX7_row_23 : decode cX7_row 23 = .ok (.sipush 200, 3) := by decide +kernel
theorem dX7_row_26 : decode cX7_row 26 = .ok (.if_icmp .le 7, 3) := by decide +kernel
theorem dX7_row_29 : decode cX7_row 29 = .ok (.iconst 1, 1) := by decide +kernel
theorem dX7_row_30 : decode cX7_row 30 = .ok (.goto 4, 3) := by decide +kernel
theorem dX7_row_33 : decode cX7_row 33 = .ok (.iconst 0, 1) := by decide +kernel
theorem dX7_row_34 : decode cX7_row 34 = .ok (.iconst 2, 1) := by decide +kernel
theorem dX7_row_35 : decode cX7_row 35 = .ok (.invokevirtual 227, 3) := by decide +kernel
theorem dX7_row_38 : decode cX7_row 38 = .ok (.ifCond .ne 23, 3) := by decide +kernel
theorem dX7_row_41 : decode cX7_row 41 = .ok (.aload_n 0, 1) := by decide +kernel
theorem dX7_row_42 : decode cX7_row 42 = .ok (.aload_n 0, 1) := by decide +kernel
theorem dX7_row_43 : decode cX7_row 43 = .ok (.getfield 214, 3) := by decide +kernel
theorem dX7_row_46 : decode cX7_row 46 = .ok (.ifCond .eq 7, 3) := by decide +kernel
theorem dX7_row_49 : decode cX7_row 49 = .ok (.iconst 1, 1) := by decide +kernel
theorem dX7_row_50 : decode cX7_row 50 = .ok (.goto 4, 3) := by decide +kernel
theorem dX7_row_53 : decode cX7_row 53 = .ok (.iconst 0, 1) := by decide +kernel
theorem dX7_row_54 : decode cX7_row 54 = .ok (.iconst 3, 1) := by decide +kernel
theorem dX7_row_55 : decode cX7_row 55 = .ok (.invokevirtual 227, 3) := by decide +kernel
theorem dX7_row_58 : decode cX7_row 58 = .ok (.ifCond .eq 4, 3) := by decide +kernel
theorem dX7_row_61 : decode cX7_row 61 = .ok (.return_, 1) := by decide +kernel
theorem dX7_row_62 : decode cX7_row 62 = .ok (.aload_n 0, 1) := by decide +kernel
theorem dX7_row_63 : decode cX7_row 63 = .ok (.getfield 9, 3) := by decide +kernel
theorem dX7_row_66 : decode cX7_row 66 = .ok (.iload_n 1, 1) := by decide +kernel
theorem dX7_row_67 : decode cX7_row 67 = .ok (.iload_n 2, 1) := by decide +kernel
theorem dX7_row_68 : decode cX7_row 68 = .ok (.iastore, 1) := by decide +kernel
theorem dX7_row_69 : decode cX7_row 69 = .ok (.iconst 0, 1) := by decide +kernel
theorem dX7_row_70 : decode cX7_row 70 = .ok (.istore_n 3, 1) := by decide +kernel
theorem dX7_row_71 : decode cX7_row 71 = .ok (.iload_n 3, 1) := by decide +kernel
theorem dX7_row_72 : decode cX7_row 72 = .ok (.sipush 200, 3) := by decide +kernel
theorem dX7_row_75 : decode cX7_row 75 = .ok (.if_icmp .ge 22, 3) := by decide +kernel
theorem dX7_row_78 : decode cX7_row 78 = .ok (.aload_n 0, 1) := by decide +kernel
theorem dX7_row_79 : decode cX7_row 79 = .ok (.getfield 13, 3) := by decide +kernel
theorem dX7_row_82 : decode cX7_row 82 = .ok (.sipush 200, 3) := by decide +kernel
theorem dX7_row_85 : decode cX7_row 85 = .ok (.iload_n 1, 1) := by decide +kernel
theorem dX7_row_86 : decode cX7_row 86 = .ok (.imul, 1) := by decide +kernel
theorem dX7_row_87 : decode cX7_row 87 = .ok (.iload_n 3, 1) := by decide +kernel
theorem dX7_row_88 : decode cX7_row 88 = .ok (.iadd, 1) := by decide +kernel
theorem dX7_row_89 : decode cX7_row 89 = .ok (.iconst 0, 1) := by decide +kernel
theorem dX7_row_90 : decode cX7_row 90 = .ok (.bastore, 1) := by decide +kernel
theorem dX7_row_91 : decode cX7_row 91 = .ok (.iinc 3 1, 3) := by decide +kernel
theorem dX7_row_94 : decode cX7_row 94 = .ok (.goto (-23), 3) := by decide +kernel
theorem dX7_row_97 : decode cX7_row 97 = .ok (.return_, 1) := by decide +kernel
set_option maxRecDepth 20000 in
theorem ggX7_mark_X7_isRow : GoodIn wsX7_mark wsX7_isRow := goodIn_r _ [9, 2, 10, 11, 8, 12, 17, 18, 19, 20, 21, 22, 23, 24, 25, 26, 27, 28, 29, 30, 31, 32, 33, 34, 35, 36, 37, 38, 39, 40, 41, 42, 43, 44, 45, 46, 47, 48, 49, 50, 51, 52, 53, 54, 55, 56, 57, 58, 59, 60, 61, 62, 63, 64, 65, 66, 67] (by decide +kernel) (by decide +kernel)
set_option maxRecDepth 20000 in
theorem gX7_mark_X7_isRow : GoodIn wsX7_mark (wsV RX7 141 RX7 yX7_isRow wsX7_isRow) := goodIn_app (goodIn_of _ (by decide +kernel)) ggX7_mark_X7_isRow
set_option maxRecDepth 20000 in
theorem ggX7_mark_X7_throwsIf : GoodIn wsX7_mark wsX7_throwsIf := goodIn_r _ [16, 1, 17, 18, 19, 20, 21, 22, 23, 24, 25, 26, 27, 28, 29, 30, 31, 32, 33, 34, 35, 36, 37, 38, 39, 40, 41, 42, 43, 44, 45, 46, 47, 48, 49, 50, 51, 52, 53, 54, 55, 56, 57, 58, 59, 60, 61, 62, 63, 64, 65, 66, 67] (by decide +kernel) (by decide +kernel)
set_option maxRecDepth 20000 in
theorem gX7_mark_X7_throwsIf : GoodIn wsX7_mark (wsV RX7 227 RX7 yX7_throwsIf wsX7_throwsIf) := goodIn_app (goodIn_of _ (by decide +kernel)) ggX7_mark_X7_throwsIf
theorem dX7_mark_0 : decode cX7_mark 0 = .ok (.aload_n 0, 1) := by decide +kernel
theorem dX7_mark_1 : decode cX7_mark 1 = .ok (.iconst 0, 1) := by decide +kernel
theorem dX7_mark_2 : decode cX7_mark 2 = .ok (.putfield 127, 3) := by decide +kernel
theorem dX7_mark_5 : decode cX7_mark 5 = .ok (.aload_n 0, 1) := by decide +kernel
theorem dX7_mark_6 : decode cX7_mark 6 = .ok (.aload_n 0, 1) := by decide +kernel
theorem dX7_mark_7 : decode cX7_mark 7 = .ok (.iload_n 1, 1) := by decide +kernel
theorem dX7_mark_8 : decode cX7_mark 8 = .ok (.invokevirtual 141, 3) := by decide +kernel
theorem dX7_mark_11 : decode cX7_mark 11 = .ok (.ifCond .eq 17, 3) := by decide +kernel
theorem dX7_mark_14 : decode cX7_mark 14 = .ok (.iload_n 2, 1) := by decide +kernel
theorem dX7_mark_15 : decode cX7_mark 15 = .ok (.ifCond .lt 13, 3) := by decide +kernel
theorem dX7_mark_18 : decode cX7_mark 18 = .ok (.iload_n 2, 1) := by decide +kernel
theorem dX7_mark_19 : decode cX7_mark 19 = .ok (.aload_n 0, 1) := by decide +kernel
theorem dX7_mark_20 : decode cX7_mark 20 = .ok (.getfield 9, 3) := by decide +kernel
theorem dX7_mark_23 : decode cX7_mark 23 = .ok (.iload_n 1, 1) := by decide +kernel
theorem dX7_mark_24 : decode cX7_mark 24 = .ok (.iaload, 1) := by decide +kernel
theorem dX7_mark_25 : decode cX7_mark 25 = .ok (.if_icmp .lt 7, 3) := by decide +kernel
theorem dX7_mark_28 : decode cX7_mark 28 = .ok (.iconst 1, 1) := by decide +kernel
theorem dX7_mark_29 : decode cX7_mark 29 = .ok (.goto 4, 3) := by decide +kernel
theorem dX7_mark_32 : decode cX7_mark 32 = .ok (.iconst 0, 1) := by decide +kernel
theorem dX7_mark_33 : decode cX7_mark 33 = .ok (.iconst 1, 1) := by decide +kernel
theorem dX7_mark_34 : decode cX7_mark 34 = .ok (.invokevirtual 227, 3) := by decide +kernel
theorem dX7_mark_37 : decode cX7_mark 37 = .ok (.ifCond .ne 45, 3) := by decide +kernel
theorem dX7_mark_40 : decode cX7_mark 40 = .ok (.aload_n 0, 1) := by decide +kernel
theorem dX7_mark_41 : decode cX7_mark 41 = .ok (.iload_n 3, 1) := by decide +kernel
theorem dX7_mark_42 : decode cX7_mark 42 = .ok (.ifCond .lt 8, 3) := by decide +kernel
theorem dX7_mark_45 : decode cX7_mark 45 = .ok (.iload_n 3, 1) := by decide +kernel
theorem dX7_mark_46 : decode cX7_mark 46 = .ok (.iconst 2, 1) := by decide +kernel
theorem dX7_mark_47 : decode cX7_mark 47 = .ok (.if_icmp .le 7, 3) := by decide +kernel
theorem dX7_mark_50 : decode cX7_mark 50 = .ok (.iconst 1, 1) := by decide +kernel
theorem dX7_mark_51 : decode cX7_mark 51 = .ok (.goto 4, 3) := by decide +kernel
theorem dX7_mark_54 : decode cX7_mark 54 = .ok (.iconst 0, 1) := by decide +kernel
theorem dX7_mark_55 : decode cX7_mark 55 = .ok (.iconst 2, 1) := by decide +kernel
theorem dX7_mark_56 : decode cX7_mark 56 = .ok (.invokevirtual 227, 3) := by decide +kernel
theorem dX7_mark_59 : decode cX7_mark 59 = .ok (.ifCond .ne 23, 3) := by decide +kernel
theorem dX7_mark_62 : decode cX7_mark 62 = .ok (.aload_n 0, 1) := by decide +kernel
theorem dX7_mark_63 : decode cX7_mark 63 = .ok (.aload_n 0, 1) := by decide +kernel
theorem dX7_mark_64 : decode cX7_mark 64 = .ok (.getfield 214, 3) := by decide +kernel
theorem dX7_mark_67 : decode cX7_mark 67 = .ok (.ifCond .eq 7, 3) := by decide +kernel
theorem dX7_mark_70 : decode cX7_mark 70 = .ok (.iconst 1, 1) := by decide +kernel
theorem dX7_mark_71 : decode cX7_mark 71 = .ok (.goto 4, 3) := by decide +kernel
theorem dX7_mark_74 : decode cX7_mark 74 = .ok (.iconst 0, 1) := by decide +kernel
theorem dX7_mark_75 : decode cX7_mark 75 = .ok (.iconst 3, 1) := by decide +kernel
theorem dX7_mark_76 : decode cX7_mark 76 = .ok (.invokevirtual 227, 3) := by decide +kernel
theorem dX7_mark_79 : decode cX7_mark 79 = .ok (.ifCond .eq 5, 3) := by decide +kernel
theorem dX7_mark_82 : decode cX7_mark 82 = .ok (.iconst 0, 1) := by decide +kernel
theorem dX7_mark_83 : decode cX7_mark 83 = .ok (.ireturn, 1) := by decide +kernel
theorem dX7_mark_84 : decode cX7_mark 84 = .ok (.sipush 200, 3) := by decide +kernel
theorem dX7_mark_87 : decode cX7_mark 87 = .ok (.iload_n 1, 1) := by decide +kernel
theorem dX7_mark_88 : decode cX7_mark 88 = .ok (.imul, 1) := by decide +kernel
theorem dX7_mark_89 : decode cX7_mark 89 = .ok (.iload_n 2, 1) := by decide +kernel
theorem dX7_mark_90 : decode cX7_mark 90 = .ok (.iadd, 1) := by decide +kernel
theorem dX7_mark_91 : decode cX7_mark 91 = .ok (.istore 5, 2) := by decide +kernel
theorem dX7_mark_93 : decode cX7_mark 93 = .ok (.aload_n 0, 1) := by decide +kernel
theorem dX7_mark_94 : decode cX7_mark 94 = .ok (.getfield 13, 3) := by decide +kernel
theorem dX7_mark_97 : decode cX7_mark 97 = .ok (.iload 5, 2) := by decide +kernel
theorem dX7_mark_99 : decode cX7_mark 99 = .ok (.baload, 1) := by decide +kernel
theorem dX7_mark_100 : decode cX7_mark 100 = .ok (.iload_n 3, 1) := by decide +kernel
theorem dX7_mark_101 : decode cX7_mark 101 = .ok (.ishr, 1) := by decide +kernel
theorem dX7_mark_102 : decode cX7_mark 102 = .ok (.iconst 1, 1) := by decide +kernel
theorem dX7_mark_103 : decode cX7_mark 103 = .ok (.iand, 1) := by decide +kernel
theorem dX7_mark_104 : decode cX7_mark 104 = .ok (.iconst 1, 1) := by decide +kernel
theorem dX7_mark_105 : decode cX7_mark 105 = .ok (.if_icmp .ne 7, 3) := by decide +kernel
theorem dX7_mark_108 : decode cX7_mark 108 = .ok (.iconst 1, 1) := by decide +kernel
theorem dX7_mark_109 : decode cX7_mark 109 = .ok (.goto 4, 3) := by decide +kernel
theorem dX7_mark_112 : decode cX7_mark 112 = .ok (.iconst 0, 1) := by decide +kernel
theorem dX7_mark_113 : decode cX7_mark 113 = .ok (.istore 6, 2) := by decide +kernel
theorem dX7_mark_115 : decode cX7_mark 115 = .ok (.iload 6, 2) := by decide +kernel
theorem dX7_mark_117 : decode cX7_mark 117 = .ok (.iload 4, 2) := by decide +kernel
theorem dX7_mark_119 : decode cX7_mark 119 = .ok (.if_icmp .eq 17, 3) := by decide +kernel
theorem dX7_mark_122 : decode cX7_mark 122 = .ok (.aload_n 0, 1) := by decide +kernel
theorem dX7_mark_123 : decode cX7_mark 123 = .ok (.getfield 13, 3) := by decide +kernel
theorem dX7_mark_126 : decode cX7_mark 126 = .ok (.iload 5, 2) := by decide +kernel
theorem dX7_mark_128 : decode cX7_mark 128 = .ok (.dup2, 1) := by decide +kernel
theorem dX7_mark_129 : decode cX7_mark 129 = .ok (.baload, 1) := by decide +kernel
theorem dX7_mark_130 : decode cX7_mark 130 = .ok (.iconst 1, 1) := by decide +kernel
theorem dX7_mark_131 : decode cX7_mark 131 = .ok (.iload_n 3, 1) := by decide +kernel
theorem dX7_mark_132 : decode cX7_mark 132 = .ok (.ishl, 1) := by decide +kernel
theorem dX7_mark_133 : decode cX7_mark 133 = .ok (.ixor, 1) := by decide +kernel
theorem dX7_mark_134 : decode cX7_mark 134 = .ok (.i2b, 1) := by decide +kernel
theorem dX7_mark_135 : decode cX7_mark 135 = .ok (.bastore, 1) := by decide +kernel
theorem dX7_mark_136 : decode cX7_mark 136 = .ok (.iload 6, 2) := by decide +kernel
theorem dX7_mark_138 : decode cX7_mark 138 = .ok (.iload 4, 2) := by decide +kernel
theorem dX7_mark_140 : decode cX7_mark 140 = .ok (.if_icmp .eq 7, 3) := by decide +kernel
theorem dX7_mark_143 : decode cX7_mark 143 = .ok (.iconst 1, 1) := by decide +kernel
theorem dX7_mark_144 : decode cX7_mark 144 = .ok (.goto 4, 3) := by decide +kernel
theorem dX7_mark_147 : decode cX7_mark 147 = .ok (.iconst 0, 1) := by decide +kernel
theorem dX7_mark_148 : decode cX7_mark 148 = .ok (.ireturn, 1) := by decide +kernel
set_option maxRecDepth 20000 in
theorem ggX7_trade_X7_throwsIf : GoodIn wsX7_trade wsX7_throwsIf := goodIn_r _ [10, 1, 11, 12, 13, 14, 15, 16, 17, 18, 19, 20, 21, 22, 23, 24, 25, 26, 27, 28, 29, 30, 31, 32, 33, 34, 35, 36, 37, 38, 39, 40, 41, 42, 43, 44, 45, 46, 47, 48, 49, 50, 51, 52, 53, 54, 55, 56, 57, 58, 59, 60, 61] (by decide +kernel) (by decide +kernel)
set_option maxRecDepth 20000 in
theorem gX7_trade_X7_throwsIf : GoodIn wsX7_trade (wsV RX7 227 RX7 yX7_throwsIf wsX7_throwsIf) := goodIn_app (goodIn_of _ (by decide +kernel)) ggX7_trade_X7_throwsIf
theorem dX7_trade_0 : decode cX7_trade 0 = .ok (.aload_n 0, 1) := by decide +kernel
theorem dX7_trade_1 : decode cX7_trade 1 = .ok (.iconst 0, 1) := by decide +kernel
theorem dX7_trade_2 : decode cX7_trade 2 = .ok (.putfield 127, 3) := by decide +kernel
theorem dX7_trade_5 : decode cX7_trade 5 = .ok (.aload_n 0, 1) := by decide +kernel
theorem dX7_trade_6 : decode cX7_trade 6 = .ok (.iload_n 1, 1) := by decide +kernel
theorem dX7_trade_7 : decode cX7_trade 7 = .ok (.ifCond .lt 22, 3) := by decide +kernel
theorem dX7_trade_10 : decode cX7_trade 10 = .ok (.iload_n 1, 1) := by decide +kernel
theorem dX7_trade_11 : decode cX7_trade 11 = .ok (.sipush 1000, 3) := by decide +kernel
theorem dX7_trade_14 : decode cX7_trade 14 = .ok (.if_icmp .gt 15, 3) := by decide +kernel
theorem dX7_trade_17 : decode cX7_trade 17 = .ok (.iload_n 2, 1) := by decide +kernel
theorem dX7_trade_18 : decode cX7_trade 18 = .ok (.iconst 1, 1) := by decide +kernel
theorem dX7_trade_19 : decode cX7_trade 19 = .ok (.if_icmp .lt 10, 3) := by decide +kernel
theorem dX7_trade_22 : decode cX7_trade 22 = .ok (.iload_n 2, 1) := by decide +kernel
theorem dX7_trade_23 : decode cX7_trade 23 = .ok (.sipush 200, 3) := by decide +kernel
theorem dX7_trade_26 : decode cX7_trade 26 = .ok (.if_icmp .le 7, 3) := by decide +kernel
theorem dX7_trade_29 : decode cX7_trade 29 = .ok (.iconst 1, 1) := by decide +kernel
theorem dX7_trade_30 : decode cX7_trade 30 = .ok (.goto 4, 3) := by decide +kernel
theorem dX7_trade_33 : decode cX7_trade 33 = .ok (.iconst 0, 1) := by decide +kernel
theorem dX7_trade_34 : decode cX7_trade 34 = .ok (.iconst 1, 1) := by decide +kernel
theorem dX7_trade_35 : decode cX7_trade 35 = .ok (.invokevirtual 227, 3) := by decide +kernel
theorem dX7_trade_38 : decode cX7_trade 38 = .ok (.ifCond .ne 25, 3) := by decide +kernel
theorem dX7_trade_41 : decode cX7_trade 41 = .ok (.aload_n 0, 1) := by decide +kernel
theorem dX7_trade_42 : decode cX7_trade 42 = .ok (.aload_n 0, 1) := by decide +kernel
theorem dX7_trade_43 : decode cX7_trade 43 = .ok (.getfield 134, 3) := by decide +kernel
theorem dX7_trade_46 : decode cX7_trade 46 = .ok (.bipush 20, 2) := by decide +kernel
theorem dX7_trade_48 : decode cX7_trade 48 = .ok (.if_icmp .ne 7, 3) := by decide +kernel
theorem dX7_trade_51 : decode cX7_trade 51 = .ok (.iconst 1, 1) := by decide +kernel
theorem dX7_trade_52 : decode cX7_trade 52 = .ok (.goto 4, 3) := by decide +kernel
theorem dX7_trade_55 : decode cX7_trade 55 = .ok (.iconst 0, 1) := by decide +kernel
theorem dX7_trade_56 : decode cX7_trade 56 = .ok (.iconst 2, 1) := by decide +kernel
theorem dX7_trade_57 : decode cX7_trade 57 = .ok (.invokevirtual 227, 3) := by decide +kernel
theorem dX7_trade_60 : decode cX7_trade 60 = .ok (.ifCond .eq 5, 3) := by decide +kernel
theorem dX7_trade_63 : decode cX7_trade 63 = .ok (.iconst 0, 1) := by decide +kernel
theorem dX7_trade_64 : decode cX7_trade 64 = .ok (.ireturn, 1) := by decide +kernel
theorem dX7_trade_65 : decode cX7_trade 65 = .ok (.aload_n 0, 1) := by decide +kernel
theorem dX7_trade_66 : decode cX7_trade 66 = .ok (.getfield 17, 3) := by decide +kernel
theorem dX7_trade_69 : decode cX7_trade 69 = .ok (.aload_n 0, 1) := by decide +kernel
theorem dX7_trade_70 : decode cX7_trade 70 = .ok (.getfield 134, 3) := by decide +kernel
theorem dX7_trade_73 : decode cX7_trade 73 = .ok (.iload_n 1, 1) := by decide +kernel
theorem dX7_trade_74 : decode cX7_trade 74 = .ok (.iastore, 1) := by decide +kernel
theorem dX7_trade_75 : decode cX7_trade 75 = .ok (.aload_n 0, 1) := by decide +kernel
theorem dX7_trade_76 : decode cX7_trade 76 = .ok (.getfield 20, 3) := by decide +kernel
theorem dX7_trade_79 : decode cX7_trade 79 = .ok (.aload_n 0, 1) := by decide +kernel
theorem dX7_trade_80 : decode cX7_trade 80 = .ok (.getfield 134, 3) := by decide +kernel
theorem dX7_trade_83 : decode cX7_trade 83 = .ok (.iload_n 2, 1) := by decide +kernel
theorem dX7_trade_84 : decode cX7_trade 84 = .ok (.iastore, 1) := by decide +kernel
theorem dX7_trade_85 : decode cX7_trade 85 = .ok (.aload_n 0, 1) := by decide +kernel
theorem dX7_trade_86 : decode cX7_trade 86 = .ok (.getfield 23, 3) := by decide +kernel
theorem dX7_trade_89 : decode cX7_trade 89 = .ok (.aload_n 0, 1) := by decide +kernel
theorem dX7_trade_90 : decode cX7_trade 90 = .ok (.getfield 134, 3) := by decide +kernel
theorem dX7_trade_93 : decode cX7_trade 93 = .ok (.iload_n 3, 1) := by decide +kernel
theorem dX7_trade_94 : decode cX7_trade 94 = .ok (.bastore, 1) := by decide +kernel
theorem dX7_trade_95 : decode cX7_trade 95 = .ok (.aload_n 0, 1) := by decide +kernel
theorem dX7_trade_96 : decode cX7_trade 96 = .ok (.dup, 1) := by decide +kernel
theorem dX7_trade_97 : decode cX7_trade 97 = .ok (.getfield 134, 3) := by decide +kernel
theorem dX7_trade_100 : decode cX7_trade 100 = .ok (.iconst 1, 1) := by decide +kernel
theorem dX7_trade_101 : decode cX7_trade 101 = .ok (.iadd, 1) := by decide +kernel
theorem dX7_trade_102 : decode cX7_trade 102 = .ok (.putfield 134, 3) := by decide +kernel
theorem dX7_trade_105 : decode cX7_trade 105 = .ok (.aload_n 0, 1) := by decide +kernel
theorem dX7_trade_106 : decode cX7_trade 106 = .ok (.getfield 134, 3) := by decide +kernel
theorem dX7_trade_109 : decode cX7_trade 109 = .ok (.iconst 1, 1) := by decide +kernel
theorem dX7_trade_110 : decode cX7_trade 110 = .ok (.isub, 1) := by decide +kernel
theorem dX7_trade_111 : decode cX7_trade 111 = .ok (.ireturn, 1) := by decide +kernel
set_option maxRecDepth 20000 in
theorem ggX7_pair_X7_noTrade : GoodIn wsX7_pair wsX7_noTrade := goodIn_r _ [8, 9, 14, 15, 16, 17, 18, 19, 20, 21, 22, 23, 24, 25, 26, 27, 28, 29, 30, 31, 32, 33, 34, 35, 36, 37, 38, 39, 40, 41, 42, 43, 44, 45, 46, 47, 48, 49, 50, 51, 52, 53, 54, 55, 56, 57, 58, 59, 60, 61, 62, 63, 64] (by decide +kernel) (by decide +kernel)
set_option maxRecDepth 20000 in
theorem gX7_pair_X7_noTrade : GoodIn wsX7_pair (wsV RX7 231 RX7 yX7_noTrade wsX7_noTrade) := goodIn_app (goodIn_of _ (by decide +kernel)) ggX7_pair_X7_noTrade
set_option maxRecDepth 20000 in
theorem ggX7_pair_X7_throwsIf : GoodIn wsX7_pair wsX7_throwsIf := goodIn_r _ [13, 1, 14, 15, 16, 17, 18, 19, 20, 21, 22, 23, 24, 25, 26, 27, 28, 29, 30, 31, 32, 33, 34, 35, 36, 37, 38, 39, 40, 41, 42, 43, 44, 45, 46, 47, 48, 49, 50, 51, 52, 53, 54, 55, 56, 57, 58, 59, 60, 61, 62, 63, 64] (by decide +kernel) (by decide +kernel)
set_option maxRecDepth 20000 in
theorem gX7_pair_X7_throwsIf : GoodIn wsX7_pair (wsV RX7 227 RX7 yX7_throwsIf wsX7_throwsIf) := goodIn_app (goodIn_of _ (by decide +kernel)) ggX7_pair_X7_throwsIf
theorem dX7_pair_0 : decode cX7_pair 0 = .ok (.aload_n 0, 1) := by decide +kernel
theorem dX7_pair_1 : decode cX7_pair 1 = .ok (.iconst 0, 1) := by decide +kernel
theorem dX7_pair_2 : decode cX7_pair 2 = .ok (.putfield 127, 3) := by decide +kernel
theorem dX7_pair_5 : decode cX7_pair 5 = .ok (.aload_n 0, 1) := by decide +kernel
theorem dX7_pair_6 : decode cX7_pair 6 = .ok (.aload_n 0, 1) := by decide +kernel
theorem dX7_pair_7 : decode cX7_pair 7 = .ok (.iload_n 1, 1) := by decide +kernel
theorem dX7_pair_8 : decode cX7_pair 8 = .ok (.invokevirtual 231, 3) := by decide +kernel
theorem dX7_pair_11 : decode cX7_pair 11 = .ok (.ifCond .ne 11, 3) := by decide +kernel
theorem dX7_pair_14 : decode cX7_pair 14 = .ok (.aload_n 0, 1) := by decide +kernel
theorem dX7_pair_15 : decode cX7_pair 15 = .ok (.iload_n 2, 1) := by decide +kernel
theorem dX7_pair_16 : decode cX7_pair 16 = .ok (.invokevirtual 231, 3) := by decide +kernel
theorem dX7_pair_19 : decode cX7_pair 19 = .ok (.ifCond .eq 7, 3) := by decide +kernel
theorem dX7_pair_22 : decode cX7_pair 22 = .ok (.iconst 1, 1) := by decide +kernel
theorem dX7_pair_23 : decode cX7_pair 23 = .ok (.goto 4, 3) := by decide +kernel
theorem dX7_pair_26 : decode cX7_pair 26 = .ok (.iconst 0, 1) := by decide +kernel
theorem dX7_pair_27 : decode cX7_pair 27 = .ok (.iconst 1, 1) := by decide +kernel
theorem dX7_pair_28 : decode cX7_pair 28 = .ok (.invokevirtual 227, 3) := by decide +kernel
theorem dX7_pair_31 : decode cX7_pair 31 = .ok (.ifCond .ne 23, 3) := by decide +kernel
theorem dX7_pair_34 : decode cX7_pair 34 = .ok (.aload_n 0, 1) := by decide +kernel
theorem dX7_pair_35 : decode cX7_pair 35 = .ok (.aload_n 0, 1) := by decide +kernel
theorem dX7_pair_36 : decode cX7_pair 36 = .ok (.getfield 214, 3) := by decide +kernel
theorem dX7_pair_39 : decode cX7_pair 39 = .ok (.ifCond .eq 7, 3) := by decide +kernel
theorem dX7_pair_42 : decode cX7_pair 42 = .ok (.iconst 1, 1) := by decide +kernel
theorem dX7_pair_43 : decode cX7_pair 43 = .ok (.goto 4, 3) := by decide +kernel
theorem dX7_pair_46 : decode cX7_pair 46 = .ok (.iconst 0, 1) := by decide +kernel
theorem dX7_pair_47 : decode cX7_pair 47 = .ok (.iconst 2, 1) := by decide +kernel
theorem dX7_pair_48 : decode cX7_pair 48 = .ok (.invokevirtual 227, 3) := by decide +kernel
theorem dX7_pair_51 : decode cX7_pair 51 = .ok (.ifCond .eq 5, 3) := by decide +kernel
theorem dX7_pair_54 : decode cX7_pair 54 = .ok (.iconst 0, 1) := by decide +kernel
theorem dX7_pair_55 : decode cX7_pair 55 = .ok (.ireturn, 1) := by decide +kernel
theorem dX7_pair_56 : decode cX7_pair 56 = .ok (.aload_n 0, 1) := by decide +kernel
theorem dX7_pair_57 : decode cX7_pair 57 = .ok (.getfield 27, 3) := by decide +kernel
theorem dX7_pair_60 : decode cX7_pair 60 = .ok (.bipush 20, 2) := by decide +kernel
theorem dX7_pair_62 : decode cX7_pair 62 = .ok (.iload_n 1, 1) := by decide +kernel
theorem dX7_pair_63 : decode cX7_pair 63 = .ok (.imul, 1) := by decide +kernel
theorem dX7_pair_64 : decode cX7_pair 64 = .ok (.iload_n 2, 1) := by decide +kernel
theorem dX7_pair_65 : decode cX7_pair 65 = .ok (.iadd, 1) := by decide +kernel
theorem dX7_pair_66 : decode cX7_pair 66 = .ok (.baload, 1) := by decide +kernel
theorem dX7_pair_67 : decode cX7_pair 67 = .ok (.istore 4, 2) := by decide +kernel
theorem dX7_pair_69 : decode cX7_pair 69 = .ok (.aload_n 0, 1) := by decide +kernel
theorem dX7_pair_70 : decode cX7_pair 70 = .ok (.getfield 27, 3) := by decide +kernel
theorem dX7_pair_73 : decode cX7_pair 73 = .ok (.bipush 20, 2) := by decide +kernel
theorem dX7_pair_75 : decode cX7_pair 75 = .ok (.iload_n 1, 1) := by decide +kernel
theorem dX7_pair_76 : decode cX7_pair 76 = .ok (.imul, 1) := by decide +kernel
theorem dX7_pair_77 : decode cX7_pair 77 = .ok (.iload_n 2, 1) := by decide +kernel
theorem dX7_pair_78 : decode cX7_pair 78 = .ok (.iadd, 1) := by decide +kernel
theorem dX7_pair_79 : decode cX7_pair 79 = .ok (.iload_n 3, 1) := by decide +kernel
theorem dX7_pair_80 : decode cX7_pair 80 = .ok (.bastore, 1) := by decide +kernel
theorem dX7_pair_81 : decode cX7_pair 81 = .ok (.aload_n 0, 1) := by decide +kernel
theorem dX7_pair_82 : decode cX7_pair 82 = .ok (.getfield 27, 3) := by decide +kernel
theorem dX7_pair_85 : decode cX7_pair 85 = .ok (.bipush 20, 2) := by decide +kernel
theorem dX7_pair_87 : decode cX7_pair 87 = .ok (.iload_n 2, 1) := by decide +kernel
theorem dX7_pair_88 : decode cX7_pair 88 = .ok (.imul, 1) := by decide +kernel
theorem dX7_pair_89 : decode cX7_pair 89 = .ok (.iload_n 1, 1) := by decide +kernel
theorem dX7_pair_90 : decode cX7_pair 90 = .ok (.iadd, 1) := by decide +kernel
theorem dX7_pair_91 : decode cX7_pair 91 = .ok (.iload_n 3, 1) := by decide +kernel
theorem dX7_pair_92 : decode cX7_pair 92 = .ok (.bastore, 1) := by decide +kernel
theorem dX7_pair_93 : decode cX7_pair 93 = .ok (.iload 4, 2) := by decide +kernel
theorem dX7_pair_95 : decode cX7_pair 95 = .ok (.iload_n 3, 1) := by decide +kernel
theorem dX7_pair_96 : decode cX7_pair 96 = .ok (.if_icmp .eq 7, 3) := by decide +kernel
theorem dX7_pair_99 : decode cX7_pair 99 = .ok (.iconst 1, 1) := by decide +kernel
theorem dX7_pair_100 : decode cX7_pair 100 = .ok (.goto 4, 3) := by decide +kernel
theorem dX7_pair_103 : decode cX7_pair 103 = .ok (.iconst 0, 1) := by decide +kernel
theorem dX7_pair_104 : decode cX7_pair 104 = .ok (.ireturn, 1) := by decide +kernel
set_option maxRecDepth 20000 in
theorem ggX7_trader_X7_noTrade : GoodIn wsX7_trader wsX7_noTrade := goodIn_r _ [14, 15, 20, 21, 22, 23, 24, 25, 26, 27, 28, 29, 30, 31, 32, 33, 34, 35, 36, 37, 38, 39, 40, 41, 42, 43, 44, 45, 46, 47, 48, 49, 50, 51, 52, 53, 54, 55, 56, 57, 58, 59, 60, 61, 62, 63, 64, 65, 66, 67, 68, 69, 70] (by decide +kernel) (by decide +kernel)
set_option maxRecDepth 20000 in
theorem gX7_trader_X7_noTrade : GoodIn wsX7_trader (wsV RX7 231 RX7 yX7_noTrade wsX7_noTrade) := goodIn_app (goodIn_of _ (by decide +kernel)) ggX7_trader_X7_noTrade
set_option maxRecDepth 20000 in
theorem ggX7_trader_X7_throwsIf : GoodIn wsX7_trader wsX7_throwsIf := goodIn_r _ [19, 1, 20, 21, 22, 23, 24, 25, 26, 27, 28, 29, 30, 31, 32, 33, 34, 35, 36, 37, 38, 39, 40, 41, 42, 43, 44, 45, 46, 47, 48, 49, 50, 51, 52, 53, 54, 55, 56, 57, 58, 59, 60, 61, 62, 63, 64, 65, 66, 67, 68, 69, 70] (by decide +kernel) (by decide +kernel)
set_option maxRecDepth 20000 in
theorem gX7_trader_X7_throwsIf : GoodIn wsX7_trader (wsV RX7 227 RX7 yX7_throwsIf wsX7_throwsIf) := goodIn_app (goodIn_of _ (by decide +kernel)) ggX7_trader_X7_throwsIf
theorem dX7_trader_0 : decode cX7_trader 0 = .ok (.aload_n 0, 1) := by decide +kernel
theorem dX7_trader_1 : decode cX7_trader 1 = .ok (.iconst 0, 1) := by decide +kernel
theorem dX7_trader_2 : decode cX7_trader 2 = .ok (.putfield 127, 3) := by decide +kernel
theorem dX7_trader_5 : decode cX7_trader 5 = .ok (.aload_n 0, 1) := by decide +kernel
theorem dX7_trader_6 : decode cX7_trader 6 = .ok (.aload_n 0, 1) := by decide +kernel
theorem dX7_trader_7 : decode cX7_trader 7 = .ok (.iload_n 2, 1) := by decide +kernel
theorem dX7_trader_8 : decode cX7_trader 8 = .ok (.invokevirtual 231, 3) := by decide +kernel
theorem dX7_trader_11 : decode cX7_trader 11 = .ok (.iconst 1, 1) := by decide +kernel
theorem dX7_trader_12 : decode cX7_trader 12 = .ok (.invokevirtual 227, 3) := by decide +kernel
theorem dX7_trader_15 : decode cX7_trader 15 = .ok (.ifCond .ne 59, 3) := by decide +kernel
theorem dX7_trader_18 : decode cX7_trader 18 = .ok (.aload_n 0, 1) := by decide +kernel
theorem dX7_trader_19 : decode cX7_trader 19 = .ok (.iload_n 1, 1) := by decide +kernel
theorem dX7_trader_20 : decode cX7_trader 20 = .ok (.ifCond .lt 19, 3) := by decide +kernel
theorem dX7_trader_23 : decode cX7_trader 23 = .ok (.iload_n 1, 1) := by decide +kernel
theorem dX7_trader_24 : decode cX7_trader 24 = .ok (.iconst 4, 1) := by decide +kernel
theorem dX7_trader_25 : decode cX7_trader 25 = .ok (.if_icmp .gt 14, 3) := by decide +kernel
theorem dX7_trader_28 : decode cX7_trader 28 = .ok (.iload_n 3, 1) := by decide +kernel
theorem dX7_trader_29 : decode cX7_trader 29 = .ok (.iconst 1, 1) := by decide +kernel
theorem dX7_trader_30 : decode cX7_trader 30 = .ok (.if_icmp .lt 9, 3) := by decide +kernel
theorem dX7_trader_33 : decode cX7_trader 33 = .ok (.iload_n 3, 1) := by decide +kernel
theorem dX7_trader_34 : decode cX7_trader 34 = .ok (.bipush 20, 2) := by decide +kernel
theorem dX7_trader_36 : decode cX7_trader 36 = .ok (.if_icmp .le 7, 3) := by decide +kernel
theorem dX7_trader_39 : decode cX7_trader 39 = .ok (.iconst 1, 1) := by decide +kernel
theorem dX7_trader_40 : decode cX7_trader 40 = .ok (.goto 4, 3) := by decide +kernel
theorem dX7_trader_43 : decode cX7_trader 43 = .ok (.iconst 0, 1) := by decide +kernel
theorem dX7_trader_44 : decode cX7_trader 44 = .ok (.iconst 2, 1) := by decide +kernel
theorem dX7_trader_45 : decode cX7_trader 45 = .ok (.invokevirtual 227, 3) := by decide +kernel
theorem dX7_trader_48 : decode cX7_trader 48 = .ok (.ifCond .ne 26, 3) := by decide +kernel
theorem dX7_trader_51 : decode cX7_trader 51 = .ok (.aload_n 0, 1) := by decide +kernel
theorem dX7_trader_52 : decode cX7_trader 52 = .ok (.aload_n 0, 1) := by decide +kernel
theorem dX7_trader_53 : decode cX7_trader 53 = .ok (.getfield 131, 3) := by decide +kernel
theorem dX7_trader_56 : decode cX7_trader 56 = .ok (.sipush 200, 3) := by decide +kernel
theorem dX7_trader_59 : decode cX7_trader 59 = .ok (.if_icmp .ne 7, 3) := by decide +kernel
theorem dX7_trader_62 : decode cX7_trader 62 = .ok (.iconst 1, 1) := by decide +kernel
theorem dX7_trader_63 : decode cX7_trader 63 = .ok (.goto 4, 3) := by decide +kernel
theorem dX7_trader_66 : decode cX7_trader 66 = .ok (.iconst 0, 1) := by decide +kernel
theorem dX7_trader_67 : decode cX7_trader 67 = .ok (.iconst 3, 1) := by decide +kernel
theorem dX7_trader_68 : decode cX7_trader 68 = .ok (.invokevirtual 227, 3) := by decide +kernel
theorem dX7_trader_71 : decode cX7_trader 71 = .ok (.ifCond .eq 5, 3) := by decide +kernel
theorem dX7_trader_74 : decode cX7_trader 74 = .ok (.iconst 0, 1) := by decide +kernel
theorem dX7_trader_75 : decode cX7_trader 75 = .ok (.ireturn, 1) := by decide +kernel
theorem dX7_trader_76 : decode cX7_trader 76 = .ok (.aload_n 0, 1) := by decide +kernel
theorem dX7_trader_77 : decode cX7_trader 77 = .ok (.getfield 131, 3) := by decide +kernel
theorem dX7_trader_80 : decode cX7_trader 80 = .ok (.istore 4, 2) := by decide +kernel
theorem dX7_trader_82 : decode cX7_trader 82 = .ok (.aload_n 0, 1) := by decide +kernel
theorem dX7_trader_83 : decode cX7_trader 83 = .ok (.getfield 30, 3) := by decide +kernel
theorem dX7_trader_86 : decode cX7_trader 86 = .ok (.iload 4, 2) := by decide +kernel
theorem dX7_trader_88 : decode cX7_trader 88 = .ok (.iload_n 1, 1) := by decide +kernel
theorem dX7_trader_89 : decode cX7_trader 89 = .ok (.iastore, 1) := by decide +kernel
theorem dX7_trader_90 : decode cX7_trader 90 = .ok (.aload_n 0, 1) := by decide +kernel
theorem dX7_trader_91 : decode cX7_trader 91 = .ok (.getfield 33, 3) := by decide +kernel
theorem dX7_trader_94 : decode cX7_trader 94 = .ok (.iload 4, 2) := by decide +kernel
theorem dX7_trader_96 : decode cX7_trader 96 = .ok (.iload_n 2, 1) := by decide +kernel
theorem dX7_trader_97 : decode cX7_trader 97 = .ok (.iastore, 1) := by decide +kernel
theorem dX7_trader_98 : decode cX7_trader 98 = .ok (.aload_n 0, 1) := by decide +kernel
theorem dX7_trader_99 : decode cX7_trader 99 = .ok (.getfield 36, 3) := by decide +kernel
theorem dX7_trader_102 : decode cX7_trader 102 = .ok (.iload 4, 2) := by decide +kernel
theorem dX7_trader_104 : decode cX7_trader 104 = .ok (.iload_n 3, 1) := by decide +kernel
theorem dX7_trader_105 : decode cX7_trader 105 = .ok (.iastore, 1) := by decide +kernel
theorem dX7_trader_106 : decode cX7_trader 106 = .ok (.aload_n 0, 1) := by decide +kernel
theorem dX7_trader_107 : decode cX7_trader 107 = .ok (.getfield 39, 3) := by decide +kernel
theorem dX7_trader_110 : decode cX7_trader 110 = .ok (.iload 4, 2) := by decide +kernel
theorem dX7_trader_112 : decode cX7_trader 112 = .ok (.aload_n 0, 1) := by decide +kernel
theorem dX7_trader_113 : decode cX7_trader 113 = .ok (.getfield 234, 3) := by decide +kernel
theorem dX7_trader_116 : decode cX7_trader 116 = .ok (.iastore, 1) := by decide +kernel
theorem dX7_trader_117 : decode cX7_trader 117 = .ok (.aload_n 0, 1) := by decide +kernel
theorem dX7_trader_118 : decode cX7_trader 118 = .ok (.getfield 51, 3) := by decide +kernel
theorem dX7_trader_121 : decode cX7_trader 121 = .ok (.iload 4, 2) := by decide +kernel
theorem dX7_trader_123 : decode cX7_trader 123 = .ok (.sipush 4095, 3) := by decide +kernel
theorem dX7_trader_126 : decode cX7_trader 126 = .ok (.iastore, 1) := by decide +kernel
theorem dX7_trader_127 : decode cX7_trader 127 = .ok (.aload_n 0, 1) := by decide +kernel
theorem dX7_trader_128 : decode cX7_trader 128 = .ok (.getfield 105, 3) := by decide +kernel
theorem dX7_trader_131 : decode cX7_trader 131 = .ok (.iload 4, 2) := by decide +kernel
theorem dX7_trader_133 : decode cX7_trader 133 = .ok (.iconst (-1), 1) := by decide +kernel
theorem dX7_trader_134 : decode cX7_trader 134 = .ok (.iastore, 1) := by decide +kernel
theorem dX7_trader_135 : decode cX7_trader 135 = .ok (.aload_n 0, 1) := by decide +kernel
theorem dX7_trader_136 : decode cX7_trader 136 = .ok (.dup, 1) := by decide +kernel
theorem dX7_trader_137 : decode cX7_trader 137 = .ok (.getfield 131, 3) := by decide +kernel
theorem dX7_trader_140 : decode cX7_trader 140 = .ok (.iconst 1, 1) := by decide +kernel
theorem dX7_trader_141 : decode cX7_trader 141 = .ok (.iadd, 1) := by decide +kernel
theorem dX7_trader_142 : decode cX7_trader 142 = .ok (.putfield 131, 3) := by decide +kernel
theorem dX7_trader_145 : decode cX7_trader 145 = .ok (.aload_n 0, 1) := by decide +kernel
theorem dX7_trader_146 : decode cX7_trader 146 = .ok (.dup, 1) := by decide +kernel
theorem dX7_trader_147 : decode cX7_trader 147 = .ok (.getfield 234, 3) := by decide +kernel
theorem dX7_trader_150 : decode cX7_trader 150 = .ok (.iconst 1, 1) := by decide +kernel
theorem dX7_trader_151 : decode cX7_trader 151 = .ok (.iadd, 1) := by decide +kernel
theorem dX7_trader_152 : decode cX7_trader 152 = .ok (.putfield 234, 3) := by decide +kernel
theorem dX7_trader_155 : decode cX7_trader 155 = .ok (.iload 4, 2) := by decide +kernel
theorem dX7_trader_157 : decode cX7_trader 157 = .ok (.ireturn, 1) := by decide +kernel
set_option maxRecDepth 20000 in
theorem ggX7_pitch_X7_noTrader : GoodIn wsX7_pitch wsX7_noTrader := goodIn_r _ [11, 12, 17, 18, 19, 20, 21, 22, 23, 24, 25, 26, 27, 28, 29, 30, 31, 32, 33, 34, 35, 36, 37, 38, 39, 40, 41, 42, 43, 44, 45, 46, 47, 48, 49, 50, 51, 52, 53, 54, 55, 56, 57, 58, 59, 60, 61, 62, 63, 64, 65, 66, 67] (by decide +kernel) (by decide +kernel)
set_option maxRecDepth 20000 in
theorem gX7_pitch_X7_noTrader : GoodIn wsX7_pitch (wsV RX7 237 RX7 yX7_noTrader wsX7_noTrader) := goodIn_app (goodIn_of _ (by decide +kernel)) ggX7_pitch_X7_noTrader
set_option maxRecDepth 20000 in
theorem ggX7_pitch_X7_throwsIf : GoodIn wsX7_pitch wsX7_throwsIf := goodIn_r _ [16, 1, 17, 18, 19, 20, 21, 22, 23, 24, 25, 26, 27, 28, 29, 30, 31, 32, 33, 34, 35, 36, 37, 38, 39, 40, 41, 42, 43, 44, 45, 46, 47, 48, 49, 50, 51, 52, 53, 54, 55, 56, 57, 58, 59, 60, 61, 62, 63, 64, 65, 66, 67] (by decide +kernel) (by decide +kernel)
set_option maxRecDepth 20000 in
theorem gX7_pitch_X7_throwsIf : GoodIn wsX7_pitch (wsV RX7 227 RX7 yX7_throwsIf wsX7_throwsIf) := goodIn_app (goodIn_of _ (by decide +kernel)) ggX7_pitch_X7_throwsIf
theorem dX7_pitch_0 : decode cX7_pitch 0 = .ok (.aload_n 0, 1) := by decide +kernel
theorem dX7_pitch_1 : decode cX7_pitch 1 = .ok (.iconst 0, 1) := by decide +kernel
theorem dX7_pitch_2 : decode cX7_pitch 2 = .ok (.putfield 127, 3) := by decide +kernel
theorem dX7_pitch_5 : decode cX7_pitch 5 = .ok (.aload_n 0, 1) := by decide +kernel
theorem dX7_pitch_6 : decode cX7_pitch 6 = .ok (.aload_n 0, 1) := by decide +kernel
theorem dX7_pitch_7 : decode cX7_pitch 7 = .ok (.iload_n 1, 1) := by decide +kernel
theorem dX7_pitch_8 : decode cX7_pitch 8 = .ok (.invokevirtual 237, 3) := by decide +kernel
theorem dX7_pitch_11 : decode cX7_pitch 11 = .ok (.iconst 1, 1) := by decide +kernel
theorem dX7_pitch_12 : decode cX7_pitch 12 = .ok (.invokevirtual 227, 3) := by decide +kernel
theorem dX7_pitch_15 : decode cX7_pitch 15 = .ok (.ifCond .ne 55, 3) := by decide +kernel
theorem dX7_pitch_18 : decode cX7_pitch 18 = .ok (.aload_n 0, 1) := by decide +kernel
theorem dX7_pitch_19 : decode cX7_pitch 19 = .ok (.aload_n 0, 1) := by decide +kernel
theorem dX7_pitch_20 : decode cX7_pitch 20 = .ok (.getfield 30, 3) := by decide +kernel
theorem dX7_pitch_23 : decode cX7_pitch 23 = .ok (.iload_n 1, 1) := by decide +kernel
theorem dX7_pitch_24 : decode cX7_pitch 24 = .ok (.iaload, 1) := by decide +kernel
theorem dX7_pitch_25 : decode cX7_pitch 25 = .ok (.ifCond .eq 17, 3) := by decide +kernel
theorem dX7_pitch_28 : decode cX7_pitch 28 = .ok (.aload_n 0, 1) := by decide +kernel
theorem dX7_pitch_29 : decode cX7_pitch 29 = .ok (.getfield 30, 3) := by decide +kernel
theorem dX7_pitch_32 : decode cX7_pitch 32 = .ok (.iload_n 1, 1) := by decide +kernel
theorem dX7_pitch_33 : decode cX7_pitch 33 = .ok (.iaload, 1) := by decide +kernel
theorem dX7_pitch_34 : decode cX7_pitch 34 = .ok (.iconst 2, 1) := by decide +kernel
theorem dX7_pitch_35 : decode cX7_pitch 35 = .ok (.if_icmp .eq 7, 3) := by decide +kernel
theorem dX7_pitch_38 : decode cX7_pitch 38 = .ok (.iconst 1, 1) := by decide +kernel
theorem dX7_pitch_39 : decode cX7_pitch 39 = .ok (.goto 4, 3) := by decide +kernel
theorem dX7_pitch_42 : decode cX7_pitch 42 = .ok (.iconst 0, 1) := by decide +kernel
theorem dX7_pitch_43 : decode cX7_pitch 43 = .ok (.iconst 2, 1) := by decide +kernel
theorem dX7_pitch_44 : decode cX7_pitch 44 = .ok (.invokevirtual 227, 3) := by decide +kernel
theorem dX7_pitch_47 : decode cX7_pitch 47 = .ok (.ifCond .ne 23, 3) := by decide +kernel
theorem dX7_pitch_50 : decode cX7_pitch 50 = .ok (.aload_n 0, 1) := by decide +kernel
theorem dX7_pitch_51 : decode cX7_pitch 51 = .ok (.aload_n 0, 1) := by decide +kernel
theorem dX7_pitch_52 : decode cX7_pitch 52 = .ok (.getfield 214, 3) := by decide +kernel
theorem dX7_pitch_55 : decode cX7_pitch 55 = .ok (.ifCond .eq 7, 3) := by decide +kernel
theorem dX7_pitch_58 : decode cX7_pitch 58 = .ok (.iconst 1, 1) := by decide +kernel
theorem dX7_pitch_59 : decode cX7_pitch 59 = .ok (.goto 4, 3) := by decide +kernel
theorem dX7_pitch_62 : decode cX7_pitch 62 = .ok (.iconst 0, 1) := by decide +kernel
theorem dX7_pitch_63 : decode cX7_pitch 63 = .ok (.iconst 3, 1) := by decide +kernel
theorem dX7_pitch_64 : decode cX7_pitch 64 = .ok (.invokevirtual 227, 3) := by decide +kernel
theorem dX7_pitch_67 : decode cX7_pitch 67 = .ok (.ifCond .eq 4, 3) := by decide +kernel
theorem dX7_pitch_70 : decode cX7_pitch 70 = .ok (.return_, 1) := by decide +kernel
theorem dX7_pitch_71 : decode cX7_pitch 71 = .ok (.aload_n 0, 1) := by decide +kernel
theorem dX7_pitch_72 : decode cX7_pitch 72 = .ok (.getfield 42, 3) := by decide +kernel
theorem dX7_pitch_75 : decode cX7_pitch 75 = .ok (.iload_n 1, 1) := by decide +kernel
theorem dX7_pitch_76 : decode cX7_pitch 76 = .ok (.iconst 1, 1) := by decide +kernel
theorem dX7_pitch_77 : decode cX7_pitch 77 = .ok (.bastore, 1) := by decide +kernel
theorem dX7_pitch_78 : decode cX7_pitch 78 = .ok (.aload_n 0, 1) := by decide +kernel
theorem dX7_pitch_79 : decode cX7_pitch 79 = .ok (.getfield 45, 3) := by decide +kernel
theorem dX7_pitch_82 : decode cX7_pitch 82 = .ok (.iload_n 1, 1) := by decide +kernel
theorem dX7_pitch_83 : decode cX7_pitch 83 = .ok (.iload_n 2, 1) := by decide +kernel
theorem dX7_pitch_84 : decode cX7_pitch 84 = .ok (.iastore, 1) := by decide +kernel
theorem dX7_pitch_85 : decode cX7_pitch 85 = .ok (.aload_n 0, 1) := by decide +kernel
theorem dX7_pitch_86 : decode cX7_pitch 86 = .ok (.getfield 48, 3) := by decide +kernel
theorem dX7_pitch_89 : decode cX7_pitch 89 = .ok (.iload_n 1, 1) := by decide +kernel
theorem dX7_pitch_90 : decode cX7_pitch 90 = .ok (.iload_n 3, 1) := by decide +kernel
theorem dX7_pitch_91 : decode cX7_pitch 91 = .ok (.iastore, 1) := by decide +kernel
theorem dX7_pitch_92 : decode cX7_pitch 92 = .ok (.return_, 1) := by decide +kernel
set_option maxRecDepth 20000 in
theorem ggX7_months_X7_noTrader : GoodIn wsX7_months wsX7_noTrader := goodIn_r _ [9, 10, 15, 16, 17, 18, 19, 20, 21, 22, 23, 24, 25, 26, 27, 28, 29, 30, 31, 32, 33, 34, 35, 36, 37, 38, 39, 40, 41, 42, 43, 44, 45, 46, 47, 48, 49, 50, 51, 52, 53, 54, 55, 56, 57, 58, 59, 60, 61, 62, 63, 64, 65] (by decide +kernel) (by decide +kernel)
set_option maxRecDepth 20000 in
theorem gX7_months_X7_noTrader : GoodIn wsX7_months (wsV RX7 237 RX7 yX7_noTrader wsX7_noTrader) := goodIn_app (goodIn_of _ (by decide +kernel)) ggX7_months_X7_noTrader
set_option maxRecDepth 20000 in
theorem ggX7_months_X7_throwsIf : GoodIn wsX7_months wsX7_throwsIf := goodIn_r _ [14, 1, 15, 16, 17, 18, 19, 20, 21, 22, 23, 24, 25, 26, 27, 28, 29, 30, 31, 32, 33, 34, 35, 36, 37, 38, 39, 40, 41, 42, 43, 44, 45, 46, 47, 48, 49, 50, 51, 52, 53, 54, 55, 56, 57, 58, 59, 60, 61, 62, 63, 64, 65] (by decide +kernel) (by decide +kernel)
set_option maxRecDepth 20000 in
theorem gX7_months_X7_throwsIf : GoodIn wsX7_months (wsV RX7 227 RX7 yX7_throwsIf wsX7_throwsIf) := goodIn_app (goodIn_of _ (by decide +kernel)) ggX7_months_X7_throwsIf
theorem dX7_months_0 : decode cX7_months 0 = .ok (.aload_n 0, 1) := by decide +kernel
theorem dX7_months_1 : decode cX7_months 1 = .ok (.iconst 0, 1) := by decide +kernel
theorem dX7_months_2 : decode cX7_months 2 = .ok (.putfield 127, 3) := by decide +kernel
theorem dX7_months_5 : decode cX7_months 5 = .ok (.aload_n 0, 1) := by decide +kernel
theorem dX7_months_6 : decode cX7_months 6 = .ok (.aload_n 0, 1) := by decide +kernel
theorem dX7_months_7 : decode cX7_months 7 = .ok (.iload_n 1, 1) := by decide +kernel
theorem dX7_months_8 : decode cX7_months 8 = .ok (.invokevirtual 237, 3) := by decide +kernel
theorem dX7_months_11 : decode cX7_months 11 = .ok (.iconst 1, 1) := by decide +kernel
theorem dX7_months_12 : decode cX7_months 12 = .ok (.invokevirtual 227, 3) := by decide +kernel
theorem dX7_months_15 : decode cX7_months 15 = .ok (.ifCond .ne 57, 3) := by decide +kernel
theorem dX7_months_18 : decode cX7_months 18 = .ok (.aload_n 0, 1) := by decide +kernel
theorem dX7_months_19 : decode cX7_months 19 = .ok (.aload_n 0, 1) := by decide +kernel
theorem dX7_months_20 : decode cX7_months 20 = .ok (.getfield 30, 3) := by decide +kernel
theorem dX7_months_23 : decode cX7_months 23 = .ok (.iload_n 1, 1) := by decide +kernel
theorem dX7_months_24 : decode cX7_months 24 = .ok (.iaload, 1) := by decide +kernel
theorem dX7_months_25 : decode cX7_months 25 = .ok (.iconst 2, 1) := by decide +kernel
theorem dX7_months_26 : decode cX7_months 26 = .ok (.if_icmp .ne 14, 3) := by decide +kernel
theorem dX7_months_29 : decode cX7_months 29 = .ok (.iload_n 2, 1) := by decide +kernel
theorem dX7_months_30 : decode cX7_months 30 = .ok (.ifCond .lt 10, 3) := by decide +kernel
theorem dX7_months_33 : decode cX7_months 33 = .ok (.iload_n 2, 1) := by decide +kernel
theorem dX7_months_34 : decode cX7_months 34 = .ok (.sipush 4095, 3) := by decide +kernel
theorem dX7_months_37 : decode cX7_months 37 = .ok (.if_icmp .le 7, 3) := by decide +kernel
theorem dX7_months_40 : decode cX7_months 40 = .ok (.iconst 1, 1) := by decide +kernel
theorem dX7_months_41 : decode cX7_months 41 = .ok (.goto 4, 3) := by decide +kernel
theorem dX7_months_44 : decode cX7_months 44 = .ok (.iconst 0, 1) := by decide +kernel
theorem dX7_months_45 : decode cX7_months 45 = .ok (.iconst 2, 1) := by decide +kernel
theorem dX7_months_46 : decode cX7_months 46 = .ok (.invokevirtual 227, 3) := by decide +kernel
theorem dX7_months_49 : decode cX7_months 49 = .ok (.ifCond .ne 23, 3) := by decide +kernel
theorem dX7_months_52 : decode cX7_months 52 = .ok (.aload_n 0, 1) := by decide +kernel
theorem dX7_months_53 : decode cX7_months 53 = .ok (.aload_n 0, 1) := by decide +kernel
theorem dX7_months_54 : decode cX7_months 54 = .ok (.getfield 214, 3) := by decide +kernel
theorem dX7_months_57 : decode cX7_months 57 = .ok (.ifCond .eq 7, 3) := by decide +kernel
theorem dX7_months_60 : decode cX7_months 60 = .ok (.iconst 1, 1) := by decide +kernel
theorem dX7_months_61 : decode cX7_months 61 = .ok (.goto 4, 3) := by decide +kernel
theorem dX7_months_64 : decode cX7_months 64 = .ok (.iconst 0, 1) := by decide +kernel
theorem dX7_months_65 : decode cX7_months 65 = .ok (.iconst 3, 1) := by decide +kernel
theorem dX7_months_66 : decode cX7_months 66 = .ok (.invokevirtual 227, 3) := by decide +kernel
theorem dX7_months_69 : decode cX7_months 69 = .ok (.ifCond .eq 4, 3) := by decide +kernel
theorem dX7_months_72 : decode cX7_months 72 = .ok (.return_, 1) := by decide +kernel
theorem dX7_months_73 : decode cX7_months 73 = .ok (.aload_n 0, 1) := by decide +kernel
theorem dX7_months_74 : decode cX7_months 74 = .ok (.getfield 51, 3) := by decide +kernel
theorem dX7_months_77 : decode cX7_months 77 = .ok (.iload_n 1, 1) := by decide +kernel
theorem dX7_months_78 : decode cX7_months 78 = .ok (.iload_n 2, 1) := by decide +kernel
theorem dX7_months_79 : decode cX7_months 79 = .ok (.iastore, 1) := by decide +kernel
theorem dX7_months_80 : decode cX7_months 80 = .ok (.return_, 1) := by decide +kernel
set_option maxRecDepth 20000 in
theorem ggX7_wish_X7_noTrader : GoodIn wsX7_wish wsX7_noTrader := goodIn_r _ [9, 10, 15, 16, 17, 18, 19, 20, 21, 22, 23, 24, 25, 26, 27, 28, 29, 30, 31, 32, 33, 34, 35, 36, 37, 38, 39, 40, 41, 42, 43, 44, 45, 46, 47, 48, 49, 50, 51, 52, 53, 54, 55, 56, 57, 58, 59, 60, 61, 62, 63, 64, 65] (by decide +kernel) (by decide +kernel)
set_option maxRecDepth 20000 in
theorem gX7_wish_X7_noTrader : GoodIn wsX7_wish (wsV RX7 237 RX7 yX7_noTrader wsX7_noTrader) := goodIn_app (goodIn_of _ (by decide +kernel)) ggX7_wish_X7_noTrader
set_option maxRecDepth 20000 in
theorem ggX7_wish_X7_throwsIf : GoodIn wsX7_wish wsX7_throwsIf := goodIn_r _ [14, 1, 15, 16, 17, 18, 19, 20, 21, 22, 23, 24, 25, 26, 27, 28, 29, 30, 31, 32, 33, 34, 35, 36, 37, 38, 39, 40, 41, 42, 43, 44, 45, 46, 47, 48, 49, 50, 51, 52, 53, 54, 55, 56, 57, 58, 59, 60, 61, 62, 63, 64, 65] (by decide +kernel) (by decide +kernel)
set_option maxRecDepth 20000 in
theorem gX7_wish_X7_throwsIf : GoodIn wsX7_wish (wsV RX7 227 RX7 yX7_throwsIf wsX7_throwsIf) := goodIn_app (goodIn_of _ (by decide +kernel)) ggX7_wish_X7_throwsIf
theorem dX7_wish_0 : decode cX7_wish 0 = .ok (.aload_n 0, 1) := by decide +kernel
theorem dX7_wish_1 : decode cX7_wish 1 = .ok (.iconst 0, 1) := by decide +kernel
theorem dX7_wish_2 : decode cX7_wish 2 = .ok (.putfield 127, 3) := by decide +kernel
theorem dX7_wish_5 : decode cX7_wish 5 = .ok (.aload_n 0, 1) := by decide +kernel
theorem dX7_wish_6 : decode cX7_wish 6 = .ok (.aload_n 0, 1) := by decide +kernel
theorem dX7_wish_7 : decode cX7_wish 7 = .ok (.iload_n 1, 1) := by decide +kernel
theorem dX7_wish_8 : decode cX7_wish 8 = .ok (.invokevirtual 237, 3) := by decide +kernel
theorem dX7_wish_11 : decode cX7_wish 11 = .ok (.iconst 1, 1) := by decide +kernel
theorem dX7_wish_12 : decode cX7_wish 12 = .ok (.invokevirtual 227, 3) := by decide +kernel
theorem dX7_wish_15 : decode cX7_wish 15 = .ok (.ifCond .eq 5, 3) := by decide +kernel
theorem dX7_wish_18 : decode cX7_wish 18 = .ok (.iconst 0, 1) := by decide +kernel
theorem dX7_wish_19 : decode cX7_wish 19 = .ok (.ireturn, 1) := by decide +kernel
theorem dX7_wish_20 : decode cX7_wish 20 = .ok (.aload_n 0, 1) := by decide +kernel
theorem dX7_wish_21 : decode cX7_wish 21 = .ok (.getfield 60, 3) := by decide +kernel
theorem dX7_wish_24 : decode cX7_wish 24 = .ok (.iload_n 1, 1) := by decide +kernel
theorem dX7_wish_25 : decode cX7_wish 25 = .ok (.iaload, 1) := by decide +kernel
theorem dX7_wish_26 : decode cX7_wish 26 = .ok (.bipush 12, 2) := by decide +kernel
theorem dX7_wish_28 : decode cX7_wish 28 = .ok (.if_icmp .ne 5, 3) := by decide +kernel
theorem dX7_wish_31 : decode cX7_wish 31 = .ok (.iconst (-1), 1) := by decide +kernel
theorem dX7_wish_32 : decode cX7_wish 32 = .ok (.ireturn, 1) := by decide +kernel
theorem dX7_wish_33 : decode cX7_wish 33 = .ok (.aload_n 0, 1) := by decide +kernel
theorem dX7_wish_34 : decode cX7_wish 34 = .ok (.getfield 54, 3) := by decide +kernel
theorem dX7_wish_37 : decode cX7_wish 37 = .ok (.bipush 12, 2) := by decide +kernel
theorem dX7_wish_39 : decode cX7_wish 39 = .ok (.iload_n 1, 1) := by decide +kernel
theorem dX7_wish_40 : decode cX7_wish 40 = .ok (.imul, 1) := by decide +kernel
theorem dX7_wish_41 : decode cX7_wish 41 = .ok (.aload_n 0, 1) := by decide +kernel
theorem dX7_wish_42 : decode cX7_wish 42 = .ok (.getfield 60, 3) := by decide +kernel
theorem dX7_wish_45 : decode cX7_wish 45 = .ok (.iload_n 1, 1) := by decide +kernel
theorem dX7_wish_46 : decode cX7_wish 46 = .ok (.iaload, 1) := by decide +kernel
theorem dX7_wish_47 : decode cX7_wish 47 = .ok (.iadd, 1) := by decide +kernel
theorem dX7_wish_48 : decode cX7_wish 48 = .ok (.iload_n 2, 1) := by decide +kernel
theorem dX7_wish_49 : decode cX7_wish 49 = .ok (.iastore, 1) := by decide +kernel
theorem dX7_wish_50 : decode cX7_wish 50 = .ok (.aload_n 0, 1) := by decide +kernel
theorem dX7_wish_51 : decode cX7_wish 51 = .ok (.getfield 57, 3) := by decide +kernel
theorem dX7_wish_54 : decode cX7_wish 54 = .ok (.bipush 12, 2) := by decide +kernel
theorem dX7_wish_56 : decode cX7_wish 56 = .ok (.iload_n 1, 1) := by decide +kernel
theorem dX7_wish_57 : decode cX7_wish 57 = .ok (.imul, 1) := by decide +kernel
theorem dX7_wish_58 : decode cX7_wish 58 = .ok (.aload_n 0, 1) := by decide +kernel
theorem dX7_wish_59 : decode cX7_wish 59 = .ok (.getfield 60, 3) := by decide +kernel
theorem dX7_wish_62 : decode cX7_wish 62 = .ok (.iload_n 1, 1) := by decide +kernel
theorem dX7_wish_63 : decode cX7_wish 63 = .ok (.iaload, 1) := by decide +kernel
theorem dX7_wish_64 : decode cX7_wish 64 = .ok (.iadd, 1) := by decide +kernel
theorem dX7_wish_65 : decode cX7_wish 65 = .ok (.iload_n 3, 1) := by decide +kernel
theorem dX7_wish_66 : decode cX7_wish 66 = .ok (.iastore, 1) := by decide +kernel
theorem dX7_wish_67 : decode cX7_wish 67 = .ok (.aload_n 0, 1) := by decide +kernel
theorem dX7_wish_68 : decode cX7_wish 68 = .ok (.getfield 60, 3) := by decide +kernel
theorem dX7_wish_71 : decode cX7_wish 71 = .ok (.iload_n 1, 1) := by decide +kernel
theorem dX7_wish_72 : decode cX7_wish 72 = .ok (.dup2, 1) := by decide +kernel
theorem dX7_wish_73 : decode cX7_wish 73 = .ok (.iaload, 1) := by decide +kernel
theorem dX7_wish_74 : decode cX7_wish 74 = .ok (.iconst 1, 1) := by decide +kernel
theorem dX7_wish_75 : decode cX7_wish 75 = .ok (.iadd, 1) := by decide +kernel
theorem dX7_wish_76 : decode cX7_wish 76 = .ok (.iastore, 1) := by decide +kernel
theorem dX7_wish_77 : decode cX7_wish 77 = .ok (.aload_n 0, 1) := by decide +kernel
theorem dX7_wish_78 : decode cX7_wish 78 = .ok (.getfield 60, 3) := by decide +kernel
theorem dX7_wish_81 : decode cX7_wish 81 = .ok (.iload_n 1, 1) := by decide +kernel
theorem dX7_wish_82 : decode cX7_wish 82 = .ok (.iaload, 1) := by decide +kernel
theorem dX7_wish_83 : decode cX7_wish 83 = .ok (.ireturn, 1) := by decide +kernel
set_option maxRecDepth 20000 in
theorem ggX7_wishes_X7_noTrader : GoodIn wsX7_wishes wsX7_noTrader := goodIn_r _ [8, 9, 14, 15, 16, 17, 18, 19, 20, 21, 22, 23, 24, 25, 26, 27, 28, 29, 30, 31, 32, 33, 34, 35, 36, 37, 38, 39, 40, 41, 42, 43, 44, 45, 46, 47, 48, 49, 50, 51, 52, 53, 54, 55, 56, 57, 58, 59, 60, 61, 62, 63, 64] (by decide +kernel) (by decide +kernel)
set_option maxRecDepth 20000 in
theorem gX7_wishes_X7_noTrader : GoodIn wsX7_wishes (wsV RX7 237 RX7 yX7_noTrader wsX7_noTrader) := goodIn_app (goodIn_of _ (by decide +kernel)) ggX7_wishes_X7_noTrader
set_option maxRecDepth 20000 in
theorem ggX7_wishes_X7_throwsIf : GoodIn wsX7_wishes wsX7_throwsIf := goodIn_r _ [13, 1, 14, 15, 16, 17, 18, 19, 20, 21, 22, 23, 24, 25, 26, 27, 28, 29, 30, 31, 32, 33, 34, 35, 36, 37, 38, 39, 40, 41, 42, 43, 44, 45, 46, 47, 48, 49, 50, 51, 52, 53, 54, 55, 56, 57, 58, 59, 60, 61, 62, 63, 64] (by decide +kernel) (by decide +kernel)
set_option maxRecDepth 20000 in
theorem gX7_wishes_X7_throwsIf : GoodIn wsX7_wishes (wsV RX7 227 RX7 yX7_throwsIf wsX7_throwsIf) := goodIn_app (goodIn_of _ (by decide +kernel)) ggX7_wishes_X7_throwsIf
theorem dX7_wishes_0 : decode cX7_wishes 0 = .ok (.aload_n 0, 1) := by decide +kernel
theorem dX7_wishes_1 : decode cX7_wishes 1 = .ok (.iconst 0, 1) := by decide +kernel
theorem dX7_wishes_2 : decode cX7_wishes 2 = .ok (.putfield 127, 3) := by decide +kernel
theorem dX7_wishes_5 : decode cX7_wishes 5 = .ok (.aload_n 0, 1) := by decide +kernel
theorem dX7_wishes_6 : decode cX7_wishes 6 = .ok (.aload_n 0, 1) := by decide +kernel
theorem dX7_wishes_7 : decode cX7_wishes 7 = .ok (.iload_n 1, 1) := by decide +kernel
theorem dX7_wishes_8 : decode cX7_wishes 8 = .ok (.invokevirtual 237, 3) := by decide +kernel
theorem dX7_wishes_11 : decode cX7_wishes 11 = .ok (.iconst 1, 1) := by decide +kernel
theorem dX7_wishes_12 : decode cX7_wishes 12 = .ok (.invokevirtual 227, 3) := by decide +kernel
theorem dX7_wishes_15 : decode cX7_wishes 15 = .ok (.ifCond .eq 4, 3) := by decide +kernel
theorem dX7_wishes_18 : decode cX7_wishes 18 = .ok (.return_, 1) := by decide +kernel
theorem dX7_wishes_19 : decode cX7_wishes 19 = .ok (.aload_n 0, 1) := by decide +kernel
theorem dX7_wishes_20 : decode cX7_wishes 20 = .ok (.getfield 60, 3) := by decide +kernel
theorem dX7_wishes_23 : decode cX7_wishes 23 = .ok (.iload_n 1, 1) := by decide +kernel
theorem dX7_wishes_24 : decode cX7_wishes 24 = .ok (.iconst 0, 1) := by decide +kernel
theorem dX7_wishes_25 : decode cX7_wishes 25 = .ok (.iastore, 1) := by decide +kernel
theorem dX7_wishes_26 : decode cX7_wishes 26 = .ok (.aload_n 0, 1) := by decide +kernel
theorem dX7_wishes_27 : decode cX7_wishes 27 = .ok (.getfield 63, 3) := by decide +kernel
theorem dX7_wishes_30 : decode cX7_wishes 30 = .ok (.iload_n 1, 1) := by decide +kernel
theorem dX7_wishes_31 : decode cX7_wishes 31 = .ok (.iload_n 2, 1) := by decide +kernel
theorem dX7_wishes_32 : decode cX7_wishes 32 = .ok (.bastore, 1) := by decide +kernel
theorem dX7_wishes_33 : decode cX7_wishes 33 = .ok (.return_, 1) := by decide +kernel
set_option maxRecDepth 20000 in
theorem ggX7_want_X7_noTrader : GoodIn wsX7_want wsX7_noTrader := goodIn_r _ [7, 8, 13, 14, 15, 16, 17, 18, 19, 20, 21, 22, 23, 24, 25, 26, 27, 28, 29, 30, 31, 32, 33, 34, 35, 36, 37, 38, 39, 40, 41, 42, 43, 44, 45, 46, 47, 48, 49, 50, 51, 52, 53, 54, 55, 56, 57, 58, 59, 60, 61, 62, 63] (by decide +kernel) (by decide +kernel)
set_option maxRecDepth 20000 in
theorem gX7_want_X7_noTrader : GoodIn wsX7_want (wsV RX7 237 RX7 yX7_noTrader wsX7_noTrader) := goodIn_app (goodIn_of _ (by decide +kernel)) ggX7_want_X7_noTrader
set_option maxRecDepth 20000 in
theorem ggX7_want_X7_throwsIf : GoodIn wsX7_want wsX7_throwsIf := goodIn_r _ [12, 1, 13, 14, 15, 16, 17, 18, 19, 20, 21, 22, 23, 24, 25, 26, 27, 28, 29, 30, 31, 32, 33, 34, 35, 36, 37, 38, 39, 40, 41, 42, 43, 44, 45, 46, 47, 48, 49, 50, 51, 52, 53, 54, 55, 56, 57, 58, 59, 60, 61, 62, 63] (by decide +kernel) (by decide +kernel)
set_option maxRecDepth 20000 in
theorem gX7_want_X7_throwsIf : GoodIn wsX7_want (wsV RX7 227 RX7 yX7_throwsIf wsX7_throwsIf) := goodIn_app (goodIn_of _ (by decide +kernel)) ggX7_want_X7_throwsIf
theorem dX7_want_0 : decode cX7_want 0 = .ok (.aload_n 0, 1) := by decide +kernel
theorem dX7_want_1 : decode cX7_want 1 = .ok (.iconst 0, 1) := by decide +kernel
theorem dX7_want_2 : decode cX7_want 2 = .ok (.putfield 127, 3) := by decide +kernel
theorem dX7_want_5 : decode cX7_want 5 = .ok (.aload_n 0, 1) := by decide +kernel
theorem dX7_want_6 : decode cX7_want 6 = .ok (.aload_n 0, 1) := by decide +kernel
theorem dX7_want_7 : decode cX7_want 7 = .ok (.iload_n 1, 1) := by decide +kernel
theorem dX7_want_8 : decode cX7_want 8 = .ok (.invokevirtual 237, 3) := by decide +kernel
theorem dX7_want_11 : decode cX7_want 11 = .ok (.iconst 1, 1) := by decide +kernel
theorem dX7_want_12 : decode cX7_want 12 = .ok (.invokevirtual 227, 3) := by decide +kernel
theorem dX7_want_15 : decode cX7_want 15 = .ok (.ifCond .eq 4, 3) := by decide +kernel
theorem dX7_want_18 : decode cX7_want 18 = .ok (.return_, 1) := by decide +kernel
theorem dX7_want_19 : decode cX7_want 19 = .ok (.aload_n 0, 1) := by decide +kernel
theorem dX7_want_20 : decode cX7_want 20 = .ok (.getfield 66, 3) := by decide +kernel
theorem dX7_want_23 : decode cX7_want 23 = .ok (.iload_n 1, 1) := by decide +kernel
theorem dX7_want_24 : decode cX7_want 24 = .ok (.iload_n 2, 1) := by decide +kernel
theorem dX7_want_25 : decode cX7_want 25 = .ok (.bastore, 1) := by decide +kernel
theorem dX7_want_26 : decode cX7_want 26 = .ok (.return_, 1) := by decide +kernel
set_option maxRecDepth 20000 in
theorem ggX7_day_X7_throwsIf : GoodIn wsX7_day wsX7_throwsIf := goodIn_r _ [10, 1, 21, 22, 23, 24, 25, 26, 27, 28, 29, 30, 31, 32, 33, 34, 35, 36, 37, 38, 39, 40, 41, 42, 43, 44, 45, 46, 47, 48, 49, 50, 51, 52, 53, 54, 55, 56, 57, 58, 59, 60, 61, 62, 63, 64, 65, 66, 67, 68, 69, 70, 71] (by decide +kernel) (by decide +kernel)
set_option maxRecDepth 20000 in
theorem gX7_day_X7_throwsIf : GoodIn wsX7_day (wsV RX7 227 RX7 yX7_throwsIf wsX7_throwsIf) := goodIn_app (goodIn_of _ (by decide +kernel)) ggX7_day_X7_throwsIf
set_option maxRecDepth 20000 in
theorem ggX7_day_X7_rests : GoodIn wsX7_day wsX7_rests := goodIn_r _ [14, 15, 16, 17, 18, 19, 20, 21, 22, 23, 24, 25, 26, 27, 28, 29, 30, 31, 32, 33, 34, 35, 36, 37, 38, 39, 40, 41, 42, 43, 44, 45, 46, 47, 48, 49, 50, 51, 52, 53, 54, 55, 56, 57, 58, 59, 60, 61, 62, 63, 64, 65, 66, 67, 68, 69, 70, 71] (by decide +kernel) (by decide +kernel)
set_option maxRecDepth 20000 in
theorem gX7_day_X7_rests : GoodIn wsX7_day (wsV RX7 243 RX7 yX7_rests wsX7_rests) := goodIn_app (goodIn_of _ (by decide +kernel)) ggX7_day_X7_rests
theorem dX7_day_0 : decode cX7_day 0 = .ok (.aload_n 0, 1) := by decide +kernel
theorem dX7_day_1 : decode cX7_day 1 = .ok (.iconst 0, 1) := by decide +kernel
theorem dX7_day_2 : decode cX7_day 2 = .ok (.putfield 127, 3) := by decide +kernel
theorem dX7_day_5 : decode cX7_day 5 = .ok (.aload_n 0, 1) := by decide +kernel
theorem dX7_day_6 : decode cX7_day 6 = .ok (.iload_n 1, 1) := by decide +kernel
theorem dX7_day_7 : decode cX7_day 7 = .ok (.ifCond .lt 9, 3) := by decide +kernel
theorem dX7_day_10 : decode cX7_day 10 = .ok (.iload_n 1, 1) := by decide +kernel
theorem dX7_day_11 : decode cX7_day 11 = .ok (.bipush 11, 2) := by decide +kernel
theorem dX7_day_13 : decode cX7_day 13 = .ok (.if_icmp .le 7, 3) := by decide +kernel
theorem dX7_day_16 : decode cX7_day 16 = .ok (.iconst 1, 1) := by decide +kernel
theorem dX7_day_17 : decode cX7_day 17 = .ok (.goto 4, 3) := by decide +kernel
theorem dX7_day_20 : decode cX7_day 20 = .ok (.iconst 0, 1) := by decide +kernel
theorem dX7_day_21 : decode cX7_day 21 = .ok (.iconst 1, 1) := by decide +kernel
theorem dX7_day_22 : decode cX7_day 22 = .ok (.invokevirtual 227, 3) := by decide +kernel
theorem dX7_day_25 : decode cX7_day 25 = .ok (.ifCond .ne 23, 3) := by decide +kernel
theorem dX7_day_28 : decode cX7_day 28 = .ok (.aload_n 0, 1) := by decide +kernel
theorem dX7_day_29 : decode cX7_day 29 = .ok (.aload_n 0, 1) := by decide +kernel
theorem dX7_day_30 : decode cX7_day 30 = .ok (.getfield 214, 3) := by decide +kernel
theorem dX7_day_33 : decode cX7_day 33 = .ok (.ifCond .eq 7, 3) := by decide +kernel
theorem dX7_day_36 : decode cX7_day 36 = .ok (.iconst 1, 1) := by decide +kernel
theorem dX7_day_37 : decode cX7_day 37 = .ok (.goto 4, 3) := by decide +kernel
theorem dX7_day_40 : decode cX7_day 40 = .ok (.iconst 0, 1) := by decide +kernel
theorem dX7_day_41 : decode cX7_day 41 = .ok (.iconst 2, 1) := by decide +kernel
theorem dX7_day_42 : decode cX7_day 42 = .ok (.invokevirtual 227, 3) := by decide +kernel
theorem dX7_day_45 : decode cX7_day 45 = .ok (.ifCond .eq 5, 3) := by decide +kernel
theorem dX7_day_48 : decode cX7_day 48 = .ok (.iconst 0, 1) := by decide +kernel
theorem dX7_day_49 : decode cX7_day 49 = .ok (.ireturn, 1) := by decide +kernel
theorem dX7_day_50 : decode cX7_day 50 = .ok (.aload_n 0, 1) := by decide +kernel
theorem dX7_day_51 : decode cX7_day 51 = .ok (.iload_n 1, 1) := by decide +kernel
theorem dX7_day_52 : decode cX7_day 52 = .ok (.putfield 172, 3) := by decide +kernel
theorem dX7_day_55 : decode cX7_day 55 = .ok (.aload_n 0, 1) := by decide +kernel
theorem dX7_day_56 : decode cX7_day 56 = .ok (.iconst 1, 1) := by decide +kernel
theorem dX7_day_57 : decode cX7_day 57 = .ok (.putfield 214, 3) := by decide +kernel
theorem dX7_day_60 : decode cX7_day 60 = .ok (.aload_n 0, 1) := by decide +kernel
theorem dX7_day_61 : decode cX7_day 61 = .ok (.iconst 0, 1) := by decide +kernel
theorem dX7_day_62 : decode cX7_day 62 = .ok (.putfield 220, 3) := by decide +kernel
theorem dX7_day_65 : decode cX7_day 65 = .ok (.aload_n 0, 1) := by decide +kernel
theorem dX7_day_66 : decode cX7_day 66 = .ok (.dup, 1) := by decide +kernel
theorem dX7_day_67 : decode cX7_day 67 = .ok (.getfield 240, 3) := by decide +kernel
theorem dX7_day_70 : decode cX7_day 70 = .ok (.iconst 1, 1) := by decide +kernel
theorem dX7_day_71 : decode cX7_day 71 = .ok (.iadd, 1) := by decide +kernel
theorem dX7_day_72 : decode cX7_day 72 = .ok (.putfield 240, 3) := by decide +kernel
theorem dX7_day_75 : decode cX7_day 75 = .ok (.aload_n 0, 1) := by decide +kernel
theorem dX7_day_76 : decode cX7_day 76 = .ok (.invokevirtual 243, 3) := by decide +kernel
theorem dX7_day_79 : decode cX7_day 79 = .ok (.aload_n 0, 1) := by decide +kernel
theorem dX7_day_80 : decode cX7_day 80 = .ok (.getfield 240, 3) := by decide +kernel
theorem dX7_day_83 : decode cX7_day 83 = .ok (.iconst 1, 1) := by decide +kernel
theorem dX7_day_84 : decode cX7_day 84 = .ok (.isub, 1) := by decide +kernel
theorem dX7_day_85 : decode cX7_day 85 = .ok (.ireturn, 1) := by decide +kernel
theorem dX7_rests_0 : decode cX7_rests 0 = .ok (.iconst 0, 1) := by decide +kernel
theorem dX7_rests_1 : decode cX7_rests 1 = .ok (.istore_n 1, 1) := by decide +kernel
theorem dX7_rests_2 : decode cX7_rests 2 = .ok (.iload_n 1, 1) := by decide +kernel
theorem dX7_rests_3 : decode cX7_rests 3 = .ok (.sipush 200, 3) := by decide +kernel
theorem dX7_rests_6 : decode cX7_rests 6 = .ok (.if_icmp .ge 51, 3) := by decide +kernel
theorem dX7_rests_9 : decode cX7_rests 9 = .ok (.aload_n 0, 1) := by decide +kernel
theorem dX7_rests_10 : decode cX7_rests 10 = .ok (.getfield 69, 3) := by decide +kernel
theorem dX7_rests_13 : decode cX7_rests 13 = .ok (.iload_n 1, 1) := by decide +kernel
theorem dX7_rests_14 : decode cX7_rests 14 = .ok (.iconst 0, 1) := by decide +kernel
theorem dX7_rests_15 : decode cX7_rests 15 = .ok (.bastore, 1) := by decide +kernel
theorem dX7_rests_16 : decode cX7_rests 16 = .ok (.aload_n 0, 1) := by decide +kernel
theorem dX7_rests_17 : decode cX7_rests 17 = .ok (.getfield 72, 3) := by decide +kernel
theorem dX7_rests_20 : decode cX7_rests 20 = .ok (.iload_n 1, 1) := by decide +kernel
theorem dX7_rests_21 : decode cX7_rests 21 = .ok (.iconst 0, 1) := by decide +kernel
theorem dX7_rests_22 : decode cX7_rests 22 = .ok (.bastore, 1) := by decide +kernel
theorem dX7_rests_23 : decode cX7_rests 23 = .ok (.aload_n 0, 1) := by decide +kernel
theorem dX7_rests_24 : decode cX7_rests 24 = .ok (.getfield 75, 3) := by decide +kernel
theorem dX7_rests_27 : decode cX7_rests 27 = .ok (.iload_n 1, 1) := by decide +kernel
theorem dX7_rests_28 : decode cX7_rests 28 = .ok (.iconst 0, 1) := by decide +kernel
theorem dX7_rests_29 : decode cX7_rests 29 = .ok (.bastore, 1) := by decide +kernel
theorem dX7_rests_30 : decode cX7_rests 30 = .ok (.aload_n 0, 1) := by decide +kernel
theorem dX7_rests_31 : decode cX7_rests 31 = .ok (.getfield 78, 3) := by decide +kernel
theorem dX7_rests_34 : decode cX7_rests 34 = .ok (.iload_n 1, 1) := by decide +kernel
theorem dX7_rests_35 : decode cX7_rests 35 = .ok (.iconst 0, 1) := by decide +kernel
theorem dX7_rests_36 : decode cX7_rests 36 = .ok (.bastore, 1) := by decide +kernel
theorem dX7_rests_37 : decode cX7_rests 37 = .ok (.aload_n 0, 1) := by decide +kernel
theorem dX7_rests_38 : decode cX7_rests 38 = .ok (.getfield 81, 3) := by decide +kernel
theorem dX7_rests_41 : decode cX7_rests 41 = .ok (.iload_n 1, 1) := by decide +kernel
theorem dX7_rests_42 : decode cX7_rests 42 = .ok (.iconst 0, 1) := by decide +kernel
theorem dX7_rests_43 : decode cX7_rests 43 = .ok (.bastore, 1) := by decide +kernel
theorem dX7_rests_44 : decode cX7_rests 44 = .ok (.aload_n 0, 1) := by decide +kernel
theorem dX7_rests_45 : decode cX7_rests 45 = .ok (.getfield 84, 3) := by decide +kernel
theorem dX7_rests_48 : decode cX7_rests 48 = .ok (.iload_n 1, 1) := by decide +kernel
theorem dX7_rests_49 : decode cX7_rests 49 = .ok (.iconst 0, 1) := by decide +kernel
theorem dX7_rests_50 : decode cX7_rests 50 = .ok (.bastore, 1) := by decide +kernel
theorem dX7_rests_51 : decode cX7_rests 51 = .ok (.iinc 1 1, 3) := by decide +kernel
theorem dX7_rests_54 : decode cX7_rests 54 = .ok (.goto (-52), 3) := by decide +kernel
theorem dX7_rests_57 : decode cX7_rests 57 = .ok (.return_, 1) := by decide +kernel
set_option maxRecDepth 20000 in
theorem ggX7_there_X7_noTrader : GoodIn wsX7_there wsX7_noTrader := goodIn_r _ [8, 9, 14, 15, 16, 17, 18, 19, 20, 21, 22, 23, 24, 25, 26, 27, 28, 29, 30, 31, 32, 33, 34, 35, 36, 37, 38, 39, 40, 41, 42, 43, 44, 45, 46, 47, 48, 49, 50, 51, 52, 53, 54, 55, 56, 57, 58, 59, 60, 61, 62, 63, 64] (by decide +kernel) (by decide +kernel)
set_option maxRecDepth 20000 in
theorem gX7_there_X7_noTrader : GoodIn wsX7_there (wsV RX7 237 RX7 yX7_noTrader wsX7_noTrader) := goodIn_app (goodIn_of _ (by decide +kernel)) ggX7_there_X7_noTrader
set_option maxRecDepth 20000 in
theorem ggX7_there_X7_throwsIf : GoodIn wsX7_there wsX7_throwsIf := goodIn_r _ [13, 1, 14, 15, 16, 17, 18, 19, 20, 21, 22, 23, 24, 25, 26, 27, 28, 29, 30, 31, 32, 33, 34, 35, 36, 37, 38, 39, 40, 41, 42, 43, 44, 45, 46, 47, 48, 49, 50, 51, 52, 53, 54, 55, 56, 57, 58, 59, 60, 61, 62, 63, 64] (by decide +kernel) (by decide +kernel)
set_option maxRecDepth 20000 in
theorem gX7_there_X7_throwsIf : GoodIn wsX7_there (wsV RX7 227 RX7 yX7_throwsIf wsX7_throwsIf) := goodIn_app (goodIn_of _ (by decide +kernel)) ggX7_there_X7_throwsIf
theorem dX7_there_0 : decode cX7_there 0 = .ok (.aload_n 0, 1) := by decide +kernel
theorem dX7_there_1 : decode cX7_there 1 = .ok (.iconst 0, 1) := by decide +kernel
theorem dX7_there_2 : decode cX7_there 2 = .ok (.putfield 127, 3) := by decide +kernel
theorem dX7_there_5 : decode cX7_there 5 = .ok (.aload_n 0, 1) := by decide +kernel
theorem dX7_there_6 : decode cX7_there 6 = .ok (.aload_n 0, 1) := by decide +kernel
theorem dX7_there_7 : decode cX7_there 7 = .ok (.iload_n 1, 1) := by decide +kernel
theorem dX7_there_8 : decode cX7_there 8 = .ok (.invokevirtual 237, 3) := by decide +kernel
theorem dX7_there_11 : decode cX7_there 11 = .ok (.iconst 1, 1) := by decide +kernel
theorem dX7_there_12 : decode cX7_there 12 = .ok (.invokevirtual 227, 3) := by decide +kernel
theorem dX7_there_15 : decode cX7_there 15 = .ok (.ifCond .ne 23, 3) := by decide +kernel
theorem dX7_there_18 : decode cX7_there 18 = .ok (.aload_n 0, 1) := by decide +kernel
theorem dX7_there_19 : decode cX7_there 19 = .ok (.aload_n 0, 1) := by decide +kernel
theorem dX7_there_20 : decode cX7_there 20 = .ok (.getfield 214, 3) := by decide +kernel
theorem dX7_there_23 : decode cX7_there 23 = .ok (.ifCond .ne 7, 3) := by decide +kernel
theorem dX7_there_26 : decode cX7_there 26 = .ok (.iconst 1, 1) := by decide +kernel
theorem dX7_there_27 : decode cX7_there 27 = .ok (.goto 4, 3) := by decide +kernel
theorem dX7_there_30 : decode cX7_there 30 = .ok (.iconst 0, 1) := by decide +kernel
theorem dX7_there_31 : decode cX7_there 31 = .ok (.iconst 2, 1) := by decide +kernel
theorem dX7_there_32 : decode cX7_there 32 = .ok (.invokevirtual 227, 3) := by decide +kernel
theorem dX7_there_35 : decode cX7_there 35 = .ok (.ifCond .eq 5, 3) := by decide +kernel
theorem dX7_there_38 : decode cX7_there 38 = .ok (.iconst 0, 1) := by decide +kernel
theorem dX7_there_39 : decode cX7_there 39 = .ok (.ireturn, 1) := by decide +kernel
theorem dX7_there_40 : decode cX7_there 40 = .ok (.aload_n 0, 1) := by decide +kernel
theorem dX7_there_41 : decode cX7_there 41 = .ok (.getfield 69, 3) := by decide +kernel
theorem dX7_there_44 : decode cX7_there 44 = .ok (.iload_n 1, 1) := by decide +kernel
theorem dX7_there_45 : decode cX7_there 45 = .ok (.baload, 1) := by decide +kernel
theorem dX7_there_46 : decode cX7_there 46 = .ok (.istore_n 2, 1) := by decide +kernel
theorem dX7_there_47 : decode cX7_there 47 = .ok (.aload_n 0, 1) := by decide +kernel
theorem dX7_there_48 : decode cX7_there 48 = .ok (.getfield 69, 3) := by decide +kernel
theorem dX7_there_51 : decode cX7_there 51 = .ok (.iload_n 1, 1) := by decide +kernel
theorem dX7_there_52 : decode cX7_there 52 = .ok (.iconst 1, 1) := by decide +kernel
theorem dX7_there_53 : decode cX7_there 53 = .ok (.bastore, 1) := by decide +kernel
theorem dX7_there_54 : decode cX7_there 54 = .ok (.iload_n 2, 1) := by decide +kernel
theorem dX7_there_55 : decode cX7_there 55 = .ok (.ifCond .ne 7, 3) := by decide +kernel
theorem dX7_there_58 : decode cX7_there 58 = .ok (.iconst 1, 1) := by decide +kernel
theorem dX7_there_59 : decode cX7_there 59 = .ok (.goto 4, 3) := by decide +kernel
theorem dX7_there_62 : decode cX7_there 62 = .ok (.iconst 0, 1) := by decide +kernel
theorem dX7_there_63 : decode cX7_there 63 = .ok (.ireturn, 1) := by decide +kernel
set_option maxRecDepth 20000 in
theorem ggX7_word_X7_noTrader : GoodIn wsX7_word wsX7_noTrader := goodIn_r _ [9, 10, 15, 16, 17, 18, 19, 20, 21, 22, 23, 24, 25, 26, 27, 28, 29, 30, 31, 32, 33, 34, 35, 36, 37, 38, 39, 40, 41, 42, 43, 44, 45, 46, 47, 48, 49, 50, 51, 52, 53, 54, 55, 56, 57, 58, 59, 60, 61, 62, 63, 64, 65] (by decide +kernel) (by decide +kernel)
set_option maxRecDepth 20000 in
theorem gX7_word_X7_noTrader : GoodIn wsX7_word (wsV RX7 237 RX7 yX7_noTrader wsX7_noTrader) := goodIn_app (goodIn_of _ (by decide +kernel)) ggX7_word_X7_noTrader
set_option maxRecDepth 20000 in
theorem ggX7_word_X7_throwsIf : GoodIn wsX7_word wsX7_throwsIf := goodIn_r _ [14, 1, 15, 16, 17, 18, 19, 20, 21, 22, 23, 24, 25, 26, 27, 28, 29, 30, 31, 32, 33, 34, 35, 36, 37, 38, 39, 40, 41, 42, 43, 44, 45, 46, 47, 48, 49, 50, 51, 52, 53, 54, 55, 56, 57, 58, 59, 60, 61, 62, 63, 64, 65] (by decide +kernel) (by decide +kernel)
set_option maxRecDepth 20000 in
theorem gX7_word_X7_throwsIf : GoodIn wsX7_word (wsV RX7 227 RX7 yX7_throwsIf wsX7_throwsIf) := goodIn_app (goodIn_of _ (by decide +kernel)) ggX7_word_X7_throwsIf
theorem dX7_word_0 : decode cX7_word 0 = .ok (.aload_n 0, 1) := by decide +kernel
theorem dX7_word_1 : decode cX7_word 1 = .ok (.iconst 0, 1) := by decide +kernel
theorem dX7_word_2 : decode cX7_word 2 = .ok (.putfield 127, 3) := by decide +kernel
theorem dX7_word_5 : decode cX7_word 5 = .ok (.aload_n 0, 1) := by decide +kernel
theorem dX7_word_6 : decode cX7_word 6 = .ok (.aload_n 0, 1) := by decide +kernel
theorem dX7_word_7 : decode cX7_word 7 = .ok (.iload_n 1, 1) := by decide +kernel
theorem dX7_word_8 : decode cX7_word 8 = .ok (.invokevirtual 237, 3) := by decide +kernel
theorem dX7_word_11 : decode cX7_word 11 = .ok (.iconst 1, 1) := by decide +kernel
theorem dX7_word_12 : decode cX7_word 12 = .ok (.invokevirtual 227, 3) := by decide +kernel
theorem dX7_word_15 : decode cX7_word 15 = .ok (.ifCond .ne 24, 3) := by decide +kernel
theorem dX7_word_18 : decode cX7_word 18 = .ok (.aload_n 0, 1) := by decide +kernel
theorem dX7_word_19 : decode cX7_word 19 = .ok (.aload_n 0, 1) := by decide +kernel
theorem dX7_word_20 : decode cX7_word 20 = .ok (.getfield 214, 3) := by decide +kernel
theorem dX7_word_23 : decode cX7_word 23 = .ok (.iconst 1, 1) := by decide +kernel
theorem dX7_word_24 : decode cX7_word 24 = .ok (.if_icmp .eq 7, 3) := by decide +kernel
theorem dX7_word_27 : decode cX7_word 27 = .ok (.iconst 1, 1) := by decide +kernel
theorem dX7_word_28 : decode cX7_word 28 = .ok (.goto 4, 3) := by decide +kernel
theorem dX7_word_31 : decode cX7_word 31 = .ok (.iconst 0, 1) := by decide +kernel
theorem dX7_word_32 : decode cX7_word 32 = .ok (.iconst 2, 1) := by decide +kernel
theorem dX7_word_33 : decode cX7_word 33 = .ok (.invokevirtual 227, 3) := by decide +kernel
theorem dX7_word_36 : decode cX7_word 36 = .ok (.ifCond .eq 5, 3) := by decide +kernel
theorem dX7_word_39 : decode cX7_word 39 = .ok (.iconst 0, 1) := by decide +kernel
theorem dX7_word_40 : decode cX7_word 40 = .ok (.ireturn, 1) := by decide +kernel
theorem dX7_word_41 : decode cX7_word 41 = .ok (.aload_n 0, 1) := by decide +kernel
theorem dX7_word_42 : decode cX7_word 42 = .ok (.getfield 72, 3) := by decide +kernel
theorem dX7_word_45 : decode cX7_word 45 = .ok (.iload_n 1, 1) := by decide +kernel
theorem dX7_word_46 : decode cX7_word 46 = .ok (.baload, 1) := by decide +kernel
theorem dX7_word_47 : decode cX7_word 47 = .ok (.ifCond .ne 12, 3) := by decide +kernel
theorem dX7_word_50 : decode cX7_word 50 = .ok (.aload_n 0, 1) := by decide +kernel
theorem dX7_word_51 : decode cX7_word 51 = .ok (.getfield 69, 3) := by decide +kernel
theorem dX7_word_54 : decode cX7_word 54 = .ok (.iload_n 1, 1) := by decide +kernel
theorem dX7_word_55 : decode cX7_word 55 = .ok (.baload, 1) := by decide +kernel
theorem dX7_word_56 : decode cX7_word 56 = .ok (.ifCond .eq 5, 3) := by decide +kernel
theorem dX7_word_59 : decode cX7_word 59 = .ok (.iconst 0, 1) := by decide +kernel
theorem dX7_word_60 : decode cX7_word 60 = .ok (.ireturn, 1) := by decide +kernel
theorem dX7_word_61 : decode cX7_word 61 = .ok (.aload_n 0, 1) := by decide +kernel
theorem dX7_word_62 : decode cX7_word 62 = .ok (.getfield 72, 3) := by decide +kernel
theorem dX7_word_65 : decode cX7_word 65 = .ok (.iload_n 1, 1) := by decide +kernel
theorem dX7_word_66 : decode cX7_word 66 = .ok (.iconst 1, 1) := by decide +kernel
theorem dX7_word_67 : decode cX7_word 67 = .ok (.bastore, 1) := by decide +kernel
theorem dX7_word_68 : decode cX7_word 68 = .ok (.iconst 1, 1) := by decide +kernel
theorem dX7_word_69 : decode cX7_word 69 = .ok (.ireturn, 1) := by decide +kernel
set_option maxRecDepth 20000 in
theorem ggX7_bell_X7_throwsIf : GoodIn wsX7_bell wsX7_throwsIf := goodIn_r _ [14, 1, 103, 104, 105, 106, 107, 108, 109, 110, 111, 112, 113, 114, 115, 116, 117, 118, 119, 120, 121, 122, 123, 124, 125, 126, 127, 128, 129, 130, 131, 132, 133, 134, 135, 136, 137, 138, 139, 140, 141, 142, 143, 144, 145, 146, 147, 148, 149, 150, 151, 152, 153] (by decide +kernel) (by decide +kernel)
set_option maxRecDepth 20000 in
theorem gX7_bell_X7_throwsIf : GoodIn wsX7_bell (wsV RX7 227 RX7 yX7_throwsIf wsX7_throwsIf) := goodIn_app (goodIn_of _ (by decide +kernel)) ggX7_bell_X7_throwsIf
set_option maxRecDepth 20000 in
theorem ggX7_bell_X7_ranks : GoodIn wsX7_bell wsX7_ranks := goodIn_r _ [18, 3, 19, 4, 103, 104, 105, 106, 107, 108, 109, 110, 111, 112, 113, 114, 115, 116, 117, 118, 119, 120, 121, 122, 123, 124, 125, 126, 127, 128, 129, 130, 131, 132, 133, 134, 135, 136, 137, 138, 139, 140, 141, 142, 143, 144, 145, 146, 147, 148, 149, 150, 151, 152, 153] (by decide +kernel) (by decide +kernel)
set_option maxRecDepth 20000 in
theorem gX7_bell_X7_ranks : GoodIn wsX7_bell (wsV RX7 246 RX7 yX7_ranks wsX7_ranks) := goodIn_app (goodIn_of _ (by decide +kernel)) ggX7_bell_X7_ranks
set_option maxRecDepth 20000 in
theorem ggX7_bell_X7_against : GoodIn wsX7_bell wsX7_against := goodIn_r _ [23, 24, 25, 26, 27, 13, 28, 29, 30, 31, 32, 33, 34, 35, 36, 37, 38, 39, 40, 41, 42, 43, 44, 45, 46, 3, 47, 48, 49, 50, 51, 52, 53, 54, 55, 56, 57, 58, 59, 60, 61, 62, 63, 64, 65, 66, 67, 68, 69, 70, 71, 72, 73, 74, 75, 76, 77, 78, 79, 80, 81, 82, 83, 84, 85, 86, 87, 88, 89, 90, 91, 92, 93, 94, 95, 103, 104, 105, 106, 107, 108, 109, 110, 111, 112, 113, 114, 115, 116, 117, 118, 119, 120, 121, 122, 123, 124, 125, 126, 127, 128, 129, 130, 131, 132, 133, 134, 135, 136, 137, 138, 139, 140, 141, 142, 143, 144, 145, 146, 147, 148, 149, 150, 151, 152, 153] (by decide +kernel) (by decide +kernel)
set_option maxRecDepth 20000 in
theorem gX7_bell_X7_against : GoodIn wsX7_bell (wsV RX7 191 RX7 yX7_against wsX7_against) := goodIn_app (goodIn_of _ (by decide +kernel)) ggX7_bell_X7_against
set_option maxRecDepth 20000 in
theorem ggX7_bell_X7_comes : GoodIn wsX7_bell wsX7_comes := goodIn_r _ [99, 47, 100, 56, 57, 101, 102, 103, 104, 105, 106, 107, 108, 109, 110, 111, 112, 113, 114, 115, 116, 117, 118, 119, 120, 121, 122, 123, 124, 125, 126, 127, 128, 129, 130, 131, 132, 133, 134, 135, 136, 137, 138, 139, 140, 141, 142, 143, 144, 145, 146, 147, 148, 149, 150, 151, 152, 153] (by decide +kernel) (by decide +kernel)
set_option maxRecDepth 20000 in
theorem gX7_bell_X7_comes : GoodIn wsX7_bell (wsV RX7 248 RX7 yX7_comes wsX7_comes) := goodIn_app (goodIn_of _ (by decide +kernel)) ggX7_bell_X7_comes
theorem dX7_bell_0 : decode cX7_bell 0 = .ok (.aload_n 0, 1) := by decide +kernel
theorem dX7_bell_1 : decode cX7_bell 1 = .ok (.iconst 0, 1) := by decide +kernel
theorem dX7_bell_2 : decode cX7_bell 2 = .ok (.putfield 127, 3) := by decide +kernel
theorem dX7_bell_5 : decode cX7_bell 5 = .ok (.aload_n 0, 1) := by decide +kernel
theorem dX7_bell_6 : decode cX7_bell 6 = .ok (.aload_n 0, 1) := by decide +kernel
theorem dX7_bell_7 : decode cX7_bell 7 = .ok (.getfield 214, 3) := by decide +kernel
theorem dX7_bell_10 : decode cX7_bell 10 = .ok (.iconst 1, 1) := by decide +kernel
theorem dX7_bell_11 : decode cX7_bell 11 = .ok (.if_icmp .eq 15, 3) := by decide +kernel
theorem dX7_bell_14 : decode cX7_bell 14 = .ok (.aload_n 0, 1) := by decide +kernel
theorem dX7_bell_15 : decode cX7_bell 15 = .ok (.getfield 214, 3) := by decide +kernel
theorem dX7_bell_18 : decode cX7_bell 18 = .ok (.iconst 2, 1) := by decide +kernel
theorem dX7_bell_19 : decode cX7_bell 19 = .ok (.if_icmp .eq 7, 3) := by decide +kernel
theorem dX7_bell_22 : decode cX7_bell 22 = .ok (.iconst 1, 1) := by decide +kernel
theorem dX7_bell_23 : decode cX7_bell 23 = .ok (.goto 4, 3) := by decide +kernel
theorem dX7_bell_26 : decode cX7_bell 26 = .ok (.iconst 0, 1) := by decide +kernel
theorem dX7_bell_27 : decode cX7_bell 27 = .ok (.iconst 1, 1) := by decide +kernel
theorem dX7_bell_28 : decode cX7_bell 28 = .ok (.invokevirtual 227, 3) := by decide +kernel
theorem dX7_bell_31 : decode cX7_bell 31 = .ok (.ifCond .eq 5, 3) := by decide +kernel
theorem dX7_bell_34 : decode cX7_bell 34 = .ok (.iconst 0, 1) := by decide +kernel
theorem dX7_bell_35 : decode cX7_bell 35 = .ok (.ireturn, 1) := by decide +kernel
theorem dX7_bell_36 : decode cX7_bell 36 = .ok (.aload_n 0, 1) := by decide +kernel
theorem dX7_bell_37 : decode cX7_bell 37 = .ok (.dup, 1) := by decide +kernel
theorem dX7_bell_38 : decode cX7_bell 38 = .ok (.getfield 214, 3) := by decide +kernel
theorem dX7_bell_41 : decode cX7_bell 41 = .ok (.iconst 1, 1) := by decide +kernel
theorem dX7_bell_42 : decode cX7_bell 42 = .ok (.iadd, 1) := by decide +kernel
theorem dX7_bell_43 : decode cX7_bell 43 = .ok (.putfield 214, 3) := by decide +kernel
theorem dX7_bell_46 : decode cX7_bell 46 = .ok (.aload_n 0, 1) := by decide +kernel
theorem dX7_bell_47 : decode cX7_bell 47 = .ok (.getfield 214, 3) := by decide +kernel
theorem dX7_bell_50 : decode cX7_bell 50 = .ok (.iconst 3, 1) := by decide +kernel
theorem dX7_bell_51 : decode cX7_bell 51 = .ok (.if_icmp .ne 5, 3) := by decide +kernel
theorem dX7_bell_54 : decode cX7_bell 54 = .ok (.iconst 0, 1) := by decide +kernel
theorem dX7_bell_55 : decode cX7_bell 55 = .ok (.ireturn, 1) := by decide +kernel
theorem dX7_bell_56 : decode cX7_bell 56 = .ok (.aload_n 0, 1) := by decide +kernel
theorem dX7_bell_57 : decode cX7_bell 57 = .ok (.invokevirtual 246, 3) := by decide +kernel
theorem dX7_bell_60 : decode cX7_bell 60 = .ok (.iconst 0, 1) := by decide +kernel
theorem dX7_bell_61 : decode cX7_bell 61 = .ok (.istore_n 1, 1) := by decide +kernel
theorem dX7_bell_62 : decode cX7_bell 62 = .ok (.iconst 0, 1) := by decide +kernel
theorem dX7_bell_63 : decode cX7_bell 63 = .ok (.istore_n 2, 1) := by decide +kernel
theorem dX7_bell_64 : decode cX7_bell 64 = .ok (.iload_n 2, 1) := by decide +kernel
theorem dX7_bell_65 : decode cX7_bell 65 = .ok (.aload_n 0, 1) := by decide +kernel
theorem dX7_bell_66 : decode cX7_bell 66 = .ok (.getfield 131, 3) := by decide +kernel
theorem dX7_bell_69 : decode cX7_bell 69 = .ok (.if_icmp .ge 87, 3) := by decide +kernel
theorem dX7_bell_72 : decode cX7_bell 72 = .ok (.aload_n 0, 1) := by decide +kernel
theorem dX7_bell_73 : decode cX7_bell 73 = .ok (.getfield 121, 3) := by decide +kernel
theorem dX7_bell_76 : decode cX7_bell 76 = .ok (.iload_n 2, 1) := by decide +kernel
theorem dX7_bell_77 : decode cX7_bell 77 = .ok (.iaload, 1) := by decide +kernel
theorem dX7_bell_78 : decode cX7_bell 78 = .ok (.istore_n 3, 1) := by decide +kernel
theorem dX7_bell_79 : decode cX7_bell 79 = .ok (.aload_n 0, 1) := by decide +kernel
theorem dX7_bell_80 : decode cX7_bell 80 = .ok (.getfield 42, 3) := by decide +kernel
theorem dX7_bell_83 : decode cX7_bell 83 = .ok (.iload_n 3, 1) := by decide +kernel
theorem dX7_bell_84 : decode cX7_bell 84 = .ok (.baload, 1) := by decide +kernel
theorem dX7_bell_85 : decode cX7_bell 85 = .ok (.ifCond .eq 65, 3) := by decide +kernel
theorem dX7_bell_88 : decode cX7_bell 88 = .ok (.aload_n 0, 1) := by decide +kernel
theorem dX7_bell_89 : decode cX7_bell 89 = .ok (.getfield 69, 3) := by decide +kernel
theorem dX7_bell_92 : decode cX7_bell 92 = .ok (.iload_n 3, 1) := by decide +kernel
theorem dX7_bell_93 : decode cX7_bell 93 = .ok (.baload, 1) := by decide +kernel
theorem dX7_bell_94 : decode cX7_bell 94 = .ok (.ifCond .ne 6, 3) := by decide +kernel
theorem dX7_bell_97 : decode cX7_bell 97 = .ok (.goto 53, 3) := by decide +kernel
theorem dX7_bell_100 : decode cX7_bell 100 = .ok (.aload_n 0, 1) := by decide +kernel
theorem dX7_bell_101 : decode cX7_bell 101 = .ok (.iload_n 3, 1) := by decide +kernel
theorem dX7_bell_102 : decode cX7_bell 102 = .ok (.aload_n 0, 1) := by decide +kernel
theorem dX7_bell_103 : decode cX7_bell 103 = .ok (.getfield 45, 3) := by decide +kernel
theorem dX7_bell_106 : decode cX7_bell 106 = .ok (.iload_n 3, 1) := by decide +kernel
theorem dX7_bell_107 : decode cX7_bell 107 = .ok (.iaload, 1) := by decide +kernel
theorem dX7_bell_108 : decode cX7_bell 108 = .ok (.aload_n 0, 1) := by decide +kernel
theorem dX7_bell_109 : decode cX7_bell 109 = .ok (.getfield 48, 3) := by decide +kernel
theorem dX7_bell_112 : decode cX7_bell 112 = .ok (.iload_n 3, 1) := by decide +kernel
theorem dX7_bell_113 : decode cX7_bell 113 = .ok (.iaload, 1) := by decide +kernel
theorem dX7_bell_114 : decode cX7_bell 114 = .ok (.invokevirtual 191, 3) := by decide +kernel
theorem dX7_bell_117 : decode cX7_bell 117 = .ok (.ifCond .ne 26, 3) := by decide +kernel
theorem dX7_bell_120 : decode cX7_bell 120 = .ok (.aload_n 0, 1) := by decide +kernel
theorem dX7_bell_121 : decode cX7_bell 121 = .ok (.iload_n 3, 1) := by decide +kernel
theorem dX7_bell_122 : decode cX7_bell 122 = .ok (.aload_n 0, 1) := by decide +kernel
theorem dX7_bell_123 : decode cX7_bell 123 = .ok (.getfield 45, 3) := by decide +kernel
theorem dX7_bell_126 : decode cX7_bell 126 = .ok (.iload_n 3, 1) := by decide +kernel
theorem dX7_bell_127 : decode cX7_bell 127 = .ok (.iaload, 1) := by decide +kernel
theorem dX7_bell_128 : decode cX7_bell 128 = .ok (.aload_n 0, 1) := by decide +kernel
theorem dX7_bell_129 : decode cX7_bell 129 = .ok (.getfield 48, 3) := by decide +kernel
theorem dX7_bell_132 : decode cX7_bell 132 = .ok (.iload_n 3, 1) := by decide +kernel
theorem dX7_bell_133 : decode cX7_bell 133 = .ok (.iaload, 1) := by decide +kernel
theorem dX7_bell_134 : decode cX7_bell 134 = .ok (.invokevirtual 248, 3) := by decide +kernel
theorem dX7_bell_137 : decode cX7_bell 137 = .ok (.iinc 1 1, 3) := by decide +kernel
theorem dX7_bell_140 : decode cX7_bell 140 = .ok (.goto 10, 3) := by decide +kernel
theorem dX7_bell_143 : decode cX7_bell 143 = .ok (.aload_n 0, 1) := by decide +kernel
theorem dX7_bell_144 : decode cX7_bell 144 = .ok (.getfield 75, 3) := by decide +kernel
theorem dX7_bell_147 : decode cX7_bell 147 = .ok (.iload_n 3, 1) := by decide +kernel
theorem dX7_bell_148 : decode cX7_bell 148 = .ok (.iconst 1, 1) := by decide +kernel
theorem dX7_bell_149 : decode cX7_bell 149 = .ok (.bastore, 1) := by decide +kernel
theorem dX7_bell_150 : decode cX7_bell 150 = .ok (.iinc 2 1, 3) := by decide +kernel
theorem dX7_bell_153 : decode cX7_bell 153 = .ok (.goto (-89), 3) := by decide +kernel
theorem dX7_bell_156 : decode cX7_bell 156 = .ok (.iload_n 1, 1) := by decide +kernel
theorem dX7_bell_157 : decode cX7_bell 157 = .ok (.ireturn, 1) := by decide +kernel
set_option maxRecDepth 20000 in
theorem ggX7_why_X7_noTrader : GoodIn wsX7_why wsX7_noTrader := goodIn_r _ [6, 7, 88, 89, 90, 91, 92, 93, 94, 95, 96, 97, 98, 99, 100, 101, 102, 103, 104, 105, 106, 107, 108, 109, 110, 111, 112, 113, 114, 115, 116, 117, 118, 119, 120, 121, 122, 123, 124, 125, 126, 127, 128, 129, 130, 131, 132, 133, 134, 135, 136, 137, 138] (by decide +kernel) (by decide +kernel)
set_option maxRecDepth 20000 in
theorem gX7_why_X7_noTrader : GoodIn wsX7_why (wsV RX7 237 RX7 yX7_noTrader wsX7_noTrader) := goodIn_app (goodIn_of _ (by decide +kernel)) ggX7_why_X7_noTrader
set_option maxRecDepth 20000 in
theorem ggX7_why_X7_throwsIf : GoodIn wsX7_why wsX7_throwsIf := goodIn_r _ [11, 1, 88, 89, 90, 91, 92, 93, 94, 95, 96, 97, 98, 99, 100, 101, 102, 103, 104, 105, 106, 107, 108, 109, 110, 111, 112, 113, 114, 115, 116, 117, 118, 119, 120, 121, 122, 123, 124, 125, 126, 127, 128, 129, 130, 131, 132, 133, 134, 135, 136, 137, 138] (by decide +kernel) (by decide +kernel)
set_option maxRecDepth 20000 in
theorem gX7_why_X7_throwsIf : GoodIn wsX7_why (wsV RX7 227 RX7 yX7_throwsIf wsX7_throwsIf) := goodIn_app (goodIn_of _ (by decide +kernel)) ggX7_why_X7_throwsIf
set_option maxRecDepth 20000 in
theorem ggX7_why_X7_against : GoodIn wsX7_why wsX7_against := goodIn_r _ [15, 16, 17, 18, 19, 5, 20, 21, 22, 23, 24, 25, 26, 27, 28, 29, 30, 31, 32, 33, 34, 35, 36, 37, 38, 7, 39, 40, 41, 42, 43, 44, 45, 46, 47, 48, 49, 50, 51, 52, 53, 54, 55, 56, 57, 58, 59, 60, 61, 62, 63, 64, 65, 66, 67, 68, 69, 70, 71, 72, 73, 74, 75, 76, 77, 78, 79, 80, 81, 82, 83, 84, 85, 86, 87, 88, 89, 90, 91, 92, 93, 94, 95, 96, 97, 98, 99, 100, 101, 102, 103, 104, 105, 106, 107, 108, 109, 110, 111, 112, 113, 114, 115, 116, 117, 118, 119, 120, 121, 122, 123, 124, 125, 126, 127, 128, 129, 130, 131, 132, 133, 134, 135, 136, 137, 138] (by decide +kernel) (by decide +kernel)
set_option maxRecDepth 20000 in
theorem gX7_why_X7_against : GoodIn wsX7_why (wsV RX7 191 RX7 yX7_against wsX7_against) := goodIn_app (goodIn_of _ (by decide +kernel)) ggX7_why_X7_against
theorem dX7_why_0 : decode cX7_why 0 = .ok (.aload_n 0, 1) := by decide +kernel
theorem dX7_why_1 : decode cX7_why 1 = .ok (.iconst 0, 1) := by decide +kernel
theorem dX7_why_2 : decode cX7_why 2 = .ok (.putfield 127, 3) := by decide +kernel
theorem dX7_why_5 : decode cX7_why 5 = .ok (.aload_n 0, 1) := by decide +kernel
theorem dX7_why_6 : decode cX7_why 6 = .ok (.aload_n 0, 1) := by decide +kernel
theorem dX7_why_7 : decode cX7_why 7 = .ok (.iload_n 1, 1) := by decide +kernel
theorem dX7_why_8 : decode cX7_why 8 = .ok (.invokevirtual 237, 3) := by decide +kernel
theorem dX7_why_11 : decode cX7_why 11 = .ok (.iconst 1, 1) := by decide +kernel
theorem dX7_why_12 : decode cX7_why 12 = .ok (.invokevirtual 227, 3) := by decide +kernel
theorem dX7_why_15 : decode cX7_why 15 = .ok (.ifCond .eq 5, 3) := by decide +kernel
theorem dX7_why_18 : decode cX7_why 18 = .ok (.iconst 0, 1) := by decide +kernel
theorem dX7_why_19 : decode cX7_why 19 = .ok (.ireturn, 1) := by decide +kernel
theorem dX7_why_20 : decode cX7_why 20 = .ok (.aload_n 0, 1) := by decide +kernel
theorem dX7_why_21 : decode cX7_why 21 = .ok (.iload_n 1, 1) := by decide +kernel
theorem dX7_why_22 : decode cX7_why 22 = .ok (.iload_n 2, 1) := by decide +kernel
theorem dX7_why_23 : decode cX7_why 23 = .ok (.iload_n 3, 1) := by decide +kernel
theorem dX7_why_24 : decode cX7_why 24 = .ok (.invokevirtual 191, 3) := by decide +kernel
theorem dX7_why_27 : decode cX7_why 27 = .ok (.ireturn, 1) := by decide +kernel
set_option maxRecDepth 20000 in
theorem ggX7_good_X7_noTrader : GoodIn wsX7_good wsX7_noTrader := goodIn_r _ [6, 7, 106, 107, 108, 109, 110, 111, 112, 113, 114, 115, 116, 117, 118, 119, 120, 121, 122, 123, 124, 125, 126, 127, 128, 129, 130, 131, 132, 133, 134, 135, 136, 137, 138, 139, 140, 141, 142, 143, 144, 145, 146, 147, 148, 149, 150, 151, 152, 153, 154, 155, 156] (by decide +kernel) (by decide +kernel)
set_option maxRecDepth 20000 in
theorem gX7_good_X7_noTrader : GoodIn wsX7_good (wsV RX7 237 RX7 yX7_noTrader wsX7_noTrader) := goodIn_app (goodIn_of _ (by decide +kernel)) ggX7_good_X7_noTrader
set_option maxRecDepth 20000 in
theorem ggX7_good_X7_throwsIf : GoodIn wsX7_good wsX7_throwsIf := goodIn_r _ [11, 1, 106, 107, 108, 109, 110, 111, 112, 113, 114, 115, 116, 117, 118, 119, 120, 121, 122, 123, 124, 125, 126, 127, 128, 129, 130, 131, 132, 133, 134, 135, 136, 137, 138, 139, 140, 141, 142, 143, 144, 145, 146, 147, 148, 149, 150, 151, 152, 153, 154, 155, 156] (by decide +kernel) (by decide +kernel)
set_option maxRecDepth 20000 in
theorem gX7_good_X7_throwsIf : GoodIn wsX7_good (wsV RX7 227 RX7 yX7_throwsIf wsX7_throwsIf) := goodIn_app (goodIn_of _ (by decide +kernel)) ggX7_good_X7_throwsIf
set_option maxRecDepth 20000 in
theorem ggX7_good_X7_goodSpot : GoodIn wsX7_good wsX7_goodSpot := goodIn_r _ [15, 16, 17, 18, 19, 20, 21, 22, 5, 23, 24, 25, 26, 27, 28, 29, 30, 31, 32, 33, 34, 35, 36, 37, 38, 39, 40, 41, 42, 43, 44, 45, 46, 7, 47, 48, 49, 50, 51, 52, 53, 54, 55, 56, 57, 58, 59, 60, 61, 62, 63, 64, 65, 66, 67, 68, 69, 70, 71, 72, 73, 74, 75, 76, 77, 78, 79, 80, 81, 82, 83, 84, 85, 86, 87, 88, 89, 90, 91, 92, 93, 94, 95, 96, 97, 98, 99, 100, 101, 102, 103, 104, 105, 106, 107, 108, 109, 110, 111, 112, 113, 114, 115, 116, 117, 118, 119, 120, 121, 122, 123, 124, 125, 126, 127, 128, 129, 130, 131, 132, 133, 134, 135, 136, 137, 138, 139, 140, 141, 142, 143, 144, 145, 146, 147, 148, 149, 150, 151, 152, 153, 154, 155, 156] (by decide +kernel) (by decide +kernel)
set_option maxRecDepth 20000 in
theorem gX7_good_X7_goodSpot : GoodIn wsX7_good (wsV RX7 252 RX7 yX7_goodSpot wsX7_goodSpot) := goodIn_app (goodIn_of _ (by decide +kernel)) ggX7_good_X7_goodSpot
theorem dX7_good_0 : decode cX7_good 0 = .ok (.aload_n 0, 1) := by decide +kernel
theorem dX7_good_1 : decode cX7_good 1 = .ok (.iconst 0, 1) := by decide +kernel
theorem dX7_good_2 : decode cX7_good 2 = .ok (.putfield 127, 3) := by decide +kernel
theorem dX7_good_5 : decode cX7_good 5 = .ok (.aload_n 0, 1) := by decide +kernel
theorem dX7_good_6 : decode cX7_good 6 = .ok (.aload_n 0, 1) := by decide +kernel
theorem dX7_good_7 : decode cX7_good 7 = .ok (.iload_n 1, 1) := by decide +kernel
theorem dX7_good_8 : decode cX7_good 8 = .ok (.invokevirtual 237, 3) := by decide +kernel
theorem dX7_good_11 : decode cX7_good 11 = .ok (.iconst 1, 1) := by decide +kernel
theorem dX7_good_12 : decode cX7_good 12 = .ok (.invokevirtual 227, 3) := by decide +kernel
theorem dX7_good_15 : decode cX7_good 15 = .ok (.ifCond .eq 5, 3) := by decide +kernel
theorem dX7_good_18 : decode cX7_good 18 = .ok (.iconst 0, 1) := by decide +kernel
theorem dX7_good_19 : decode cX7_good 19 = .ok (.ireturn, 1) := by decide +kernel
theorem dX7_good_20 : decode cX7_good 20 = .ok (.aload_n 0, 1) := by decide +kernel
theorem dX7_good_21 : decode cX7_good 21 = .ok (.iload_n 1, 1) := by decide +kernel
theorem dX7_good_22 : decode cX7_good 22 = .ok (.invokevirtual 252, 3) := by decide +kernel
theorem dX7_good_25 : decode cX7_good 25 = .ok (.ireturn, 1) := by decide +kernel
set_option maxRecDepth 20000 in
theorem ggX7_next_X7_throwsIf : GoodIn wsX7_next wsX7_throwsIf := goodIn_r _ [10, 1, 136, 137, 138, 139, 140, 141, 142, 143, 144, 145, 146, 147, 148, 149, 150, 151, 152, 153, 154, 155, 156, 157, 158, 159, 160, 161, 162, 163, 164, 165, 166, 167, 168, 169, 170, 171, 172, 173, 174, 175, 176, 177, 178, 179, 180, 181, 182, 183, 184, 185, 186] (by decide +kernel) (by decide +kernel)
set_option maxRecDepth 20000 in
theorem gX7_next_X7_throwsIf : GoodIn wsX7_next (wsV RX7 227 RX7 yX7_throwsIf wsX7_throwsIf) := goodIn_app (goodIn_of _ (by decide +kernel)) ggX7_next_X7_throwsIf
set_option maxRecDepth 20000 in
theorem ggX7_next_X7_lines : GoodIn wsX7_next wsX7_lines := goodIn_r _ [14, 3, 15, 2, 16, 17, 18, 4, 19, 20, 21, 9, 22, 23, 24, 25, 26, 27, 28, 29, 30, 31, 32, 33, 34, 35, 136, 137, 138, 139, 140, 141, 142, 143, 144, 145, 146, 147, 148, 149, 150, 151, 152, 153, 154, 155, 156, 157, 158, 159, 160, 161, 162, 163, 164, 165, 166, 167, 168, 169, 170, 171, 172, 173, 174, 175, 176, 177, 178, 179, 180, 181, 182, 183, 184, 185, 186] (by decide +kernel) (by decide +kernel)
set_option maxRecDepth 20000 in
theorem gX7_next_X7_lines : GoodIn wsX7_next (wsV RX7 255 RX7 yX7_lines wsX7_lines) := goodIn_app (goodIn_of _ (by decide +kernel)) ggX7_next_X7_lines
set_option maxRecDepth 20000 in
theorem ggX7_next_X7_goodSpot : GoodIn wsX7_next wsX7_goodSpot := goodIn_r _ [39, 40, 41, 42, 43, 44, 45, 46, 9, 47, 48, 49, 50, 51, 52, 53, 54, 55, 56, 57, 58, 59, 60, 61, 62, 63, 64, 65, 66, 67, 68, 69, 70, 15, 17, 71, 72, 73, 74, 75, 76, 77, 78, 79, 80, 81, 82, 83, 84, 85, 86, 87, 88, 89, 90, 91, 92, 93, 94, 95, 96, 97, 98, 99, 100, 101, 102, 103, 104, 105, 106, 107, 108, 109, 110, 111, 112, 113, 114, 115, 116, 117, 118, 119, 120, 121, 122, 123, 124, 125, 126, 127, 128, 136, 137, 138, 139, 140, 141, 142, 143, 144, 145, 146, 147, 148, 149, 150, 151, 152, 153, 154, 155, 156, 157, 158, 159, 160, 161, 162, 163, 164, 165, 166, 167, 168, 169, 170, 171, 172, 173, 174, 175, 176, 177, 178, 179, 180, 181, 182, 183, 184, 185, 186] (by decide +kernel) (by decide +kernel)
set_option maxRecDepth 20000 in
theorem gX7_next_X7_goodSpot : GoodIn wsX7_next (wsV RX7 252 RX7 yX7_goodSpot wsX7_goodSpot) := goodIn_app (goodIn_of _ (by decide +kernel)) ggX7_next_X7_goodSpot
set_option maxRecDepth 20000 in
theorem ggX7_next_X7_comes : GoodIn wsX7_next wsX7_comes := goodIn_r _ [132, 17, 133, 79, 80, 134, 135, 136, 137, 138, 139, 140, 141, 142, 143, 144, 145, 146, 147, 148, 149, 150, 151, 152, 153, 154, 155, 156, 157, 158, 159, 160, 161, 162, 163, 164, 165, 166, 167, 168, 169, 170, 171, 172, 173, 174, 175, 176, 177, 178, 179, 180, 181, 182, 183, 184, 185, 186] (by decide +kernel) (by decide +kernel)
set_option maxRecDepth 20000 in
theorem gX7_next_X7_comes : GoodIn wsX7_next (wsV RX7 248 RX7 yX7_comes wsX7_comes) := goodIn_app (goodIn_of _ (by decide +kernel)) ggX7_next_X7_comes
theorem dX7_next_0 : decode cX7_next 0 = .ok (.aload_n 0, 1) := by decide +kernel
theorem dX7_next_1 : decode cX7_next 1 = .ok (.iconst 0, 1) := by decide +kernel
theorem dX7_next_2 : decode cX7_next 2 = .ok (.putfield 127, 3) := by decide +kernel
theorem dX7_next_5 : decode cX7_next 5 = .ok (.aload_n 0, 1) := by decide +kernel
theorem dX7_next_6 : decode cX7_next 6 = .ok (.aload_n 0, 1) := by decide +kernel
theorem dX7_next_7 : decode cX7_next 7 = .ok (.getfield 214, 3) := by decide +kernel
theorem dX7_next_10 : decode cX7_next 10 = .ok (.iconst 3, 1) := by decide +kernel
theorem dX7_next_11 : decode cX7_next 11 = .ok (.if_icmp .eq 7, 3) := by decide +kernel
theorem dX7_next_14 : decode cX7_next 14 = .ok (.iconst 1, 1) := by decide +kernel
theorem dX7_next_15 : decode cX7_next 15 = .ok (.goto 4, 3) := by decide +kernel
theorem dX7_next_18 : decode cX7_next 18 = .ok (.iconst 0, 1) := by decide +kernel
theorem dX7_next_19 : decode cX7_next 19 = .ok (.iconst 1, 1) := by decide +kernel
theorem dX7_next_20 : decode cX7_next 20 = .ok (.invokevirtual 227, 3) := by decide +kernel
theorem dX7_next_23 : decode cX7_next 23 = .ok (.ifCond .eq 5, 3) := by decide +kernel
theorem dX7_next_26 : decode cX7_next 26 = .ok (.iconst 0, 1) := by decide +kernel
theorem dX7_next_27 : decode cX7_next 27 = .ok (.ireturn, 1) := by decide +kernel
theorem dX7_next_28 : decode cX7_next 28 = .ok (.aload_n 0, 1) := by decide +kernel
theorem dX7_next_29 : decode cX7_next 29 = .ok (.invokevirtual 255, 3) := by decide +kernel
theorem dX7_next_32 : decode cX7_next 32 = .ok (.iconst 0, 1) := by decide +kernel
theorem dX7_next_33 : decode cX7_next 33 = .ok (.istore_n 1, 1) := by decide +kernel
theorem dX7_next_34 : decode cX7_next 34 = .ok (.iload_n 1, 1) := by decide +kernel
theorem dX7_next_35 : decode cX7_next 35 = .ok (.aload_n 0, 1) := by decide +kernel
theorem dX7_next_36 : decode cX7_next 36 = .ok (.getfield 211, 3) := by decide +kernel
theorem dX7_next_39 : decode cX7_next 39 = .ok (.if_icmp .ge 50, 3) := by decide +kernel
theorem dX7_next_42 : decode cX7_next 42 = .ok (.aload_n 0, 1) := by decide +kernel
theorem dX7_next_43 : decode cX7_next 43 = .ok (.getfield 118, 3) := by decide +kernel
theorem dX7_next_46 : decode cX7_next 46 = .ok (.iload_n 1, 1) := by decide +kernel
theorem dX7_next_47 : decode cX7_next 47 = .ok (.iaload, 1) := by decide +kernel
theorem dX7_next_48 : decode cX7_next 48 = .ok (.istore_n 2, 1) := by decide +kernel
theorem dX7_next_49 : decode cX7_next 49 = .ok (.aload_n 0, 1) := by decide +kernel
theorem dX7_next_50 : decode cX7_next 50 = .ok (.iload_n 2, 1) := by decide +kernel
theorem dX7_next_51 : decode cX7_next 51 = .ok (.invokevirtual 252, 3) := by decide +kernel
theorem dX7_next_54 : decode cX7_next 54 = .ok (.istore_n 3, 1) := by decide +kernel
theorem dX7_next_55 : decode cX7_next 55 = .ok (.iload_n 3, 1) := by decide +kernel
theorem dX7_next_56 : decode cX7_next 56 = .ok (.ifCond .lt 20, 3) := by decide +kernel
theorem dX7_next_59 : decode cX7_next 59 = .ok (.aload_n 0, 1) := by decide +kernel
theorem dX7_next_60 : decode cX7_next 60 = .ok (.iload_n 2, 1) := by decide +kernel
theorem dX7_next_61 : decode cX7_next 61 = .ok (.iload_n 3, 1) := by decide +kernel
theorem dX7_next_62 : decode cX7_next 62 = .ok (.sipush 200, 3) := by decide +kernel
theorem dX7_next_65 : decode cX7_next 65 = .ok (.idiv, 1) := by decide +kernel
theorem dX7_next_66 : decode cX7_next 66 = .ok (.iload_n 3, 1) := by decide +kernel
theorem dX7_next_67 : decode cX7_next 67 = .ok (.sipush 200, 3) := by decide +kernel
theorem dX7_next_70 : decode cX7_next 70 = .ok (.irem, 1) := by decide +kernel
theorem dX7_next_71 : decode cX7_next 71 = .ok (.invokevirtual 248, 3) := by decide +kernel
theorem dX7_next_74 : decode cX7_next 74 = .ok (.iload_n 2, 1) := by decide +kernel
theorem dX7_next_75 : decode cX7_next 75 = .ok (.ireturn, 1) := by decide +kernel
theorem dX7_next_76 : decode cX7_next 76 = .ok (.aload_n 0, 1) := by decide +kernel
theorem dX7_next_77 : decode cX7_next 77 = .ok (.getfield 78, 3) := by decide +kernel
theorem dX7_next_80 : decode cX7_next 80 = .ok (.iload_n 2, 1) := by decide +kernel
theorem dX7_next_81 : decode cX7_next 81 = .ok (.iconst 1, 1) := by decide +kernel
theorem dX7_next_82 : decode cX7_next 82 = .ok (.bastore, 1) := by decide +kernel
theorem dX7_next_83 : decode cX7_next 83 = .ok (.iinc 1 1, 3) := by decide +kernel
theorem dX7_next_86 : decode cX7_next 86 = .ok (.goto (-52), 3) := by decide +kernel
theorem dX7_next_89 : decode cX7_next 89 = .ok (.iconst (-1), 1) := by decide +kernel
theorem dX7_next_90 : decode cX7_next 90 = .ok (.ireturn, 1) := by decide +kernel
set_option maxRecDepth 20000 in
theorem ggX7_full_X7_throwsIf : GoodIn wsX7_full wsX7_throwsIf := goodIn_r _ [9, 1, 128, 129, 130, 131, 132, 133, 134, 135, 136, 137, 138, 139, 140, 141, 142, 143, 144, 145, 146, 147, 148, 149, 150, 151, 152, 153, 154, 155, 156, 157, 158, 159, 160, 161, 162, 163, 164, 165, 166, 167, 168, 169, 170, 171, 172, 173, 174, 175, 176, 177, 178] (by decide +kernel) (by decide +kernel)
set_option maxRecDepth 20000 in
theorem gX7_full_X7_throwsIf : GoodIn wsX7_full (wsV RX7 227 RX7 yX7_throwsIf wsX7_throwsIf) := goodIn_app (goodIn_of _ (by decide +kernel)) ggX7_full_X7_throwsIf
set_option maxRecDepth 20000 in
theorem ggX7_full_X7_lines : GoodIn wsX7_full wsX7_lines := goodIn_r _ [13, 3, 14, 2, 15, 16, 17, 4, 18, 19, 20, 8, 21, 22, 23, 24, 25, 26, 27, 28, 29, 30, 31, 32, 33, 34, 128, 129, 130, 131, 132, 133, 134, 135, 136, 137, 138, 139, 140, 141, 142, 143, 144, 145, 146, 147, 148, 149, 150, 151, 152, 153, 154, 155, 156, 157, 158, 159, 160, 161, 162, 163, 164, 165, 166, 167, 168, 169, 170, 171, 172, 173, 174, 175, 176, 177, 178] (by decide +kernel) (by decide +kernel)
set_option maxRecDepth 20000 in
theorem gX7_full_X7_lines : GoodIn wsX7_full (wsV RX7 255 RX7 yX7_lines wsX7_lines) := goodIn_app (goodIn_of _ (by decide +kernel)) ggX7_full_X7_lines
set_option maxRecDepth 20000 in
theorem ggX7_full_X7_goodSpot : GoodIn wsX7_full wsX7_goodSpot := goodIn_r _ [38, 39, 40, 41, 42, 43, 44, 45, 8, 46, 47, 48, 49, 50, 51, 52, 53, 54, 55, 56, 57, 58, 59, 60, 61, 62, 63, 64, 65, 66, 67, 68, 69, 14, 16, 70, 71, 72, 73, 74, 75, 76, 77, 78, 79, 80, 81, 82, 83, 84, 85, 86, 87, 88, 89, 90, 91, 92, 93, 94, 95, 96, 97, 98, 99, 100, 101, 102, 103, 104, 105, 106, 107, 108, 109, 110, 111, 112, 113, 114, 115, 116, 117, 118, 119, 120, 121, 122, 123, 124, 125, 126, 127, 128, 129, 130, 131, 132, 133, 134, 135, 136, 137, 138, 139, 140, 141, 142, 143, 144, 145, 146, 147, 148, 149, 150, 151, 152, 153, 154, 155, 156, 157, 158, 159, 160, 161, 162, 163, 164, 165, 166, 167, 168, 169, 170, 171, 172, 173, 174, 175, 176, 177, 178] (by decide +kernel) (by decide +kernel)
set_option maxRecDepth 20000 in
theorem gX7_full_X7_goodSpot : GoodIn wsX7_full (wsV RX7 252 RX7 yX7_goodSpot wsX7_goodSpot) := goodIn_app (goodIn_of _ (by decide +kernel)) ggX7_full_X7_goodSpot
theorem dX7_full_0 : decode cX7_full 0 = .ok (.aload_n 0, 1) := by decide +kernel
theorem dX7_full_1 : decode cX7_full 1 = .ok (.iconst 0, 1) := by decide +kernel
theorem dX7_full_2 : decode cX7_full 2 = .ok (.putfield 127, 3) := by decide +kernel
theorem dX7_full_5 : decode cX7_full 5 = .ok (.aload_n 0, 1) := by decide +kernel
theorem dX7_full_6 : decode cX7_full 6 = .ok (.aload_n 0, 1) := by decide +kernel
theorem dX7_full_7 : decode cX7_full 7 = .ok (.getfield 214, 3) := by decide +kernel
theorem dX7_full_10 : decode cX7_full 10 = .ok (.iconst 3, 1) := by decide +kernel
theorem dX7_full_11 : decode cX7_full 11 = .ok (.if_icmp .eq 7, 3) := by decide +kernel
theorem dX7_full_14 : decode cX7_full 14 = .ok (.iconst 1, 1) := by decide +kernel
theorem dX7_full_15 : decode cX7_full 15 = .ok (.goto 4, 3) := by decide +kernel
theorem dX7_full_18 : decode cX7_full 18 = .ok (.iconst 0, 1) := by decide +kernel
theorem dX7_full_19 : decode cX7_full 19 = .ok (.iconst 1, 1) := by decide +kernel
theorem dX7_full_20 : decode cX7_full 20 = .ok (.invokevirtual 227, 3) := by decide +kernel
theorem dX7_full_23 : decode cX7_full 23 = .ok (.ifCond .eq 5, 3) := by decide +kernel
theorem dX7_full_26 : decode cX7_full 26 = .ok (.iconst 0, 1) := by decide +kernel
theorem dX7_full_27 : decode cX7_full 27 = .ok (.ireturn, 1) := by decide +kernel
theorem dX7_full_28 : decode cX7_full 28 = .ok (.aload_n 0, 1) := by decide +kernel
theorem dX7_full_29 : decode cX7_full 29 = .ok (.invokevirtual 255, 3) := by decide +kernel
theorem dX7_full_32 : decode cX7_full 32 = .ok (.iconst 1, 1) := by decide +kernel
theorem dX7_full_33 : decode cX7_full 33 = .ok (.istore_n 1, 1) := by decide +kernel
theorem dX7_full_34 : decode cX7_full 34 = .ok (.iconst 0, 1) := by decide +kernel
theorem dX7_full_35 : decode cX7_full 35 = .ok (.istore_n 2, 1) := by decide +kernel
theorem dX7_full_36 : decode cX7_full 36 = .ok (.iload_n 2, 1) := by decide +kernel
theorem dX7_full_37 : decode cX7_full 37 = .ok (.aload_n 0, 1) := by decide +kernel
theorem dX7_full_38 : decode cX7_full 38 = .ok (.getfield 211, 3) := by decide +kernel
theorem dX7_full_41 : decode cX7_full 41 = .ok (.if_icmp .ge 32, 3) := by decide +kernel
theorem dX7_full_44 : decode cX7_full 44 = .ok (.iload_n 1, 1) := by decide +kernel
theorem dX7_full_45 : decode cX7_full 45 = .ok (.ifCond .eq 28, 3) := by decide +kernel
theorem dX7_full_48 : decode cX7_full 48 = .ok (.aload_n 0, 1) := by decide +kernel
theorem dX7_full_49 : decode cX7_full 49 = .ok (.aload_n 0, 1) := by decide +kernel
theorem dX7_full_50 : decode cX7_full 50 = .ok (.getfield 118, 3) := by decide +kernel
theorem dX7_full_53 : decode cX7_full 53 = .ok (.iload_n 2, 1) := by decide +kernel
theorem dX7_full_54 : decode cX7_full 54 = .ok (.iaload, 1) := by decide +kernel
theorem dX7_full_55 : decode cX7_full 55 = .ok (.invokevirtual 252, 3) := by decide +kernel
theorem dX7_full_58 : decode cX7_full 58 = .ok (.ifCond .ge 7, 3) := by decide +kernel
theorem dX7_full_61 : decode cX7_full 61 = .ok (.iconst 1, 1) := by decide +kernel
theorem dX7_full_62 : decode cX7_full 62 = .ok (.goto 4, 3) := by decide +kernel
theorem dX7_full_65 : decode cX7_full 65 = .ok (.iconst 0, 1) := by decide +kernel
theorem dX7_full_66 : decode cX7_full 66 = .ok (.istore_n 1, 1) := by decide +kernel
theorem dX7_full_67 : decode cX7_full 67 = .ok (.iinc 2 1, 3) := by decide +kernel
theorem dX7_full_70 : decode cX7_full 70 = .ok (.goto (-34), 3) := by decide +kernel
theorem dX7_full_73 : decode cX7_full 73 = .ok (.iload_n 1, 1) := by decide +kernel
theorem dX7_full_74 : decode cX7_full 74 = .ok (.ireturn, 1) := by decide +kernel
set_option maxRecDepth 20000 in
theorem ggX7_waiting_X7_lines : GoodIn wsX7_waiting wsX7_lines := goodIn_r _ [8, 2, 9, 10, 11, 12, 13, 3, 14, 15, 16, 7, 17, 18, 19, 20, 21, 22, 23, 24, 25, 26, 27, 28, 29, 30, 31, 32, 33, 34, 35, 36, 37, 38, 39, 40, 41, 42, 43, 44, 45, 46, 47, 48, 49, 50, 51, 52, 53, 54, 55, 56, 57, 58, 59, 60, 61, 62, 63, 64, 65, 66, 67, 68, 69, 70, 71, 72, 73, 74, 75, 76, 77, 78, 79, 80, 81] (by decide +kernel) (by decide +kernel)
set_option maxRecDepth 20000 in
theorem gX7_waiting_X7_lines : GoodIn wsX7_waiting (wsV RX7 255 RX7 yX7_lines wsX7_lines) := goodIn_app (goodIn_of _ (by decide +kernel)) ggX7_waiting_X7_lines
theorem dX7_waiting_0 : decode cX7_waiting 0 = .ok (.aload_n 0, 1) := by decide +kernel
theorem dX7_waiting_1 : decode cX7_waiting 1 = .ok (.iconst 0, 1) := by decide +kernel
theorem dX7_waiting_2 : decode cX7_waiting 2 = .ok (.putfield 127, 3) := by decide +kernel
theorem dX7_waiting_5 : decode cX7_waiting 5 = .ok (.aload_n 0, 1) := by decide +kernel
theorem dX7_waiting_6 : decode cX7_waiting 6 = .ok (.invokevirtual 255, 3) := by decide +kernel
theorem dX7_waiting_9 : decode cX7_waiting 9 = .ok (.iload_n 1, 1) := by decide +kernel
theorem dX7_waiting_10 : decode cX7_waiting 10 = .ok (.ifCond .lt 11, 3) := by decide +kernel
theorem dX7_waiting_13 : decode cX7_waiting 13 = .ok (.iload_n 1, 1) := by decide +kernel
theorem dX7_waiting_14 : decode cX7_waiting 14 = .ok (.aload_n 0, 1) := by decide +kernel
theorem dX7_waiting_15 : decode cX7_waiting 15 = .ok (.getfield 211, 3) := by decide +kernel
theorem dX7_waiting_18 : decode cX7_waiting 18 = .ok (.if_icmp .lt 7, 3) := by decide +kernel
theorem dX7_waiting_21 : decode cX7_waiting 21 = .ok (.iconst (-1), 1) := by decide +kernel
theorem dX7_waiting_22 : decode cX7_waiting 22 = .ok (.goto 9, 3) := by decide +kernel
theorem dX7_waiting_25 : decode cX7_waiting 25 = .ok (.aload_n 0, 1) := by decide +kernel
theorem dX7_waiting_26 : decode cX7_waiting 26 = .ok (.getfield 118, 3) := by decide +kernel
theorem dX7_waiting_29 : decode cX7_waiting 29 = .ok (.iload_n 1, 1) := by decide +kernel
theorem dX7_waiting_30 : decode cX7_waiting 30 = .ok (.iaload, 1) := by decide +kernel
theorem dX7_waiting_31 : decode cX7_waiting 31 = .ok (.ireturn, 1) := by decide +kernel
set_option maxRecDepth 20000 in
theorem ggX7_move_X7_noTrader : GoodIn wsX7_move wsX7_noTrader := goodIn_r _ [10, 11, 89, 90, 91, 92, 93, 94, 95, 96, 97, 98, 99, 100, 101, 102, 103, 104, 105, 106, 107, 108, 109, 110, 111, 112, 113, 114, 115, 116, 117, 118, 119, 120, 121, 122, 123, 124, 125, 126, 127, 128, 129, 130, 131, 132, 133, 134, 135, 136, 137, 138, 139] (by decide +kernel) (by decide +kernel)
set_option maxRecDepth 20000 in
theorem gX7_move_X7_noTrader : GoodIn wsX7_move (wsV RX7 237 RX7 yX7_noTrader wsX7_noTrader) := goodIn_app (goodIn_of _ (by decide +kernel)) ggX7_move_X7_noTrader
set_option maxRecDepth 20000 in
theorem ggX7_move_X7_throwsIf : GoodIn wsX7_move wsX7_throwsIf := goodIn_r _ [15, 1, 89, 90, 91, 92, 93, 94, 95, 96, 97, 98, 99, 100, 101, 102, 103, 104, 105, 106, 107, 108, 109, 110, 111, 112, 113, 114, 115, 116, 117, 118, 119, 120, 121, 122, 123, 124, 125, 126, 127, 128, 129, 130, 131, 132, 133, 134, 135, 136, 137, 138, 139] (by decide +kernel) (by decide +kernel)
set_option maxRecDepth 20000 in
theorem gX7_move_X7_throwsIf : GoodIn wsX7_move (wsV RX7 227 RX7 yX7_throwsIf wsX7_throwsIf) := goodIn_app (goodIn_of _ (by decide +kernel)) ggX7_move_X7_throwsIf
set_option maxRecDepth 20000 in
theorem ggX7_move_X7_against : GoodIn wsX7_move wsX7_against := goodIn_r _ [19, 20, 21, 22, 23, 9, 24, 25, 26, 27, 28, 29, 30, 31, 32, 33, 34, 35, 36, 37, 38, 39, 40, 41, 42, 11, 3, 43, 44, 45, 46, 47, 48, 49, 50, 4, 5, 51, 52, 53, 54, 55, 56, 57, 58, 59, 60, 61, 62, 63, 64, 65, 66, 67, 68, 69, 70, 71, 72, 73, 74, 75, 76, 77, 78, 79, 80, 81, 82, 83, 84, 85, 86, 87, 88, 89, 90, 91, 92, 93, 94, 95, 96, 97, 98, 99, 100, 101, 102, 103, 104, 105, 106, 107, 108, 109, 110, 111, 112, 113, 114, 115, 116, 117, 118, 119, 120, 121, 122, 123, 124, 125, 126, 127, 128, 129, 130, 131, 132, 133, 134, 135, 136, 137, 138, 139] (by decide +kernel) (by decide +kernel)
set_option maxRecDepth 20000 in
theorem gX7_move_X7_against : GoodIn wsX7_move (wsV RX7 191 RX7 yX7_against wsX7_against) := goodIn_app (goodIn_of _ (by decide +kernel)) ggX7_move_X7_against
theorem dX7_move_0 : decode cX7_move 0 = .ok (.aload_n 0, 1) := by decide +kernel
theorem dX7_move_1 : decode cX7_move 1 = .ok (.iconst 0, 1) := by decide +kernel
theorem dX7_move_2 : decode cX7_move 2 = .ok (.putfield 127, 3) := by decide +kernel
theorem dX7_move_5 : decode cX7_move 5 = .ok (.aload_n 0, 1) := by decide +kernel
theorem dX7_move_6 : decode cX7_move 6 = .ok (.aload_n 0, 1) := by decide +kernel
theorem dX7_move_7 : decode cX7_move 7 = .ok (.iload_n 1, 1) := by decide +kernel
theorem dX7_move_8 : decode cX7_move 8 = .ok (.invokevirtual 237, 3) := by decide +kernel
theorem dX7_move_11 : decode cX7_move 11 = .ok (.iconst 1, 1) := by decide +kernel
theorem dX7_move_12 : decode cX7_move 12 = .ok (.invokevirtual 227, 3) := by decide +kernel
theorem dX7_move_15 : decode cX7_move 15 = .ok (.ifCond .ne 24, 3) := by decide +kernel
theorem dX7_move_18 : decode cX7_move 18 = .ok (.aload_n 0, 1) := by decide +kernel
theorem dX7_move_19 : decode cX7_move 19 = .ok (.aload_n 0, 1) := by decide +kernel
theorem dX7_move_20 : decode cX7_move 20 = .ok (.getfield 214, 3) := by decide +kernel
theorem dX7_move_23 : decode cX7_move 23 = .ok (.iconst 2, 1) := by decide +kernel
theorem dX7_move_24 : decode cX7_move 24 = .ok (.if_icmp .ge 7, 3) := by decide +kernel
theorem dX7_move_27 : decode cX7_move 27 = .ok (.iconst 1, 1) := by decide +kernel
theorem dX7_move_28 : decode cX7_move 28 = .ok (.goto 4, 3) := by decide +kernel
theorem dX7_move_31 : decode cX7_move 31 = .ok (.iconst 0, 1) := by decide +kernel
theorem dX7_move_32 : decode cX7_move 32 = .ok (.iconst 2, 1) := by decide +kernel
theorem dX7_move_33 : decode cX7_move 33 = .ok (.invokevirtual 227, 3) := by decide +kernel
theorem dX7_move_36 : decode cX7_move 36 = .ok (.ifCond .eq 5, 3) := by decide +kernel
theorem dX7_move_39 : decode cX7_move 39 = .ok (.iconst 0, 1) := by decide +kernel
theorem dX7_move_40 : decode cX7_move 40 = .ok (.ireturn, 1) := by decide +kernel
theorem dX7_move_41 : decode cX7_move 41 = .ok (.aload_n 0, 1) := by decide +kernel
theorem dX7_move_42 : decode cX7_move 42 = .ok (.getfield 87, 3) := by decide +kernel
theorem dX7_move_45 : decode cX7_move 45 = .ok (.iload_n 1, 1) := by decide +kernel
theorem dX7_move_46 : decode cX7_move 46 = .ok (.baload, 1) := by decide +kernel
theorem dX7_move_47 : decode cX7_move 47 = .ok (.ifCond .eq 13, 3) := by decide +kernel
theorem dX7_move_50 : decode cX7_move 50 = .ok (.aload_n 0, 1) := by decide +kernel
theorem dX7_move_51 : decode cX7_move 51 = .ok (.iload_n 1, 1) := by decide +kernel
theorem dX7_move_52 : decode cX7_move 52 = .ok (.iload_n 2, 1) := by decide +kernel
theorem dX7_move_53 : decode cX7_move 53 = .ok (.iload_n 3, 1) := by decide +kernel
theorem dX7_move_54 : decode cX7_move 54 = .ok (.invokevirtual 191, 3) := by decide +kernel
theorem dX7_move_57 : decode cX7_move 57 = .ok (.ifCond .le 5, 3) := by decide +kernel
theorem dX7_move_60 : decode cX7_move 60 = .ok (.iconst 0, 1) := by decide +kernel
theorem dX7_move_61 : decode cX7_move 61 = .ok (.ireturn, 1) := by decide +kernel
theorem dX7_move_62 : decode cX7_move 62 = .ok (.aload_n 0, 1) := by decide +kernel
theorem dX7_move_63 : decode cX7_move 63 = .ok (.getfield 90, 3) := by decide +kernel
theorem dX7_move_66 : decode cX7_move 66 = .ok (.iload_n 1, 1) := by decide +kernel
theorem dX7_move_67 : decode cX7_move 67 = .ok (.iload_n 2, 1) := by decide +kernel
theorem dX7_move_68 : decode cX7_move 68 = .ok (.iastore, 1) := by decide +kernel
theorem dX7_move_69 : decode cX7_move 69 = .ok (.aload_n 0, 1) := by decide +kernel
theorem dX7_move_70 : decode cX7_move 70 = .ok (.getfield 93, 3) := by decide +kernel
theorem dX7_move_73 : decode cX7_move 73 = .ok (.iload_n 1, 1) := by decide +kernel
theorem dX7_move_74 : decode cX7_move 74 = .ok (.iload_n 3, 1) := by decide +kernel
theorem dX7_move_75 : decode cX7_move 75 = .ok (.iastore, 1) := by decide +kernel
theorem dX7_move_76 : decode cX7_move 76 = .ok (.iconst 1, 1) := by decide +kernel
theorem dX7_move_77 : decode cX7_move 77 = .ok (.ireturn, 1) := by decide +kernel
set_option maxRecDepth 20000 in
theorem ggX7_change_X7_noTrader : GoodIn wsX7_change wsX7_noTrader := goodIn_r _ [10, 11, 89, 90, 91, 92, 93, 94, 95, 96, 97, 98, 99, 100, 101, 102, 103, 104, 105, 106, 107, 108, 109, 110, 111, 112, 113, 114, 115, 116, 117, 118, 119, 120, 121, 122, 123, 124, 125, 126, 127, 128, 129, 130, 131, 132, 133, 134, 135, 136, 137, 138, 139] (by decide +kernel) (by decide +kernel)
set_option maxRecDepth 20000 in
theorem gX7_change_X7_noTrader : GoodIn wsX7_change (wsV RX7 237 RX7 yX7_noTrader wsX7_noTrader) := goodIn_app (goodIn_of _ (by decide +kernel)) ggX7_change_X7_noTrader
set_option maxRecDepth 20000 in
theorem ggX7_change_X7_throwsIf : GoodIn wsX7_change wsX7_throwsIf := goodIn_r _ [15, 1, 89, 90, 91, 92, 93, 94, 95, 96, 97, 98, 99, 100, 101, 102, 103, 104, 105, 106, 107, 108, 109, 110, 111, 112, 113, 114, 115, 116, 117, 118, 119, 120, 121, 122, 123, 124, 125, 126, 127, 128, 129, 130, 131, 132, 133, 134, 135, 136, 137, 138, 139] (by decide +kernel) (by decide +kernel)
set_option maxRecDepth 20000 in
theorem gX7_change_X7_throwsIf : GoodIn wsX7_change (wsV RX7 227 RX7 yX7_throwsIf wsX7_throwsIf) := goodIn_app (goodIn_of _ (by decide +kernel)) ggX7_change_X7_throwsIf
set_option maxRecDepth 20000 in
theorem ggX7_change_X7_against : GoodIn wsX7_change wsX7_against := goodIn_r _ [19, 20, 21, 22, 23, 9, 24, 25, 26, 27, 28, 29, 30, 31, 32, 33, 34, 35, 36, 37, 38, 39, 40, 41, 42, 11, 3, 43, 44, 45, 46, 47, 48, 49, 50, 4, 5, 51, 52, 53, 54, 55, 56, 57, 58, 59, 60, 61, 62, 63, 64, 65, 66, 67, 68, 69, 70, 71, 72, 73, 74, 75, 76, 77, 78, 79, 80, 81, 82, 83, 84, 85, 86, 87, 88, 89, 90, 91, 92, 93, 94, 95, 96, 97, 98, 99, 100, 101, 102, 103, 104, 105, 106, 107, 108, 109, 110, 111, 112, 113, 114, 115, 116, 117, 118, 119, 120, 121, 122, 123, 124, 125, 126, 127, 128, 129, 130, 131, 132, 133, 134, 135, 136, 137, 138, 139] (by decide +kernel) (by decide +kernel)
set_option maxRecDepth 20000 in
theorem gX7_change_X7_against : GoodIn wsX7_change (wsV RX7 191 RX7 yX7_against wsX7_against) := goodIn_app (goodIn_of _ (by decide +kernel)) ggX7_change_X7_against
theorem dX7_change_0 : decode cX7_change 0 = .ok (.aload_n 0, 1) := by decide +kernel
theorem dX7_change_1 : decode cX7_change 1 = .ok (.iconst 0, 1) := by decide +kernel
theorem dX7_change_2 : decode cX7_change 2 = .ok (.putfield 127, 3) := by decide +kernel
theorem dX7_change_5 : decode cX7_change 5 = .ok (.aload_n 0, 1) := by decide +kernel
theorem dX7_change_6 : decode cX7_change 6 = .ok (.aload_n 0, 1) := by decide +kernel
theorem dX7_change_7 : decode cX7_change 7 = .ok (.iload_n 1, 1) := by decide +kernel
theorem dX7_change_8 : decode cX7_change 8 = .ok (.invokevirtual 237, 3) := by decide +kernel
theorem dX7_change_11 : decode cX7_change 11 = .ok (.ifCond .ne 11, 3) := by decide +kernel
theorem dX7_change_14 : decode cX7_change 14 = .ok (.aload_n 0, 1) := by decide +kernel
theorem dX7_change_15 : decode cX7_change 15 = .ok (.iload_n 2, 1) := by decide +kernel
theorem dX7_change_16 : decode cX7_change 16 = .ok (.invokevirtual 237, 3) := by decide +kernel
theorem dX7_change_19 : decode cX7_change 19 = .ok (.ifCond .eq 7, 3) := by decide +kernel
theorem dX7_change_22 : decode cX7_change 22 = .ok (.iconst 1, 1) := by decide +kernel
theorem dX7_change_23 : decode cX7_change 23 = .ok (.goto 4, 3) := by decide +kernel
theorem dX7_change_26 : decode cX7_change 26 = .ok (.iconst 0, 1) := by decide +kernel
theorem dX7_change_27 : decode cX7_change 27 = .ok (.iconst 1, 1) := by decide +kernel
theorem dX7_change_28 : decode cX7_change 28 = .ok (.invokevirtual 227, 3) := by decide +kernel
theorem dX7_change_31 : decode cX7_change 31 = .ok (.ifCond .ne 24, 3) := by decide +kernel
theorem dX7_change_34 : decode cX7_change 34 = .ok (.aload_n 0, 1) := by decide +kernel
theorem dX7_change_35 : decode cX7_change 35 = .ok (.aload_n 0, 1) := by decide +kernel
theorem dX7_change_36 : decode cX7_change 36 = .ok (.getfield 214, 3) := by decide +kernel
theorem dX7_change_39 : decode cX7_change 39 = .ok (.iconst 2, 1) := by decide +kernel
theorem dX7_change_40 : decode cX7_change 40 = .ok (.if_icmp .ge 7, 3) := by decide +kernel
theorem dX7_change_43 : decode cX7_change 43 = .ok (.iconst 1, 1) := by decide +kernel
theorem dX7_change_44 : decode cX7_change 44 = .ok (.goto 4, 3) := by decide +kernel
theorem dX7_change_47 : decode cX7_change 47 = .ok (.iconst 0, 1) := by decide +kernel
theorem dX7_change_48 : decode cX7_change 48 = .ok (.iconst 2, 1) := by decide +kernel
theorem dX7_change_49 : decode cX7_change 49 = .ok (.invokevirtual 227, 3) := by decide +kernel
theorem dX7_change_52 : decode cX7_change 52 = .ok (.ifCond .eq 5, 3) := by decide +kernel
theorem dX7_change_55 : decode cX7_change 55 = .ok (.iconst 0, 1) := by decide +kernel
theorem dX7_change_56 : decode cX7_change 56 = .ok (.ireturn, 1) := by decide +kernel
theorem dX7_change_57 : decode cX7_change 57 = .ok (.iload_n 1, 1) := by decide +kernel
theorem dX7_change_58 : decode cX7_change 58 = .ok (.iload_n 2, 1) := by decide +kernel
theorem dX7_change_59 : decode cX7_change 59 = .ok (.if_icmp .eq 21, 3) := by decide +kernel
theorem dX7_change_62 : decode cX7_change 62 = .ok (.aload_n 0, 1) := by decide +kernel
theorem dX7_change_63 : decode cX7_change 63 = .ok (.getfield 87, 3) := by decide +kernel
theorem dX7_change_66 : decode cX7_change 66 = .ok (.iload_n 1, 1) := by decide +kernel
theorem dX7_change_67 : decode cX7_change 67 = .ok (.baload, 1) := by decide +kernel
theorem dX7_change_68 : decode cX7_change 68 = .ok (.ifCond .eq 12, 3) := by decide +kernel
theorem dX7_change_71 : decode cX7_change 71 = .ok (.aload_n 0, 1) := by decide +kernel
theorem dX7_change_72 : decode cX7_change 72 = .ok (.getfield 87, 3) := by decide +kernel
theorem dX7_change_75 : decode cX7_change 75 = .ok (.iload_n 2, 1) := by decide +kernel
theorem dX7_change_76 : decode cX7_change 76 = .ok (.baload, 1) := by decide +kernel
theorem dX7_change_77 : decode cX7_change 77 = .ok (.ifCond .ne 5, 3) := by decide +kernel
theorem dX7_change_80 : decode cX7_change 80 = .ok (.iconst 0, 1) := by decide +kernel
theorem dX7_change_81 : decode cX7_change 81 = .ok (.ireturn, 1) := by decide +kernel
theorem dX7_change_82 : decode cX7_change 82 = .ok (.aload_n 0, 1) := by decide +kernel
theorem dX7_change_83 : decode cX7_change 83 = .ok (.getfield 90, 3) := by decide +kernel
theorem dX7_change_86 : decode cX7_change 86 = .ok (.iload_n 1, 1) := by decide +kernel
theorem dX7_change_87 : decode cX7_change 87 = .ok (.iaload, 1) := by decide +kernel
theorem dX7_change_88 : decode cX7_change 88 = .ok (.istore_n 3, 1) := by decide +kernel
theorem dX7_change_89 : decode cX7_change 89 = .ok (.aload_n 0, 1) := by decide +kernel
theorem dX7_change_90 : decode cX7_change 90 = .ok (.getfield 93, 3) := by decide +kernel
theorem dX7_change_93 : decode cX7_change 93 = .ok (.iload_n 1, 1) := by decide +kernel
theorem dX7_change_94 : decode cX7_change 94 = .ok (.iaload, 1) := by decide +kernel
theorem dX7_change_95 : decode cX7_change 95 = .ok (.istore 4, 2) := by decide +kernel
theorem dX7_change_97 : decode cX7_change 97 = .ok (.aload_n 0, 1) := by decide +kernel
theorem dX7_change_98 : decode cX7_change 98 = .ok (.getfield 90, 3) := by decide +kernel
theorem dX7_change_101 : decode cX7_change 101 = .ok (.iload_n 2, 1) := by decide +kernel
theorem dX7_change_102 : decode cX7_change 102 = .ok (.iaload, 1) := by decide +kernel
theorem dX7_change_103 : decode cX7_change 103 = .ok (.istore 5, 2) := by decide +kernel
theorem dX7_change_105 : decode cX7_change 105 = .ok (.aload_n 0, 1) := by decide +kernel
theorem dX7_change_106 : decode cX7_change 106 = .ok (.getfield 93, 3) := by decide +kernel
theorem dX7_change_109 : decode cX7_change 109 = .ok (.iload_n 2, 1) := by decide +kernel
theorem dX7_change_110 : decode cX7_change 110 = .ok (.iaload, 1) := by decide +kernel
theorem dX7_change_111 : decode cX7_change 111 = .ok (.istore 6, 2) := by decide +kernel
theorem dX7_change_113 : decode cX7_change 113 = .ok (.aload_n 0, 1) := by decide +kernel
theorem dX7_change_114 : decode cX7_change 114 = .ok (.getfield 87, 3) := by decide +kernel
theorem dX7_change_117 : decode cX7_change 117 = .ok (.iload_n 2, 1) := by decide +kernel
theorem dX7_change_118 : decode cX7_change 118 = .ok (.iconst 0, 1) := by decide +kernel
theorem dX7_change_119 : decode cX7_change 119 = .ok (.bastore, 1) := by decide +kernel
theorem dX7_change_120 : decode cX7_change 120 = .ok (.aload_n 0, 1) := by decide +kernel
theorem dX7_change_121 : decode cX7_change 121 = .ok (.iload_n 1, 1) := by decide +kernel
theorem dX7_change_122 : decode cX7_change 122 = .ok (.iload 5, 2) := by decide +kernel
theorem dX7_change_124 : decode cX7_change 124 = .ok (.iload 6, 2) := by decide +kernel
theorem dX7_change_126 : decode cX7_change 126 = .ok (.invokevirtual 191, 3) := by decide +kernel
theorem dX7_change_129 : decode cX7_change 129 = .ok (.ifCond .ne 7, 3) := by decide +kernel
theorem dX7_change_132 : decode cX7_change 132 = .ok (.iconst 1, 1) := by decide +kernel
theorem dX7_change_133 : decode cX7_change 133 = .ok (.goto 4, 3) := by decide +kernel
theorem dX7_change_136 : decode cX7_change 136 = .ok (.iconst 0, 1) := by decide +kernel
theorem dX7_change_137 : decode cX7_change 137 = .ok (.istore 7, 2) := by decide +kernel
theorem dX7_change_139 : decode cX7_change 139 = .ok (.iload 7, 2) := by decide +kernel
theorem dX7_change_141 : decode cX7_change 141 = .ok (.ifCond .eq 37, 3) := by decide +kernel
theorem dX7_change_144 : decode cX7_change 144 = .ok (.aload_n 0, 1) := by decide +kernel
theorem dX7_change_145 : decode cX7_change 145 = .ok (.getfield 90, 3) := by decide +kernel
theorem dX7_change_148 : decode cX7_change 148 = .ok (.iload_n 1, 1) := by decide +kernel
theorem dX7_change_149 : decode cX7_change 149 = .ok (.iload 5, 2) := by decide +kernel
theorem dX7_change_151 : decode cX7_change 151 = .ok (.iastore, 1) := by decide +kernel
theorem dX7_change_152 : decode cX7_change 152 = .ok (.aload_n 0, 1) := by decide +kernel
theorem dX7_change_153 : decode cX7_change 153 = .ok (.getfield 93, 3) := by decide +kernel
theorem dX7_change_156 : decode cX7_change 156 = .ok (.iload_n 1, 1) := by decide +kernel
theorem dX7_change_157 : decode cX7_change 157 = .ok (.iload 6, 2) := by decide +kernel
theorem dX7_change_159 : decode cX7_change 159 = .ok (.iastore, 1) := by decide +kernel
theorem dX7_change_160 : decode cX7_change 160 = .ok (.aload_n 0, 1) := by decide +kernel
theorem dX7_change_161 : decode cX7_change 161 = .ok (.iload_n 2, 1) := by decide +kernel
theorem dX7_change_162 : decode cX7_change 162 = .ok (.iload_n 3, 1) := by decide +kernel
theorem dX7_change_163 : decode cX7_change 163 = .ok (.iload 4, 2) := by decide +kernel
theorem dX7_change_165 : decode cX7_change 165 = .ok (.invokevirtual 191, 3) := by decide +kernel
theorem dX7_change_168 : decode cX7_change 168 = .ok (.ifCond .ne 7, 3) := by decide +kernel
theorem dX7_change_171 : decode cX7_change 171 = .ok (.iconst 1, 1) := by decide +kernel
theorem dX7_change_172 : decode cX7_change 172 = .ok (.goto 4, 3) := by decide +kernel
theorem dX7_change_175 : decode cX7_change 175 = .ok (.iconst 0, 1) := by decide +kernel
theorem dX7_change_176 : decode cX7_change 176 = .ok (.istore 7, 2) := by decide +kernel
theorem dX7_change_178 : decode cX7_change 178 = .ok (.aload_n 0, 1) := by decide +kernel
theorem dX7_change_179 : decode cX7_change 179 = .ok (.getfield 87, 3) := by decide +kernel
theorem dX7_change_182 : decode cX7_change 182 = .ok (.iload_n 2, 1) := by decide +kernel
theorem dX7_change_183 : decode cX7_change 183 = .ok (.iconst 1, 1) := by decide +kernel
theorem dX7_change_184 : decode cX7_change 184 = .ok (.bastore, 1) := by decide +kernel
theorem dX7_change_185 : decode cX7_change 185 = .ok (.aload_n 0, 1) := by decide +kernel
theorem dX7_change_186 : decode cX7_change 186 = .ok (.getfield 90, 3) := by decide +kernel
theorem dX7_change_189 : decode cX7_change 189 = .ok (.iload_n 1, 1) := by decide +kernel
theorem dX7_change_190 : decode cX7_change 190 = .ok (.iload 7, 2) := by decide +kernel
theorem dX7_change_192 : decode cX7_change 192 = .ok (.ifCond .eq 8, 3) := by decide +kernel
theorem dX7_change_195 : decode cX7_change 195 = .ok (.iload 5, 2) := by decide +kernel
theorem dX7_change_197 : decode cX7_change 197 = .ok (.goto 4, 3) := by decide +kernel
theorem dX7_change_200 : decode cX7_change 200 = .ok (.iload_n 3, 1) := by decide +kernel
theorem dX7_change_201 : decode cX7_change 201 = .ok (.iastore, 1) := by decide +kernel
theorem dX7_change_202 : decode cX7_change 202 = .ok (.aload_n 0, 1) := by decide +kernel
theorem dX7_change_203 : decode cX7_change 203 = .ok (.getfield 93, 3) := by decide +kernel
theorem dX7_change_206 : decode cX7_change 206 = .ok (.iload_n 1, 1) := by decide +kernel
theorem dX7_change_207 : decode cX7_change 207 = .ok (.iload 7, 2) := by decide +kernel
theorem dX7_change_209 : decode cX7_change 209 = .ok (.ifCond .eq 8, 3) := by decide +kernel
theorem dX7_change_212 : decode cX7_change 212 = .ok (.iload 6, 2) := by decide +kernel
theorem dX7_change_214 : decode cX7_change 214 = .ok (.goto 5, 3) := by decide +kernel
theorem dX7_change_217 : decode cX7_change 217 = .ok (.iload 4, 2) := by decide +kernel
theorem dX7_change_219 : decode cX7_change 219 = .ok (.iastore, 1) := by decide +kernel
theorem dX7_change_220 : decode cX7_change 220 = .ok (.iload 7, 2) := by decide +kernel
theorem dX7_change_222 : decode cX7_change 222 = .ok (.ifCond .eq 18, 3) := by decide +kernel
theorem dX7_change_225 : decode cX7_change 225 = .ok (.aload_n 0, 1) := by decide +kernel
theorem dX7_change_226 : decode cX7_change 226 = .ok (.getfield 90, 3) := by decide +kernel
theorem dX7_change_229 : decode cX7_change 229 = .ok (.iload_n 2, 1) := by decide +kernel
theorem dX7_change_230 : decode cX7_change 230 = .ok (.iload_n 3, 1) := by decide +kernel
theorem dX7_change_231 : decode cX7_change 231 = .ok (.iastore, 1) := by decide +kernel
theorem dX7_change_232 : decode cX7_change 232 = .ok (.aload_n 0, 1) := by decide +kernel
theorem dX7_change_233 : decode cX7_change 233 = .ok (.getfield 93, 3) := by decide +kernel
theorem dX7_change_236 : decode cX7_change 236 = .ok (.iload_n 2, 1) := by decide +kernel
theorem dX7_change_237 : decode cX7_change 237 = .ok (.iload 4, 2) := by decide +kernel
theorem dX7_change_239 : decode cX7_change 239 = .ok (.iastore, 1) := by decide +kernel
theorem dX7_change_240 : decode cX7_change 240 = .ok (.iload 7, 2) := by decide +kernel
theorem dX7_change_242 : decode cX7_change 242 = .ok (.ireturn, 1) := by decide +kernel
set_option maxRecDepth 20000 in
theorem ggX7_leave_X7_noTrader : GoodIn wsX7_leave wsX7_noTrader := goodIn_r _ [9, 10, 27, 28, 29, 30, 31, 32, 33, 34, 35, 36, 37, 38, 39, 40, 41, 42, 43, 44, 45, 46, 47, 48, 49, 50, 51, 52, 53, 54, 55, 56, 57, 58, 59, 60, 61, 62, 63, 64, 65, 66, 67, 68, 69, 70, 71, 72, 73, 74, 75, 76, 77] (by decide +kernel) (by decide +kernel)
set_option maxRecDepth 20000 in
theorem gX7_leave_X7_noTrader : GoodIn wsX7_leave (wsV RX7 237 RX7 yX7_noTrader wsX7_noTrader) := goodIn_app (goodIn_of _ (by decide +kernel)) ggX7_leave_X7_noTrader
set_option maxRecDepth 20000 in
theorem ggX7_leave_X7_throwsIf : GoodIn wsX7_leave wsX7_throwsIf := goodIn_r _ [14, 1, 27, 28, 29, 30, 31, 32, 33, 34, 35, 36, 37, 38, 39, 40, 41, 42, 43, 44, 45, 46, 47, 48, 49, 50, 51, 52, 53, 54, 55, 56, 57, 58, 59, 60, 61, 62, 63, 64, 65, 66, 67, 68, 69, 70, 71, 72, 73, 74, 75, 76, 77] (by decide +kernel) (by decide +kernel)
set_option maxRecDepth 20000 in
theorem gX7_leave_X7_throwsIf : GoodIn wsX7_leave (wsV RX7 227 RX7 yX7_throwsIf wsX7_throwsIf) := goodIn_app (goodIn_of _ (by decide +kernel)) ggX7_leave_X7_throwsIf
set_option maxRecDepth 20000 in
theorem ggX7_leave_X7_goes : GoodIn wsX7_leave wsX7_goes := goodIn_r _ [18, 19, 20, 21, 22, 23, 24, 3, 25, 26, 27, 28, 29, 30, 31, 32, 33, 34, 35, 36, 37, 38, 39, 40, 41, 42, 43, 44, 45, 46, 47, 48, 49, 50, 51, 52, 53, 54, 55, 56, 57, 58, 59, 60, 61, 62, 63, 64, 65, 66, 67, 68, 69, 70, 71, 72, 73, 74, 75, 76, 77] (by decide +kernel) (by decide +kernel)
set_option maxRecDepth 20000 in
theorem gX7_leave_X7_goes : GoodIn wsX7_leave (wsV RX7 258 RX7 yX7_goes wsX7_goes) := goodIn_app (goodIn_of _ (by decide +kernel)) ggX7_leave_X7_goes
theorem dX7_leave_0 : decode cX7_leave 0 = .ok (.aload_n 0, 1) := by decide +kernel
theorem dX7_leave_1 : decode cX7_leave 1 = .ok (.iconst 0, 1) := by decide +kernel
theorem dX7_leave_2 : decode cX7_leave 2 = .ok (.putfield 127, 3) := by decide +kernel
theorem dX7_leave_5 : decode cX7_leave 5 = .ok (.aload_n 0, 1) := by decide +kernel
theorem dX7_leave_6 : decode cX7_leave 6 = .ok (.aload_n 0, 1) := by decide +kernel
theorem dX7_leave_7 : decode cX7_leave 7 = .ok (.iload_n 1, 1) := by decide +kernel
theorem dX7_leave_8 : decode cX7_leave 8 = .ok (.invokevirtual 237, 3) := by decide +kernel
theorem dX7_leave_11 : decode cX7_leave 11 = .ok (.iconst 1, 1) := by decide +kernel
theorem dX7_leave_12 : decode cX7_leave 12 = .ok (.invokevirtual 227, 3) := by decide +kernel
theorem dX7_leave_15 : decode cX7_leave 15 = .ok (.ifCond .ne 24, 3) := by decide +kernel
theorem dX7_leave_18 : decode cX7_leave 18 = .ok (.aload_n 0, 1) := by decide +kernel
theorem dX7_leave_19 : decode cX7_leave 19 = .ok (.aload_n 0, 1) := by decide +kernel
theorem dX7_leave_20 : decode cX7_leave 20 = .ok (.getfield 214, 3) := by decide +kernel
theorem dX7_leave_23 : decode cX7_leave 23 = .ok (.iconst 2, 1) := by decide +kernel
theorem dX7_leave_24 : decode cX7_leave 24 = .ok (.if_icmp .ge 7, 3) := by decide +kernel
theorem dX7_leave_27 : decode cX7_leave 27 = .ok (.iconst 1, 1) := by decide +kernel
theorem dX7_leave_28 : decode cX7_leave 28 = .ok (.goto 4, 3) := by decide +kernel
theorem dX7_leave_31 : decode cX7_leave 31 = .ok (.iconst 0, 1) := by decide +kernel
theorem dX7_leave_32 : decode cX7_leave 32 = .ok (.iconst 2, 1) := by decide +kernel
theorem dX7_leave_33 : decode cX7_leave 33 = .ok (.invokevirtual 227, 3) := by decide +kernel
theorem dX7_leave_36 : decode cX7_leave 36 = .ok (.ifCond .eq 5, 3) := by decide +kernel
theorem dX7_leave_39 : decode cX7_leave 39 = .ok (.iconst 0, 1) := by decide +kernel
theorem dX7_leave_40 : decode cX7_leave 40 = .ok (.ireturn, 1) := by decide +kernel
theorem dX7_leave_41 : decode cX7_leave 41 = .ok (.aload_n 0, 1) := by decide +kernel
theorem dX7_leave_42 : decode cX7_leave 42 = .ok (.getfield 87, 3) := by decide +kernel
theorem dX7_leave_45 : decode cX7_leave 45 = .ok (.iload_n 1, 1) := by decide +kernel
theorem dX7_leave_46 : decode cX7_leave 46 = .ok (.baload, 1) := by decide +kernel
theorem dX7_leave_47 : decode cX7_leave 47 = .ok (.ifCond .ne 5, 3) := by decide +kernel
theorem dX7_leave_50 : decode cX7_leave 50 = .ok (.iconst (-1), 1) := by decide +kernel
theorem dX7_leave_51 : decode cX7_leave 51 = .ok (.ireturn, 1) := by decide +kernel
theorem dX7_leave_52 : decode cX7_leave 52 = .ok (.aload_n 0, 1) := by decide +kernel
theorem dX7_leave_53 : decode cX7_leave 53 = .ok (.getfield 81, 3) := by decide +kernel
theorem dX7_leave_56 : decode cX7_leave 56 = .ok (.iload_n 1, 1) := by decide +kernel
theorem dX7_leave_57 : decode cX7_leave 57 = .ok (.iconst 1, 1) := by decide +kernel
theorem dX7_leave_58 : decode cX7_leave 58 = .ok (.bastore, 1) := by decide +kernel
theorem dX7_leave_59 : decode cX7_leave 59 = .ok (.aload_n 0, 1) := by decide +kernel
theorem dX7_leave_60 : decode cX7_leave 60 = .ok (.iload_n 1, 1) := by decide +kernel
theorem dX7_leave_61 : decode cX7_leave 61 = .ok (.invokevirtual 258, 3) := by decide +kernel
theorem dX7_leave_64 : decode cX7_leave 64 = .ok (.ireturn, 1) := by decide +kernel
set_option maxRecDepth 20000 in
theorem ggX7_hour_X7_throwsIf : GoodIn wsX7_hour wsX7_throwsIf := goodIn_r _ [8, 1, 9, 10, 11, 12, 13, 14, 15, 16, 17, 18, 19, 20, 21, 22, 23, 24, 25, 26, 27, 28, 29, 30, 31, 32, 33, 34, 35, 36, 37, 38, 39, 40, 41, 42, 43, 44, 45, 46, 47, 48, 49, 50, 51, 52, 53, 54, 55, 56, 57, 58, 59] (by decide +kernel) (by decide +kernel)
set_option maxRecDepth 20000 in
theorem gX7_hour_X7_throwsIf : GoodIn wsX7_hour (wsV RX7 227 RX7 yX7_throwsIf wsX7_throwsIf) := goodIn_app (goodIn_of _ (by decide +kernel)) ggX7_hour_X7_throwsIf
theorem dX7_hour_0 : decode cX7_hour 0 = .ok (.aload_n 0, 1) := by decide +kernel
theorem dX7_hour_1 : decode cX7_hour 1 = .ok (.iconst 0, 1) := by decide +kernel
theorem dX7_hour_2 : decode cX7_hour 2 = .ok (.putfield 127, 3) := by decide +kernel
theorem dX7_hour_5 : decode cX7_hour 5 = .ok (.aload_n 0, 1) := by decide +kernel
theorem dX7_hour_6 : decode cX7_hour 6 = .ok (.iload_n 1, 1) := by decide +kernel
theorem dX7_hour_7 : decode cX7_hour 7 = .ok (.aload_n 0, 1) := by decide +kernel
theorem dX7_hour_8 : decode cX7_hour 8 = .ok (.getfield 220, 3) := by decide +kernel
theorem dX7_hour_11 : decode cX7_hour 11 = .ok (.if_icmp .lt 9, 3) := by decide +kernel
theorem dX7_hour_14 : decode cX7_hour 14 = .ok (.iload_n 1, 1) := by decide +kernel
theorem dX7_hour_15 : decode cX7_hour 15 = .ok (.bipush 12, 2) := by decide +kernel
theorem dX7_hour_17 : decode cX7_hour 17 = .ok (.if_icmp .le 7, 3) := by decide +kernel
theorem dX7_hour_20 : decode cX7_hour 20 = .ok (.iconst 1, 1) := by decide +kernel
theorem dX7_hour_21 : decode cX7_hour 21 = .ok (.goto 4, 3) := by decide +kernel
theorem dX7_hour_24 : decode cX7_hour 24 = .ok (.iconst 0, 1) := by decide +kernel
theorem dX7_hour_25 : decode cX7_hour 25 = .ok (.iconst 1, 1) := by decide +kernel
theorem dX7_hour_26 : decode cX7_hour 26 = .ok (.invokevirtual 227, 3) := by decide +kernel
theorem dX7_hour_29 : decode cX7_hour 29 = .ok (.ifCond .ne 23, 3) := by decide +kernel
theorem dX7_hour_32 : decode cX7_hour 32 = .ok (.aload_n 0, 1) := by decide +kernel
theorem dX7_hour_33 : decode cX7_hour 33 = .ok (.aload_n 0, 1) := by decide +kernel
theorem dX7_hour_34 : decode cX7_hour 34 = .ok (.getfield 214, 3) := by decide +kernel
theorem dX7_hour_37 : decode cX7_hour 37 = .ok (.ifCond .ne 7, 3) := by decide +kernel
theorem dX7_hour_40 : decode cX7_hour 40 = .ok (.iconst 1, 1) := by decide +kernel
theorem dX7_hour_41 : decode cX7_hour 41 = .ok (.goto 4, 3) := by decide +kernel
theorem dX7_hour_44 : decode cX7_hour 44 = .ok (.iconst 0, 1) := by decide +kernel
theorem dX7_hour_45 : decode cX7_hour 45 = .ok (.iconst 2, 1) := by decide +kernel
theorem dX7_hour_46 : decode cX7_hour 46 = .ok (.invokevirtual 227, 3) := by decide +kernel
theorem dX7_hour_49 : decode cX7_hour 49 = .ok (.ifCond .eq 4, 3) := by decide +kernel
theorem dX7_hour_52 : decode cX7_hour 52 = .ok (.return_, 1) := by decide +kernel
theorem dX7_hour_53 : decode cX7_hour 53 = .ok (.aload_n 0, 1) := by decide +kernel
theorem dX7_hour_54 : decode cX7_hour 54 = .ok (.iload_n 1, 1) := by decide +kernel
theorem dX7_hour_55 : decode cX7_hour 55 = .ok (.putfield 220, 3) := by decide +kernel
theorem dX7_hour_58 : decode cX7_hour 58 = .ok (.return_, 1) := by decide +kernel
set_option maxRecDepth 20000 in
theorem ggX7_couldStand_X7_isRow : GoodIn wsX7_couldStand wsX7_isRow := goodIn_r _ [6, 7, 8, 9, 5, 10, 18, 19, 20, 21, 22, 23, 24, 25, 26, 27, 28, 29, 30, 31, 32, 33, 34, 35, 36, 37, 38, 39, 40, 41, 42, 43, 44, 45, 46, 47, 48, 49, 50, 51, 52, 53, 54, 55, 56, 57, 58, 59, 60, 61, 62, 63, 64, 65, 66, 67, 68] (by decide +kernel) (by decide +kernel)
set_option maxRecDepth 20000 in
theorem gX7_couldStand_X7_isRow : GoodIn wsX7_couldStand (wsV RX7 141 RX7 yX7_isRow wsX7_isRow) := goodIn_app (goodIn_of _ (by decide +kernel)) ggX7_couldStand_X7_isRow
set_option maxRecDepth 20000 in
theorem ggX7_couldStand_X7_isOutOfMonth : GoodIn wsX7_couldStand wsX7_isOutOfMonth := goodIn_r _ [14, 15, 16, 17, 18, 19, 20, 21, 22, 23, 24, 25, 26, 27, 28, 29, 30, 31, 32, 33, 34, 35, 36, 37, 38, 39, 40, 41, 42, 43, 44, 45, 46, 47, 48, 49, 50, 51, 52, 53, 54, 55, 56, 57, 58, 59, 60, 61, 62, 63, 64, 65, 66, 67, 68] (by decide +kernel) (by decide +kernel)
set_option maxRecDepth 20000 in
theorem gX7_couldStand_X7_isOutOfMonth : GoodIn wsX7_couldStand (wsV RX7 188 RX7 yX7_isOutOfMonth wsX7_isOutOfMonth) := goodIn_app (goodIn_of _ (by decide +kernel)) ggX7_couldStand_X7_isOutOfMonth
theorem dX7_couldStand_0 : decode cX7_couldStand 0 = .ok (.aload_n 0, 1) := by decide +kernel
theorem dX7_couldStand_1 : decode cX7_couldStand 1 = .ok (.aload_n 0, 1) := by decide +kernel
theorem dX7_couldStand_2 : decode cX7_couldStand 2 = .ok (.getfield 45, 3) := by decide +kernel
theorem dX7_couldStand_5 : decode cX7_couldStand 5 = .ok (.iload_n 1, 1) := by decide +kernel
theorem dX7_couldStand_6 : decode cX7_couldStand 6 = .ok (.iaload, 1) := by decide +kernel
theorem dX7_couldStand_7 : decode cX7_couldStand 7 = .ok (.invokevirtual 141, 3) := by decide +kernel
theorem dX7_couldStand_10 : decode cX7_couldStand 10 = .ok (.ifCond .eq 15, 3) := by decide +kernel
theorem dX7_couldStand_13 : decode cX7_couldStand 13 = .ok (.aload_n 0, 1) := by decide +kernel
theorem dX7_couldStand_14 : decode cX7_couldStand 14 = .ok (.iload_n 1, 1) := by decide +kernel
theorem dX7_couldStand_15 : decode cX7_couldStand 15 = .ok (.invokevirtual 188, 3) := by decide +kernel
theorem dX7_couldStand_18 : decode cX7_couldStand 18 = .ok (.ifCond .ne 7, 3) := by decide +kernel
theorem dX7_couldStand_21 : decode cX7_couldStand 21 = .ok (.iconst 1, 1) := by decide +kernel
theorem dX7_couldStand_22 : decode cX7_couldStand 22 = .ok (.goto 4, 3) := by decide +kernel
theorem dX7_couldStand_25 : decode cX7_couldStand 25 = .ok (.iconst 0, 1) := by decide +kernel
theorem dX7_couldStand_26 : decode cX7_couldStand 26 = .ok (.ireturn, 1) := by decide +kernel
set_option maxRecDepth 20000 in
theorem ggX7_heir_X7_isAhead : GoodIn wsX7_heir wsX7_isAhead := goodIn_r _ [10, 11, 12, 13, 14, 15, 16, 17, 9, 18, 19, 20, 21, 22, 23, 24, 25, 26, 27, 28, 29, 30, 31, 32, 33, 34, 35, 36, 37, 38, 39, 40, 41, 42, 43, 44, 45, 46, 47, 48, 49, 50, 51, 52, 53, 54, 55, 56, 57, 58, 59, 60, 61, 62, 63, 64, 65, 66, 67, 68, 69] (by decide +kernel) (by decide +kernel)
set_option maxRecDepth 20000 in
theorem gX7_heir_X7_isAhead : GoodIn wsX7_heir (wsV RX7 208 RX7 yX7_isAhead wsX7_isAhead) := goodIn_app (goodIn_of _ (by decide +kernel)) ggX7_heir_X7_isAhead
theorem dX7_heir_0 : decode cX7_heir 0 = .ok (.iconst (-1), 1) := by decide +kernel
theorem dX7_heir_1 : decode cX7_heir 1 = .ok (.istore_n 2, 1) := by decide +kernel
theorem dX7_heir_2 : decode cX7_heir 2 = .ok (.iconst 0, 1) := by decide +kernel
theorem dX7_heir_3 : decode cX7_heir 3 = .ok (.istore_n 3, 1) := by decide +kernel
theorem dX7_heir_4 : decode cX7_heir 4 = .ok (.iload_n 3, 1) := by decide +kernel
theorem dX7_heir_5 : decode cX7_heir 5 = .ok (.aload_n 0, 1) := by decide +kernel
theorem dX7_heir_6 : decode cX7_heir 6 = .ok (.getfield 131, 3) := by decide +kernel
theorem dX7_heir_9 : decode cX7_heir 9 = .ok (.if_icmp .ge 70, 3) := by decide +kernel
theorem dX7_heir_12 : decode cX7_heir 12 = .ok (.aload_n 0, 1) := by decide +kernel
theorem dX7_heir_13 : decode cX7_heir 13 = .ok (.getfield 30, 3) := by decide +kernel
theorem dX7_heir_16 : decode cX7_heir 16 = .ok (.iload_n 3, 1) := by decide +kernel
theorem dX7_heir_17 : decode cX7_heir 17 = .ok (.iaload, 1) := by decide +kernel
theorem dX7_heir_18 : decode cX7_heir 18 = .ok (.iconst 1, 1) := by decide +kernel
theorem dX7_heir_19 : decode cX7_heir 19 = .ok (.if_icmp .ne 54, 3) := by decide +kernel
theorem dX7_heir_22 : decode cX7_heir 22 = .ok (.aload_n 0, 1) := by decide +kernel
theorem dX7_heir_23 : decode cX7_heir 23 = .ok (.getfield 66, 3) := by decide +kernel
theorem dX7_heir_26 : decode cX7_heir 26 = .ok (.iload_n 3, 1) := by decide +kernel
theorem dX7_heir_27 : decode cX7_heir 27 = .ok (.baload, 1) := by decide +kernel
theorem dX7_heir_28 : decode cX7_heir 28 = .ok (.ifCond .eq 45, 3) := by decide +kernel
theorem dX7_heir_31 : decode cX7_heir 31 = .ok (.aload_n 0, 1) := by decide +kernel
theorem dX7_heir_32 : decode cX7_heir 32 = .ok (.getfield 42, 3) := by decide +kernel
theorem dX7_heir_35 : decode cX7_heir 35 = .ok (.iload_n 3, 1) := by decide +kernel
theorem dX7_heir_36 : decode cX7_heir 36 = .ok (.baload, 1) := by decide +kernel
theorem dX7_heir_37 : decode cX7_heir 37 = .ok (.ifCond .ne 36, 3) := by decide +kernel
theorem dX7_heir_40 : decode cX7_heir 40 = .ok (.aload_n 0, 1) := by decide +kernel
theorem dX7_heir_41 : decode cX7_heir 41 = .ok (.getfield 36, 3) := by decide +kernel
theorem dX7_heir_44 : decode cX7_heir 44 = .ok (.iload_n 3, 1) := by decide +kernel
theorem dX7_heir_45 : decode cX7_heir 45 = .ok (.iaload, 1) := by decide +kernel
theorem dX7_heir_46 : decode cX7_heir 46 = .ok (.aload_n 0, 1) := by decide +kernel
theorem dX7_heir_47 : decode cX7_heir 47 = .ok (.getfield 36, 3) := by decide +kernel
theorem dX7_heir_50 : decode cX7_heir 50 = .ok (.iload_n 1, 1) := by decide +kernel
theorem dX7_heir_51 : decode cX7_heir 51 = .ok (.iaload, 1) := by decide +kernel
theorem dX7_heir_52 : decode cX7_heir 52 = .ok (.if_icmp .le 6, 3) := by decide +kernel
theorem dX7_heir_55 : decode cX7_heir 55 = .ok (.goto 18, 3) := by decide +kernel
theorem dX7_heir_58 : decode cX7_heir 58 = .ok (.iload_n 2, 1) := by decide +kernel
theorem dX7_heir_59 : decode cX7_heir 59 = .ok (.ifCond .lt 12, 3) := by decide +kernel
theorem dX7_heir_62 : decode cX7_heir 62 = .ok (.aload_n 0, 1) := by decide +kernel
theorem dX7_heir_63 : decode cX7_heir 63 = .ok (.iload_n 3, 1) := by decide +kernel
theorem dX7_heir_64 : decode cX7_heir 64 = .ok (.iload_n 2, 1) := by decide +kernel
theorem dX7_heir_65 : decode cX7_heir 65 = .ok (.invokevirtual 208, 3) := by decide +kernel
theorem dX7_heir_68 : decode cX7_heir 68 = .ok (.ifCond .eq 5, 3) := by decide +kernel
theorem dX7_heir_71 : decode cX7_heir 71 = .ok (.iload_n 3, 1) := by decide +kernel
theorem dX7_heir_72 : decode cX7_heir 72 = .ok (.istore_n 2, 1) := by decide +kernel
theorem dX7_heir_73 : decode cX7_heir 73 = .ok (.iinc 3 1, 3) := by decide +kernel
theorem dX7_heir_76 : decode cX7_heir 76 = .ok (.goto (-72), 3) := by decide +kernel
theorem dX7_heir_79 : decode cX7_heir 79 = .ok (.iload_n 2, 1) := by decide +kernel
theorem dX7_heir_80 : decode cX7_heir 80 = .ok (.ireturn, 1) := by decide +kernel
set_option maxRecDepth 20000 in
theorem ggX7_loses_X7_heir : GoodIn wsX7_loses wsX7_heir := goodIn_r _ [14, 15, 5, 16, 1, 17, 18, 19, 20, 13, 21, 22, 23, 24, 25, 8, 26, 27, 28, 29, 30, 31, 32, 33, 34, 35, 36, 37, 38, 39, 40, 41, 42, 43, 44, 45, 46, 47, 48, 49, 50, 51, 52, 53, 54, 55, 56, 57, 58, 59, 60, 61, 62, 63, 64, 65, 66, 67, 68, 69, 70, 71, 72, 73, 74, 75, 76, 77, 78, 79] (by decide +kernel) (by decide +kernel)
set_option maxRecDepth 20000 in
theorem gX7_loses_X7_heir : GoodIn wsX7_loses (wsV RX7 264 RX7 yX7_heir wsX7_heir) := goodIn_app (goodIn_of _ (by decide +kernel)) ggX7_loses_X7_heir
theorem dX7_loses_0 : decode cX7_loses 0 = .ok (.aload_n 0, 1) := by decide +kernel
theorem dX7_loses_1 : decode cX7_loses 1 = .ok (.getfield 42, 3) := by decide +kernel
theorem dX7_loses_4 : decode cX7_loses 4 = .ok (.iload_n 1, 1) := by decide +kernel
theorem dX7_loses_5 : decode cX7_loses 5 = .ok (.iconst 0, 1) := by decide +kernel
theorem dX7_loses_6 : decode cX7_loses 6 = .ok (.bastore, 1) := by decide +kernel
theorem dX7_loses_7 : decode cX7_loses 7 = .ok (.aload_n 0, 1) := by decide +kernel
theorem dX7_loses_8 : decode cX7_loses 8 = .ok (.getfield 102, 3) := by decide +kernel
theorem dX7_loses_11 : decode cX7_loses 11 = .ok (.iload_n 1, 1) := by decide +kernel
theorem dX7_loses_12 : decode cX7_loses 12 = .ok (.iconst 0, 1) := by decide +kernel
theorem dX7_loses_13 : decode cX7_loses 13 = .ok (.iastore, 1) := by decide +kernel
theorem dX7_loses_14 : decode cX7_loses 14 = .ok (.aload_n 0, 1) := by decide +kernel
theorem dX7_loses_15 : decode cX7_loses 15 = .ok (.dup, 1) := by decide +kernel
theorem dX7_loses_16 : decode cX7_loses 16 = .ok (.getfield 261, 3) := by decide +kernel
theorem dX7_loses_19 : decode cX7_loses 19 = .ok (.iconst 1, 1) := by decide +kernel
theorem dX7_loses_20 : decode cX7_loses 20 = .ok (.iadd, 1) := by decide +kernel
theorem dX7_loses_21 : decode cX7_loses 21 = .ok (.putfield 261, 3) := by decide +kernel
theorem dX7_loses_24 : decode cX7_loses 24 = .ok (.aload_n 0, 1) := by decide +kernel
theorem dX7_loses_25 : decode cX7_loses 25 = .ok (.iload_n 1, 1) := by decide +kernel
theorem dX7_loses_26 : decode cX7_loses 26 = .ok (.invokevirtual 264, 3) := by decide +kernel
theorem dX7_loses_29 : decode cX7_loses 29 = .ok (.istore_n 2, 1) := by decide +kernel
theorem dX7_loses_30 : decode cX7_loses 30 = .ok (.iload_n 2, 1) := by decide +kernel
theorem dX7_loses_31 : decode cX7_loses 31 = .ok (.ifCond .ge 4, 3) := by decide +kernel
theorem dX7_loses_34 : decode cX7_loses 34 = .ok (.return_, 1) := by decide +kernel
theorem dX7_loses_35 : decode cX7_loses 35 = .ok (.aload_n 0, 1) := by decide +kernel
theorem dX7_loses_36 : decode cX7_loses 36 = .ok (.dup, 1) := by decide +kernel
theorem dX7_loses_37 : decode cX7_loses 37 = .ok (.getfield 267, 3) := by decide +kernel
theorem dX7_loses_40 : decode cX7_loses 40 = .ok (.iconst 1, 1) := by decide +kernel
theorem dX7_loses_41 : decode cX7_loses 41 = .ok (.iadd, 1) := by decide +kernel
theorem dX7_loses_42 : decode cX7_loses 42 = .ok (.putfield 267, 3) := by decide +kernel
theorem dX7_loses_45 : decode cX7_loses 45 = .ok (.aload_n 0, 1) := by decide +kernel
theorem dX7_loses_46 : decode cX7_loses 46 = .ok (.getfield 30, 3) := by decide +kernel
theorem dX7_loses_49 : decode cX7_loses 49 = .ok (.iload_n 2, 1) := by decide +kernel
theorem dX7_loses_50 : decode cX7_loses 50 = .ok (.iconst 0, 1) := by decide +kernel
theorem dX7_loses_51 : decode cX7_loses 51 = .ok (.iastore, 1) := by decide +kernel
theorem dX7_loses_52 : decode cX7_loses 52 = .ok (.aload_n 0, 1) := by decide +kernel
theorem dX7_loses_53 : decode cX7_loses 53 = .ok (.getfield 42, 3) := by decide +kernel
theorem dX7_loses_56 : decode cX7_loses 56 = .ok (.iload_n 2, 1) := by decide +kernel
theorem dX7_loses_57 : decode cX7_loses 57 = .ok (.iconst 1, 1) := by decide +kernel
theorem dX7_loses_58 : decode cX7_loses 58 = .ok (.bastore, 1) := by decide +kernel
theorem dX7_loses_59 : decode cX7_loses 59 = .ok (.aload_n 0, 1) := by decide +kernel
theorem dX7_loses_60 : decode cX7_loses 60 = .ok (.getfield 45, 3) := by decide +kernel
theorem dX7_loses_63 : decode cX7_loses 63 = .ok (.iload_n 2, 1) := by decide +kernel
theorem dX7_loses_64 : decode cX7_loses 64 = .ok (.aload_n 0, 1) := by decide +kernel
theorem dX7_loses_65 : decode cX7_loses 65 = .ok (.getfield 45, 3) := by decide +kernel
theorem dX7_loses_68 : decode cX7_loses 68 = .ok (.iload_n 1, 1) := by decide +kernel
theorem dX7_loses_69 : decode cX7_loses 69 = .ok (.iaload, 1) := by decide +kernel
theorem dX7_loses_70 : decode cX7_loses 70 = .ok (.iastore, 1) := by decide +kernel
theorem dX7_loses_71 : decode cX7_loses 71 = .ok (.aload_n 0, 1) := by decide +kernel
theorem dX7_loses_72 : decode cX7_loses 72 = .ok (.getfield 48, 3) := by decide +kernel
theorem dX7_loses_75 : decode cX7_loses 75 = .ok (.iload_n 2, 1) := by decide +kernel
theorem dX7_loses_76 : decode cX7_loses 76 = .ok (.aload_n 0, 1) := by decide +kernel
theorem dX7_loses_77 : decode cX7_loses 77 = .ok (.getfield 48, 3) := by decide +kernel
theorem dX7_loses_80 : decode cX7_loses 80 = .ok (.iload_n 1, 1) := by decide +kernel
theorem dX7_loses_81 : decode cX7_loses 81 = .ok (.iaload, 1) := by decide +kernel
theorem dX7_loses_82 : decode cX7_loses 82 = .ok (.iastore, 1) := by decide +kernel
theorem dX7_loses_83 : decode cX7_loses 83 = .ok (.aload_n 0, 1) := by decide +kernel
theorem dX7_loses_84 : decode cX7_loses 84 = .ok (.getfield 39, 3) := by decide +kernel
theorem dX7_loses_87 : decode cX7_loses 87 = .ok (.iload_n 2, 1) := by decide +kernel
theorem dX7_loses_88 : decode cX7_loses 88 = .ok (.aload_n 0, 1) := by decide +kernel
theorem dX7_loses_89 : decode cX7_loses 89 = .ok (.getfield 234, 3) := by decide +kernel
theorem dX7_loses_92 : decode cX7_loses 92 = .ok (.iastore, 1) := by decide +kernel
theorem dX7_loses_93 : decode cX7_loses 93 = .ok (.aload_n 0, 1) := by decide +kernel
theorem dX7_loses_94 : decode cX7_loses 94 = .ok (.dup, 1) := by decide +kernel
theorem dX7_loses_95 : decode cX7_loses 95 = .ok (.getfield 234, 3) := by decide +kernel
theorem dX7_loses_98 : decode cX7_loses 98 = .ok (.iconst 1, 1) := by decide +kernel
theorem dX7_loses_99 : decode cX7_loses 99 = .ok (.iadd, 1) := by decide +kernel
theorem dX7_loses_100 : decode cX7_loses 100 = .ok (.putfield 234, 3) := by decide +kernel
theorem dX7_loses_103 : decode cX7_loses 103 = .ok (.return_, 1) := by decide +kernel
set_option maxRecDepth 20000 in
theorem ggX7_close_X7_throwsIf : GoodIn wsX7_close wsX7_throwsIf := goodIn_r _ [20, 1, 84, 85, 86, 87, 88, 89, 90, 91, 92, 93, 94, 95, 96, 97, 98, 99, 100, 101, 102, 103, 104, 105, 106, 107, 108, 109, 110, 111, 112, 113, 114, 115, 116, 117, 118, 119, 120, 121, 122, 123, 124, 125, 126, 127, 128, 129, 130, 131, 132, 133, 134] (by decide +kernel) (by decide +kernel)
set_option maxRecDepth 20000 in
theorem gX7_close_X7_throwsIf : GoodIn wsX7_close (wsV RX7 227 RX7 yX7_throwsIf wsX7_throwsIf) := goodIn_app (goodIn_of _ (by decide +kernel)) ggX7_close_X7_throwsIf
set_option maxRecDepth 20000 in
theorem ggX7_close_X7_goes : GoodIn wsX7_close wsX7_goes := goodIn_r _ [24, 25, 26, 27, 28, 29, 30, 4, 31, 32, 84, 85, 86, 87, 88, 89, 90, 91, 92, 93, 94, 95, 96, 97, 98, 99, 100, 101, 102, 103, 104, 105, 106, 107, 108, 109, 110, 111, 112, 113, 114, 115, 116, 117, 118, 119, 120, 121, 122, 123, 124, 125, 126, 127, 128, 129, 130, 131, 132, 133, 134] (by decide +kernel) (by decide +kernel)
set_option maxRecDepth 20000 in
theorem gX7_close_X7_goes : GoodIn wsX7_close (wsV RX7 258 RX7 yX7_goes wsX7_goes) := goodIn_app (goodIn_of _ (by decide +kernel)) ggX7_close_X7_goes
set_option maxRecDepth 20000 in
theorem ggX7_close_X7_couldStand : GoodIn wsX7_close wsX7_couldStand := goodIn_r _ [36, 37, 38, 39, 40, 19, 41, 42, 43, 44, 45, 46, 47, 48, 49, 27, 50, 51, 84, 85, 86, 87, 88, 89, 90, 91, 92, 93, 94, 95, 96, 97, 98, 99, 100, 101, 102, 103, 104, 105, 106, 107, 108, 109, 110, 111, 112, 113, 114, 115, 116, 117, 118, 119, 120, 121, 122, 123, 124, 125, 126, 127, 128, 129, 130, 131, 132, 133, 134] (by decide +kernel) (by decide +kernel)
set_option maxRecDepth 20000 in
theorem gX7_close_X7_couldStand : GoodIn wsX7_close (wsV RX7 270 RX7 yX7_couldStand wsX7_couldStand) := goodIn_app (goodIn_of _ (by decide +kernel)) ggX7_close_X7_couldStand
set_option maxRecDepth 20000 in
theorem ggX7_close_X7_bits : GoodIn wsX7_close wsX7_bits := goodIn_r _ [54] (by decide +kernel) (by decide +kernel)
set_option maxRecDepth 20000 in
theorem gX7_close_X7_bits : GoodIn wsX7_close (va_wsS RX7 205 yX7_bits wsX7_bits) := goodIn_app (goodIn_of _ (by decide +kernel)) ggX7_close_X7_bits
set_option maxRecDepth 20000 in
theorem ggX7_close_X7_ranks : GoodIn wsX7_close wsX7_ranks := goodIn_r _ [58, 3, 59, 15, 84, 85, 86, 87, 88, 89, 90, 91, 92, 93, 94, 95, 96, 97, 98, 99, 100, 101, 102, 103, 104, 105, 106, 107, 108, 109, 110, 111, 112, 113, 114, 115, 116, 117, 118, 119, 120, 121, 122, 123, 124, 125, 126, 127, 128, 129, 130, 131, 132, 133, 134] (by decide +kernel) (by decide +kernel)
set_option maxRecDepth 20000 in
theorem gX7_close_X7_ranks : GoodIn wsX7_close (wsV RX7 246 RX7 yX7_ranks wsX7_ranks) := goodIn_app (goodIn_of _ (by decide +kernel)) ggX7_close_X7_ranks
set_option maxRecDepth 20000 in
theorem ggX7_close_X7_loses : GoodIn wsX7_close wsX7_loses := goodIn_r _ [63, 10, 12, 14, 64, 27, 37, 65, 59, 66, 67, 68, 69, 19, 70, 3, 71, 28, 72, 73, 74, 75, 31, 76, 8, 6, 52, 53, 54, 84, 85, 86, 87, 88, 89, 90, 91, 92, 93, 94, 95, 96, 97, 98, 99, 100, 101, 102, 103, 104, 105, 106, 107, 108, 109, 110, 111, 112, 113, 114, 115, 116, 117, 118, 119, 120, 121, 122, 123, 124, 125, 126, 127, 128, 129, 130, 131, 132, 133, 134] (by decide +kernel) (by decide +kernel)
set_option maxRecDepth 20000 in
theorem gX7_close_X7_loses : GoodIn wsX7_close (wsV RX7 273 RX7 yX7_loses wsX7_loses) := goodIn_app (goodIn_of _ (by decide +kernel)) ggX7_close_X7_loses
set_option maxRecDepth 20000 in
theorem ggX7_close_X7_rests : GoodIn wsX7_close wsX7_rests := goodIn_r _ [80, 9, 11, 81, 82, 83, 5, 84, 85, 86, 87, 88, 89, 90, 91, 92, 93, 94, 95, 96, 97, 98, 99, 100, 101, 102, 103, 104, 105, 106, 107, 108, 109, 110, 111, 112, 113, 114, 115, 116, 117, 118, 119, 120, 121, 122, 123, 124, 125, 126, 127, 128, 129, 130, 131, 132, 133, 134] (by decide +kernel) (by decide +kernel)
set_option maxRecDepth 20000 in
theorem gX7_close_X7_rests : GoodIn wsX7_close (wsV RX7 243 RX7 yX7_rests wsX7_rests) := goodIn_app (goodIn_of _ (by decide +kernel)) ggX7_close_X7_rests
theorem dX7_close_0 : decode cX7_close 0 = .ok (.aload_n 0, 1) := by decide +kernel
theorem dX7_close_1 : decode cX7_close 1 = .ok (.iconst 0, 1) := by decide +kernel
theorem dX7_close_2 : decode cX7_close 2 = .ok (.putfield 127, 3) := by decide +kernel
theorem dX7_close_5 : decode cX7_close 5 = .ok (.aload_n 0, 1) := by decide +kernel
theorem dX7_close_6 : decode cX7_close 6 = .ok (.aload_n 0, 1) := by decide +kernel
theorem dX7_close_7 : decode cX7_close 7 = .ok (.getfield 214, 3) := by decide +kernel
theorem dX7_close_10 : decode cX7_close 10 = .ok (.iconst 3, 1) := by decide +kernel
theorem dX7_close_11 : decode cX7_close 11 = .ok (.if_icmp .eq 7, 3) := by decide +kernel
theorem dX7_close_14 : decode cX7_close 14 = .ok (.iconst 1, 1) := by decide +kernel
theorem dX7_close_15 : decode cX7_close 15 = .ok (.goto 4, 3) := by decide +kernel
theorem dX7_close_18 : decode cX7_close 18 = .ok (.iconst 0, 1) := by decide +kernel
theorem dX7_close_19 : decode cX7_close 19 = .ok (.iconst 1, 1) := by decide +kernel
theorem dX7_close_20 : decode cX7_close 20 = .ok (.invokevirtual 227, 3) := by decide +kernel
theorem dX7_close_23 : decode cX7_close 23 = .ok (.ifCond .eq 5, 3) := by decide +kernel
theorem dX7_close_26 : decode cX7_close 26 = .ok (.iconst 0, 1) := by decide +kernel
theorem dX7_close_27 : decode cX7_close 27 = .ok (.ireturn, 1) := by decide +kernel
theorem dX7_close_28 : decode cX7_close 28 = .ok (.iconst 0, 1) := by decide +kernel
theorem dX7_close_29 : decode cX7_close 29 = .ok (.istore_n 1, 1) := by decide +kernel
theorem dX7_close_30 : decode cX7_close 30 = .ok (.iload_n 1, 1) := by decide +kernel
theorem dX7_close_31 : decode cX7_close 31 = .ok (.aload_n 0, 1) := by decide +kernel
theorem dX7_close_32 : decode cX7_close 32 = .ok (.getfield 131, 3) := by decide +kernel
theorem dX7_close_35 : decode cX7_close 35 = .ok (.if_icmp .ge 24, 3) := by decide +kernel
theorem dX7_close_38 : decode cX7_close 38 = .ok (.aload_n 0, 1) := by decide +kernel
theorem dX7_close_39 : decode cX7_close 39 = .ok (.getfield 87, 3) := by decide +kernel
theorem dX7_close_42 : decode cX7_close 42 = .ok (.iload_n 1, 1) := by decide +kernel
theorem dX7_close_43 : decode cX7_close 43 = .ok (.baload, 1) := by decide +kernel
theorem dX7_close_44 : decode cX7_close 44 = .ok (.ifCond .eq 9, 3) := by decide +kernel
theorem dX7_close_47 : decode cX7_close 47 = .ok (.aload_n 0, 1) := by decide +kernel
theorem dX7_close_48 : decode cX7_close 48 = .ok (.iload_n 1, 1) := by decide +kernel
theorem dX7_close_49 : decode cX7_close 49 = .ok (.invokevirtual 258, 3) := by decide +kernel
theorem dX7_close_52 : decode cX7_close 52 = .ok (.pop, 1) := by decide +kernel
theorem dX7_close_53 : decode cX7_close 53 = .ok (.iinc 1 1, 3) := by decide +kernel
theorem dX7_close_56 : decode cX7_close 56 = .ok (.goto (-26), 3) := by decide +kernel
theorem dX7_close_59 : decode cX7_close 59 = .ok (.iconst 0, 1) := by decide +kernel
theorem dX7_close_60 : decode cX7_close 60 = .ok (.istore_n 1, 1) := by decide +kernel
theorem dX7_close_61 : decode cX7_close 61 = .ok (.iload_n 1, 1) := by decide +kernel
theorem dX7_close_62 : decode cX7_close 62 = .ok (.aload_n 0, 1) := by decide +kernel
theorem dX7_close_63 : decode cX7_close 63 = .ok (.getfield 131, 3) := by decide +kernel
theorem dX7_close_66 : decode cX7_close 66 = .ok (.if_icmp .ge 174, 3) := by decide +kernel
theorem dX7_close_69 : decode cX7_close 69 = .ok (.aload_n 0, 1) := by decide +kernel
theorem dX7_close_70 : decode cX7_close 70 = .ok (.getfield 84, 3) := by decide +kernel
theorem dX7_close_73 : decode cX7_close 73 = .ok (.iload_n 1, 1) := by decide +kernel
theorem dX7_close_74 : decode cX7_close 74 = .ok (.baload, 1) := by decide +kernel
theorem dX7_close_75 : decode cX7_close 75 = .ok (.ifCond .eq 15, 3) := by decide +kernel
theorem dX7_close_78 : decode cX7_close 78 = .ok (.aload_n 0, 1) := by decide +kernel
theorem dX7_close_79 : decode cX7_close 79 = .ok (.getfield 105, 3) := by decide +kernel
theorem dX7_close_82 : decode cX7_close 82 = .ok (.iload_n 1, 1) := by decide +kernel
theorem dX7_close_83 : decode cX7_close 83 = .ok (.aload_n 0, 1) := by decide +kernel
theorem dX7_close_84 : decode cX7_close 84 = .ok (.getfield 240, 3) := by decide +kernel
theorem dX7_close_87 : decode cX7_close 87 = .ok (.iconst 1, 1) := by decide +kernel
theorem dX7_close_88 : decode cX7_close 88 = .ok (.isub, 1) := by decide +kernel
theorem dX7_close_89 : decode cX7_close 89 = .ok (.iastore, 1) := by decide +kernel
theorem dX7_close_90 : decode cX7_close 90 = .ok (.aload_n 0, 1) := by decide +kernel
theorem dX7_close_91 : decode cX7_close 91 = .ok (.getfield 99, 3) := by decide +kernel
theorem dX7_close_94 : decode cX7_close 94 = .ok (.iload_n 1, 1) := by decide +kernel
theorem dX7_close_95 : decode cX7_close 95 = .ok (.aload_n 0, 1) := by decide +kernel
theorem dX7_close_96 : decode cX7_close 96 = .ok (.getfield 99, 3) := by decide +kernel
theorem dX7_close_99 : decode cX7_close 99 = .ok (.iload_n 1, 1) := by decide +kernel
theorem dX7_close_100 : decode cX7_close 100 = .ok (.iaload, 1) := by decide +kernel
theorem dX7_close_101 : decode cX7_close 101 = .ok (.iconst 1, 1) := by decide +kernel
theorem dX7_close_102 : decode cX7_close 102 = .ok (.ishl, 1) := by decide +kernel
theorem dX7_close_103 : decode cX7_close 103 = .ok (.aload_n 0, 1) := by decide +kernel
theorem dX7_close_104 : decode cX7_close 104 = .ok (.getfield 69, 3) := by decide +kernel
theorem dX7_close_107 : decode cX7_close 107 = .ok (.iload_n 1, 1) := by decide +kernel
theorem dX7_close_108 : decode cX7_close 108 = .ok (.baload, 1) := by decide +kernel
theorem dX7_close_109 : decode cX7_close 109 = .ok (.ifCond .eq 7, 3) := by decide +kernel
theorem dX7_close_112 : decode cX7_close 112 = .ok (.iconst 1, 1) := by decide +kernel
theorem dX7_close_113 : decode cX7_close 113 = .ok (.goto 4, 3) := by decide +kernel
theorem dX7_close_116 : decode cX7_close 116 = .ok (.iconst 0, 1) := by decide +kernel
theorem dX7_close_117 : decode cX7_close 117 = .ok (.ior, 1) := by decide +kernel
theorem dX7_close_118 : decode cX7_close 118 = .ok (.sipush 255, 3) := by decide +kernel
theorem dX7_close_121 : decode cX7_close 121 = .ok (.iand, 1) := by decide +kernel
theorem dX7_close_122 : decode cX7_close 122 = .ok (.iastore, 1) := by decide +kernel
theorem dX7_close_123 : decode cX7_close 123 = .ok (.aload_n 0, 1) := by decide +kernel
theorem dX7_close_124 : decode cX7_close 124 = .ok (.getfield 42, 3) := by decide +kernel
theorem dX7_close_127 : decode cX7_close 127 = .ok (.iload_n 1, 1) := by decide +kernel
theorem dX7_close_128 : decode cX7_close 128 = .ok (.baload, 1) := by decide +kernel
theorem dX7_close_129 : decode cX7_close 129 = .ok (.ifCond .eq 15, 3) := by decide +kernel
theorem dX7_close_132 : decode cX7_close 132 = .ok (.aload_n 0, 1) := by decide +kernel
theorem dX7_close_133 : decode cX7_close 133 = .ok (.iload_n 1, 1) := by decide +kernel
theorem dX7_close_134 : decode cX7_close 134 = .ok (.invokevirtual 270, 3) := by decide +kernel
theorem dX7_close_137 : decode cX7_close 137 = .ok (.ifCond .eq 7, 3) := by decide +kernel
theorem dX7_close_140 : decode cX7_close 140 = .ok (.iconst 1, 1) := by decide +kernel
theorem dX7_close_141 : decode cX7_close 141 = .ok (.goto 4, 3) := by decide +kernel
theorem dX7_close_144 : decode cX7_close 144 = .ok (.iconst 0, 1) := by decide +kernel
theorem dX7_close_145 : decode cX7_close 145 = .ok (.istore_n 2, 1) := by decide +kernel
theorem dX7_close_146 : decode cX7_close 146 = .ok (.iload_n 2, 1) := by decide +kernel
theorem dX7_close_147 : decode cX7_close 147 = .ok (.ifCond .eq 25, 3) := by decide +kernel
theorem dX7_close_150 : decode cX7_close 150 = .ok (.aload_n 0, 1) := by decide +kernel
theorem dX7_close_151 : decode cX7_close 151 = .ok (.getfield 69, 3) := by decide +kernel
theorem dX7_close_154 : decode cX7_close 154 = .ok (.iload_n 1, 1) := by decide +kernel
theorem dX7_close_155 : decode cX7_close 155 = .ok (.baload, 1) := by decide +kernel
theorem dX7_close_156 : decode cX7_close 156 = .ok (.ifCond .ne 16, 3) := by decide +kernel
theorem dX7_close_159 : decode cX7_close 159 = .ok (.aload_n 0, 1) := by decide +kernel
theorem dX7_close_160 : decode cX7_close 160 = .ok (.getfield 72, 3) := by decide +kernel
theorem dX7_close_163 : decode cX7_close 163 = .ok (.iload_n 1, 1) := by decide +kernel
theorem dX7_close_164 : decode cX7_close 164 = .ok (.baload, 1) := by decide +kernel
theorem dX7_close_165 : decode cX7_close 165 = .ok (.ifCond .ne 7, 3) := by decide +kernel
theorem dX7_close_168 : decode cX7_close 168 = .ok (.iconst 1, 1) := by decide +kernel
theorem dX7_close_169 : decode cX7_close 169 = .ok (.goto 4, 3) := by decide +kernel
theorem dX7_close_172 : decode cX7_close 172 = .ok (.iconst 0, 1) := by decide +kernel
theorem dX7_close_173 : decode cX7_close 173 = .ok (.istore_n 3, 1) := by decide +kernel
theorem dX7_close_174 : decode cX7_close 174 = .ok (.iload_n 2, 1) := by decide +kernel
theorem dX7_close_175 : decode cX7_close 175 = .ok (.ifCond .eq 31, 3) := by decide +kernel
theorem dX7_close_178 : decode cX7_close 178 = .ok (.aload_n 0, 1) := by decide +kernel
theorem dX7_close_179 : decode cX7_close 179 = .ok (.getfield 102, 3) := by decide +kernel
theorem dX7_close_182 : decode cX7_close 182 = .ok (.iload_n 1, 1) := by decide +kernel
theorem dX7_close_183 : decode cX7_close 183 = .ok (.aload_n 0, 1) := by decide +kernel
theorem dX7_close_184 : decode cX7_close 184 = .ok (.getfield 102, 3) := by decide +kernel
theorem dX7_close_187 : decode cX7_close 187 = .ok (.iload_n 1, 1) := by decide +kernel
theorem dX7_close_188 : decode cX7_close 188 = .ok (.iaload, 1) := by decide +kernel
theorem dX7_close_189 : decode cX7_close 189 = .ok (.iconst 1, 1) := by decide +kernel
theorem dX7_close_190 : decode cX7_close 190 = .ok (.ishl, 1) := by decide +kernel
theorem dX7_close_191 : decode cX7_close 191 = .ok (.iload_n 3, 1) := by decide +kernel
theorem dX7_close_192 : decode cX7_close 192 = .ok (.ifCond .eq 7, 3) := by decide +kernel
theorem dX7_close_195 : decode cX7_close 195 = .ok (.iconst 1, 1) := by decide +kernel
theorem dX7_close_196 : decode cX7_close 196 = .ok (.goto 4, 3) := by decide +kernel
theorem dX7_close_199 : decode cX7_close 199 = .ok (.iconst 0, 1) := by decide +kernel
theorem dX7_close_200 : decode cX7_close 200 = .ok (.ior, 1) := by decide +kernel
theorem dX7_close_201 : decode cX7_close 201 = .ok (.sipush 255, 3) := by decide +kernel
theorem dX7_close_204 : decode cX7_close 204 = .ok (.iand, 1) := by decide +kernel
theorem dX7_close_205 : decode cX7_close 205 = .ok (.iastore, 1) := by decide +kernel
theorem dX7_close_206 : decode cX7_close 206 = .ok (.aload_n 0, 1) := by decide +kernel
theorem dX7_close_207 : decode cX7_close 207 = .ok (.getfield 124, 3) := by decide +kernel
theorem dX7_close_210 : decode cX7_close 210 = .ok (.iload_n 1, 1) := by decide +kernel
theorem dX7_close_211 : decode cX7_close 211 = .ok (.iload_n 3, 1) := by decide +kernel
theorem dX7_close_212 : decode cX7_close 212 = .ok (.ifCond .eq 20, 3) := by decide +kernel
theorem dX7_close_215 : decode cX7_close 215 = .ok (.aload_n 0, 1) := by decide +kernel
theorem dX7_close_216 : decode cX7_close 216 = .ok (.getfield 102, 3) := by decide +kernel
theorem dX7_close_219 : decode cX7_close 219 = .ok (.iload_n 1, 1) := by decide +kernel
theorem dX7_close_220 : decode cX7_close 220 = .ok (.iaload, 1) := by decide +kernel
theorem dX7_close_221 : decode cX7_close 221 = .ok (.invokestatic 205, 3) := by decide +kernel
theorem dX7_close_224 : decode cX7_close 224 = .ok (.iconst 2, 1) := by decide +kernel
theorem dX7_close_225 : decode cX7_close 225 = .ok (.if_icmp .le 7, 3) := by decide +kernel
theorem dX7_close_228 : decode cX7_close 228 = .ok (.iconst 1, 1) := by decide +kernel
theorem dX7_close_229 : decode cX7_close 229 = .ok (.goto 4, 3) := by decide +kernel
theorem dX7_close_232 : decode cX7_close 232 = .ok (.iconst 0, 1) := by decide +kernel
theorem dX7_close_233 : decode cX7_close 233 = .ok (.bastore, 1) := by decide +kernel
theorem dX7_close_234 : decode cX7_close 234 = .ok (.iinc 1 1, 3) := by decide +kernel
theorem dX7_close_237 : decode cX7_close 237 = .ok (.goto (-176), 3) := by decide +kernel
theorem dX7_close_240 : decode cX7_close 240 = .ok (.aload_n 0, 1) := by decide +kernel
theorem dX7_close_241 : decode cX7_close 241 = .ok (.getfield 261, 3) := by decide +kernel
theorem dX7_close_244 : decode cX7_close 244 = .ok (.istore_n 1, 1) := by decide +kernel
theorem dX7_close_245 : decode cX7_close 245 = .ok (.aload_n 0, 1) := by decide +kernel
theorem dX7_close_246 : decode cX7_close 246 = .ok (.invokevirtual 246, 3) := by decide +kernel
theorem dX7_close_249 : decode cX7_close 249 = .ok (.iconst 0, 1) := by decide +kernel
theorem dX7_close_250 : decode cX7_close 250 = .ok (.istore_n 2, 1) := by decide +kernel
theorem dX7_close_251 : decode cX7_close 251 = .ok (.iload_n 2, 1) := by decide +kernel
theorem dX7_close_252 : decode cX7_close 252 = .ok (.aload_n 0, 1) := by decide +kernel
theorem dX7_close_253 : decode cX7_close 253 = .ok (.getfield 131, 3) := by decide +kernel
theorem dX7_close_256 : decode cX7_close 256 = .ok (.if_icmp .ge 33, 3) := by decide +kernel
theorem dX7_close_259 : decode cX7_close 259 = .ok (.aload_n 0, 1) := by decide +kernel
theorem dX7_close_260 : decode cX7_close 260 = .ok (.getfield 124, 3) := by decide +kernel
theorem dX7_close_263 : decode cX7_close 263 = .ok (.aload_n 0, 1) := by decide +kernel
theorem dX7_close_264 : decode cX7_close 264 = .ok (.getfield 121, 3) := by decide +kernel
theorem dX7_close_267 : decode cX7_close 267 = .ok (.iload_n 2, 1) := by decide +kernel
theorem dX7_close_268 : decode cX7_close 268 = .ok (.iaload, 1) := by decide +kernel
theorem dX7_close_269 : decode cX7_close 269 = .ok (.baload, 1) := by decide +kernel
theorem dX7_close_270 : decode cX7_close 270 = .ok (.ifCond .eq 13, 3) := by decide +kernel
theorem dX7_close_273 : decode cX7_close 273 = .ok (.aload_n 0, 1) := by decide +kernel
theorem dX7_close_274 : decode cX7_close 274 = .ok (.aload_n 0, 1) := by decide +kernel
theorem dX7_close_275 : decode cX7_close 275 = .ok (.getfield 121, 3) := by decide +kernel
theorem dX7_close_278 : decode cX7_close 278 = .ok (.iload_n 2, 1) := by decide +kernel
theorem dX7_close_279 : decode cX7_close 279 = .ok (.iaload, 1) := by decide +kernel
theorem dX7_close_280 : decode cX7_close 280 = .ok (.invokevirtual 273, 3) := by decide +kernel
theorem dX7_close_283 : decode cX7_close 283 = .ok (.iinc 2 1, 3) := by decide +kernel
theorem dX7_close_286 : decode cX7_close 286 = .ok (.goto (-35), 3) := by decide +kernel
theorem dX7_close_289 : decode cX7_close 289 = .ok (.aload_n 0, 1) := by decide +kernel
theorem dX7_close_290 : decode cX7_close 290 = .ok (.invokevirtual 243, 3) := by decide +kernel
theorem dX7_close_293 : decode cX7_close 293 = .ok (.aload_n 0, 1) := by decide +kernel
theorem dX7_close_294 : decode cX7_close 294 = .ok (.iconst 0, 1) := by decide +kernel
theorem dX7_close_295 : decode cX7_close 295 = .ok (.putfield 214, 3) := by decide +kernel
theorem dX7_close_298 : decode cX7_close 298 = .ok (.aload_n 0, 1) := by decide +kernel
theorem dX7_close_299 : decode cX7_close 299 = .ok (.getfield 261, 3) := by decide +kernel
theorem dX7_close_302 : decode cX7_close 302 = .ok (.iload_n 1, 1) := by decide +kernel
theorem dX7_close_303 : decode cX7_close 303 = .ok (.isub, 1) := by decide +kernel
theorem dX7_close_304 : decode cX7_close 304 = .ok (.ireturn, 1) := by decide +kernel
set_option maxRecDepth 20000 in
theorem ggX7_pay_X7_noTrader : GoodIn wsX7_pay wsX7_noTrader := goodIn_r _ [8, 9, 14, 15, 16, 17, 18, 19, 20, 21, 22, 23, 24, 25, 26, 27, 28, 29, 30, 31, 32, 33, 34, 35, 36, 37, 38, 39, 40, 41, 42, 43, 44, 45, 46, 47, 48, 49, 50, 51, 52, 53, 54, 55, 56, 57, 58, 59, 60, 61, 62, 63, 64] (by decide +kernel) (by decide +kernel)
set_option maxRecDepth 20000 in
theorem gX7_pay_X7_noTrader : GoodIn wsX7_pay (wsV RX7 237 RX7 yX7_noTrader wsX7_noTrader) := goodIn_app (goodIn_of _ (by decide +kernel)) ggX7_pay_X7_noTrader
set_option maxRecDepth 20000 in
theorem ggX7_pay_X7_throwsIf : GoodIn wsX7_pay wsX7_throwsIf := goodIn_r _ [13, 1, 14, 15, 16, 17, 18, 19, 20, 21, 22, 23, 24, 25, 26, 27, 28, 29, 30, 31, 32, 33, 34, 35, 36, 37, 38, 39, 40, 41, 42, 43, 44, 45, 46, 47, 48, 49, 50, 51, 52, 53, 54, 55, 56, 57, 58, 59, 60, 61, 62, 63, 64] (by decide +kernel) (by decide +kernel)
set_option maxRecDepth 20000 in
theorem gX7_pay_X7_throwsIf : GoodIn wsX7_pay (wsV RX7 227 RX7 yX7_throwsIf wsX7_throwsIf) := goodIn_app (goodIn_of _ (by decide +kernel)) ggX7_pay_X7_throwsIf
theorem dX7_pay_0 : decode cX7_pay 0 = .ok (.aload_n 0, 1) := by decide +kernel
theorem dX7_pay_1 : decode cX7_pay 1 = .ok (.iconst 0, 1) := by decide +kernel
theorem dX7_pay_2 : decode cX7_pay 2 = .ok (.putfield 127, 3) := by decide +kernel
theorem dX7_pay_5 : decode cX7_pay 5 = .ok (.aload_n 0, 1) := by decide +kernel
theorem dX7_pay_6 : decode cX7_pay 6 = .ok (.aload_n 0, 1) := by decide +kernel
theorem dX7_pay_7 : decode cX7_pay 7 = .ok (.iload_n 1, 1) := by decide +kernel
theorem dX7_pay_8 : decode cX7_pay 8 = .ok (.invokevirtual 237, 3) := by decide +kernel
theorem dX7_pay_11 : decode cX7_pay 11 = .ok (.iconst 1, 1) := by decide +kernel
theorem dX7_pay_12 : decode cX7_pay 12 = .ok (.invokevirtual 227, 3) := by decide +kernel
theorem dX7_pay_15 : decode cX7_pay 15 = .ok (.ifCond .ne 33, 3) := by decide +kernel
theorem dX7_pay_18 : decode cX7_pay 18 = .ok (.aload_n 0, 1) := by decide +kernel
theorem dX7_pay_19 : decode cX7_pay 19 = .ok (.lload_n 2, 1) := by decide +kernel
theorem dX7_pay_20 : decode cX7_pay 20 = .ok (.lconst 1, 1) := by decide +kernel
theorem dX7_pay_21 : decode cX7_pay 21 = .ok (.lcmp, 1) := by decide +kernel
theorem dX7_pay_22 : decode cX7_pay 22 = .ok (.ifCond .lt 14, 3) := by decide +kernel
theorem dX7_pay_25 : decode cX7_pay 25 = .ok (.lload_n 2, 1) := by decide +kernel
theorem dX7_pay_26 : decode cX7_pay 26 = .ok (.aload_n 0, 1) := by decide +kernel
theorem dX7_pay_27 : decode cX7_pay 27 = .ok (.getfield 108, 3) := by decide +kernel
theorem dX7_pay_30 : decode cX7_pay 30 = .ok (.iload_n 1, 1) := by decide +kernel
theorem dX7_pay_31 : decode cX7_pay 31 = .ok (.laload, 1) := by decide +kernel
theorem dX7_pay_32 : decode cX7_pay 32 = .ok (.lcmp, 1) := by decide +kernel
theorem dX7_pay_33 : decode cX7_pay 33 = .ok (.ifCond .le 7, 3) := by decide +kernel
theorem dX7_pay_36 : decode cX7_pay 36 = .ok (.iconst 1, 1) := by decide +kernel
theorem dX7_pay_37 : decode cX7_pay 37 = .ok (.goto 4, 3) := by decide +kernel
theorem dX7_pay_40 : decode cX7_pay 40 = .ok (.iconst 0, 1) := by decide +kernel
theorem dX7_pay_41 : decode cX7_pay 41 = .ok (.iconst 2, 1) := by decide +kernel
theorem dX7_pay_42 : decode cX7_pay 42 = .ok (.invokevirtual 227, 3) := by decide +kernel
theorem dX7_pay_45 : decode cX7_pay 45 = .ok (.ifCond .eq 5, 3) := by decide +kernel
theorem dX7_pay_48 : decode cX7_pay 48 = .ok (.lconst 0, 1) := by decide +kernel
theorem dX7_pay_49 : decode cX7_pay 49 = .ok (.lreturn, 1) := by decide +kernel
theorem dX7_pay_50 : decode cX7_pay 50 = .ok (.aload_n 0, 1) := by decide +kernel
theorem dX7_pay_51 : decode cX7_pay 51 = .ok (.getfield 108, 3) := by decide +kernel
theorem dX7_pay_54 : decode cX7_pay 54 = .ok (.iload_n 1, 1) := by decide +kernel
theorem dX7_pay_55 : decode cX7_pay 55 = .ok (.dup2, 1) := by decide +kernel
theorem dX7_pay_56 : decode cX7_pay 56 = .ok (.laload, 1) := by decide +kernel
theorem dX7_pay_57 : decode cX7_pay 57 = .ok (.lload_n 2, 1) := by decide +kernel
theorem dX7_pay_58 : decode cX7_pay 58 = .ok (.lsub, 1) := by decide +kernel
theorem dX7_pay_59 : decode cX7_pay 59 = .ok (.lastore, 1) := by decide +kernel
theorem dX7_pay_60 : decode cX7_pay 60 = .ok (.aload_n 0, 1) := by decide +kernel
theorem dX7_pay_61 : decode cX7_pay 61 = .ok (.dup, 1) := by decide +kernel
theorem dX7_pay_62 : decode cX7_pay 62 = .ok (.getfield 276, 3) := by decide +kernel
theorem dX7_pay_65 : decode cX7_pay 65 = .ok (.lload_n 2, 1) := by decide +kernel
theorem dX7_pay_66 : decode cX7_pay 66 = .ok (.ladd, 1) := by decide +kernel
theorem dX7_pay_67 : decode cX7_pay 67 = .ok (.putfield 276, 3) := by decide +kernel
theorem dX7_pay_70 : decode cX7_pay 70 = .ok (.aload_n 0, 1) := by decide +kernel
theorem dX7_pay_71 : decode cX7_pay 71 = .ok (.getfield 108, 3) := by decide +kernel
theorem dX7_pay_74 : decode cX7_pay 74 = .ok (.iload_n 1, 1) := by decide +kernel
theorem dX7_pay_75 : decode cX7_pay 75 = .ok (.laload, 1) := by decide +kernel
theorem dX7_pay_76 : decode cX7_pay 76 = .ok (.lreturn, 1) := by decide +kernel
theorem dX7_one_0 : decode cX7_one 0 = .ok (.iload_n 0, 1) := by decide +kernel
theorem dX7_one_1 : decode cX7_one 1 = .ok (.ifCond .eq 7, 3) := by decide +kernel
theorem dX7_one_4 : decode cX7_one 4 = .ok (.iconst 1, 1) := by decide +kernel
theorem dX7_one_5 : decode cX7_one 5 = .ok (.goto 4, 3) := by decide +kernel
theorem dX7_one_8 : decode cX7_one 8 = .ok (.iconst 0, 1) := by decide +kernel
theorem dX7_one_9 : decode cX7_one 9 = .ok (.ireturn, 1) := by decide +kernel
set_option maxRecDepth 20000 in
theorem ggX7_look_X7_noTrader : GoodIn wsX7_look wsX7_noTrader := goodIn_r _ [27, 28, 39, 40, 41, 42, 43, 44, 45, 46, 47, 48, 49, 50, 51, 52, 53, 54, 55, 56, 57, 58, 59, 60, 61, 62, 63, 64, 65, 66, 67, 68, 69, 70, 71, 72, 73, 74, 75, 76, 77, 78, 79, 80, 81, 82, 83, 84, 85, 86, 87, 88, 89] (by decide +kernel) (by decide +kernel)
set_option maxRecDepth 20000 in
theorem gX7_look_X7_noTrader : GoodIn wsX7_look (wsV RX7 237 RX7 yX7_noTrader wsX7_noTrader) := goodIn_app (goodIn_of _ (by decide +kernel)) ggX7_look_X7_noTrader
set_option maxRecDepth 20000 in
theorem ggX7_look_X7_throwsIf : GoodIn wsX7_look wsX7_throwsIf := goodIn_r _ [32, 1, 39, 40, 41, 42, 43, 44, 45, 46, 47, 48, 49, 50, 51, 52, 53, 54, 55, 56, 57, 58, 59, 60, 61, 62, 63, 64, 65, 66, 67, 68, 69, 70, 71, 72, 73, 74, 75, 76, 77, 78, 79, 80, 81, 82, 83, 84, 85, 86, 87, 88, 89] (by decide +kernel) (by decide +kernel)
set_option maxRecDepth 20000 in
theorem gX7_look_X7_throwsIf : GoodIn wsX7_look (wsV RX7 227 RX7 yX7_throwsIf wsX7_throwsIf) := goodIn_app (goodIn_of _ (by decide +kernel)) ggX7_look_X7_throwsIf
set_option maxRecDepth 20000 in
theorem ggX7_look_X7_one : GoodIn wsX7_look wsX7_one := goodIn_r _ [35] (by decide +kernel) (by decide +kernel)
set_option maxRecDepth 20000 in
theorem gX7_look_X7_one : GoodIn wsX7_look (va_wsS RX7 279 yX7_one wsX7_one) := goodIn_app (goodIn_of _ (by decide +kernel)) ggX7_look_X7_one
set_option maxRecDepth 20000 in
theorem ggX7_look_X7_bits : GoodIn wsX7_look wsX7_bits := goodIn_r _ [38] (by decide +kernel) (by decide +kernel)
set_option maxRecDepth 20000 in
theorem gX7_look_X7_bits : GoodIn wsX7_look (va_wsS RX7 205 yX7_bits wsX7_bits) := goodIn_app (goodIn_of _ (by decide +kernel)) ggX7_look_X7_bits
theorem dX7_look_0 : decode cX7_look 0 = .ok (.aload_n 0, 1) := by decide +kernel
theorem dX7_look_1 : decode cX7_look 1 = .ok (.iconst 0, 1) := by decide +kernel
theorem dX7_look_2 : decode cX7_look 2 = .ok (.putfield 127, 3) := by decide +kernel
theorem dX7_look_5 : decode cX7_look 5 = .ok (.aload_n 0, 1) := by decide +kernel
theorem dX7_look_6 : decode cX7_look 6 = .ok (.aload_n 0, 1) := by decide +kernel
theorem dX7_look_7 : decode cX7_look 7 = .ok (.iload_n 1, 1) := by decide +kernel
theorem dX7_look_8 : decode cX7_look 8 = .ok (.invokevirtual 237, 3) := by decide +kernel
theorem dX7_look_11 : decode cX7_look 11 = .ok (.iconst 1, 1) := by decide +kernel
theorem dX7_look_12 : decode cX7_look 12 = .ok (.invokevirtual 227, 3) := by decide +kernel
theorem dX7_look_15 : decode cX7_look 15 = .ok (.ifCond .eq 5, 3) := by decide +kernel
theorem dX7_look_18 : decode cX7_look 18 = .ok (.iconst 0, 1) := by decide +kernel
theorem dX7_look_19 : decode cX7_look 19 = .ok (.ireturn, 1) := by decide +kernel
theorem dX7_look_20 : decode cX7_look 20 = .ok (.iload_n 2, 1) := by decide +kernel
theorem dX7_look_21 : decode cX7_look 21 = .ok (.tableswitch 294 0 16 #[83, 90, 97, 104, 111, 142, 173, 183, 210, 220, 230, 240, 250, 257, 267, 274, 284], 83) := by decide +kernel
theorem dX7_look_104 : decode cX7_look 104 = .ok (.aload_n 0, 1) := by decide +kernel
theorem dX7_look_105 : decode cX7_look 105 = .ok (.getfield 30, 3) := by decide +kernel
theorem dX7_look_108 : decode cX7_look 108 = .ok (.iload_n 1, 1) := by decide +kernel
theorem dX7_look_109 : decode cX7_look 109 = .ok (.iaload, 1) := by decide +kernel
theorem dX7_look_110 : decode cX7_look 110 = .ok (.ireturn, 1) := by decide +kernel
theorem dX7_look_111 : decode cX7_look 111 = .ok (.aload_n 0, 1) := by decide +kernel
theorem dX7_look_112 : decode cX7_look 112 = .ok (.getfield 33, 3) := by decide +kernel
theorem dX7_look_115 : decode cX7_look 115 = .ok (.iload_n 1, 1) := by decide +kernel
theorem dX7_look_116 : decode cX7_look 116 = .ok (.iaload, 1) := by decide +kernel
theorem dX7_look_117 : decode cX7_look 117 = .ok (.ireturn, 1) := by decide +kernel
theorem dX7_look_118 : decode cX7_look 118 = .ok (.aload_n 0, 1) := by decide +kernel
theorem dX7_look_119 : decode cX7_look 119 = .ok (.getfield 36, 3) := by decide +kernel
theorem dX7_look_122 : decode cX7_look 122 = .ok (.iload_n 1, 1) := by decide +kernel
theorem dX7_look_123 : decode cX7_look 123 = .ok (.iaload, 1) := by decide +kernel
theorem dX7_look_124 : decode cX7_look 124 = .ok (.ireturn, 1) := by decide +kernel
theorem dX7_look_125 : decode cX7_look 125 = .ok (.aload_n 0, 1) := by decide +kernel
theorem dX7_look_126 : decode cX7_look 126 = .ok (.getfield 39, 3) := by decide +kernel
theorem dX7_look_129 : decode cX7_look 129 = .ok (.iload_n 1, 1) := by decide +kernel
theorem dX7_look_130 : decode cX7_look 130 = .ok (.iaload, 1) := by decide +kernel
theorem dX7_look_131 : decode cX7_look 131 = .ok (.ireturn, 1) := by decide +kernel
theorem dX7_look_132 : decode cX7_look 132 = .ok (.aload_n 0, 1) := by decide +kernel
theorem dX7_look_133 : decode cX7_look 133 = .ok (.getfield 42, 3) := by decide +kernel
theorem dX7_look_136 : decode cX7_look 136 = .ok (.iload_n 1, 1) := by decide +kernel
theorem dX7_look_137 : decode cX7_look 137 = .ok (.baload, 1) := by decide +kernel
theorem dX7_look_138 : decode cX7_look 138 = .ok (.ifCond .eq 23, 3) := by decide +kernel
theorem dX7_look_141 : decode cX7_look 141 = .ok (.sipush 200, 3) := by decide +kernel
theorem dX7_look_144 : decode cX7_look 144 = .ok (.aload_n 0, 1) := by decide +kernel
theorem dX7_look_145 : decode cX7_look 145 = .ok (.getfield 45, 3) := by decide +kernel
theorem dX7_look_148 : decode cX7_look 148 = .ok (.iload_n 1, 1) := by decide +kernel
theorem dX7_look_149 : decode cX7_look 149 = .ok (.iaload, 1) := by decide +kernel
theorem dX7_look_150 : decode cX7_look 150 = .ok (.imul, 1) := by decide +kernel
theorem dX7_look_151 : decode cX7_look 151 = .ok (.aload_n 0, 1) := by decide +kernel
theorem dX7_look_152 : decode cX7_look 152 = .ok (.getfield 48, 3) := by decide +kernel
theorem dX7_look_155 : decode cX7_look 155 = .ok (.iload_n 1, 1) := by decide +kernel
theorem dX7_look_156 : decode cX7_look 156 = .ok (.iaload, 1) := by decide +kernel
theorem dX7_look_157 : decode cX7_look 157 = .ok (.iadd, 1) := by decide +kernel
theorem dX7_look_158 : decode cX7_look 158 = .ok (.goto 4, 3) := by decide +kernel
theorem dX7_look_161 : decode cX7_look 161 = .ok (.iconst (-1), 1) := by decide +kernel
theorem dX7_look_162 : decode cX7_look 162 = .ok (.ireturn, 1) := by decide +kernel
theorem dX7_look_163 : decode cX7_look 163 = .ok (.aload_n 0, 1) := by decide +kernel
theorem dX7_look_164 : decode cX7_look 164 = .ok (.getfield 87, 3) := by decide +kernel
theorem dX7_look_167 : decode cX7_look 167 = .ok (.iload_n 1, 1) := by decide +kernel
theorem dX7_look_168 : decode cX7_look 168 = .ok (.baload, 1) := by decide +kernel
theorem dX7_look_169 : decode cX7_look 169 = .ok (.ifCond .eq 23, 3) := by decide +kernel
theorem dX7_look_172 : decode cX7_look 172 = .ok (.sipush 200, 3) := by decide +kernel
theorem dX7_look_175 : decode cX7_look 175 = .ok (.aload_n 0, 1) := by decide +kernel
theorem dX7_look_176 : decode cX7_look 176 = .ok (.getfield 90, 3) := by decide +kernel
theorem dX7_look_179 : decode cX7_look 179 = .ok (.iload_n 1, 1) := by decide +kernel
theorem dX7_look_180 : decode cX7_look 180 = .ok (.iaload, 1) := by decide +kernel
theorem dX7_look_181 : decode cX7_look 181 = .ok (.imul, 1) := by decide +kernel
theorem dX7_look_182 : decode cX7_look 182 = .ok (.aload_n 0, 1) := by decide +kernel
theorem dX7_look_183 : decode cX7_look 183 = .ok (.getfield 93, 3) := by decide +kernel
theorem dX7_look_186 : decode cX7_look 186 = .ok (.iload_n 1, 1) := by decide +kernel
theorem dX7_look_187 : decode cX7_look 187 = .ok (.iaload, 1) := by decide +kernel
theorem dX7_look_188 : decode cX7_look 188 = .ok (.iadd, 1) := by decide +kernel
theorem dX7_look_189 : decode cX7_look 189 = .ok (.goto 4, 3) := by decide +kernel
theorem dX7_look_192 : decode cX7_look 192 = .ok (.iconst (-1), 1) := by decide +kernel
theorem dX7_look_193 : decode cX7_look 193 = .ok (.ireturn, 1) := by decide +kernel
theorem dX7_look_194 : decode cX7_look 194 = .ok (.aload_n 0, 1) := by decide +kernel
theorem dX7_look_195 : decode cX7_look 195 = .ok (.getfield 69, 3) := by decide +kernel
theorem dX7_look_198 : decode cX7_look 198 = .ok (.iload_n 1, 1) := by decide +kernel
theorem dX7_look_199 : decode cX7_look 199 = .ok (.baload, 1) := by decide +kernel
theorem dX7_look_200 : decode cX7_look 200 = .ok (.invokestatic 279, 3) := by decide +kernel
theorem dX7_look_203 : decode cX7_look 203 = .ok (.ireturn, 1) := by decide +kernel
theorem dX7_look_204 : decode cX7_look 204 = .ok (.aload_n 0, 1) := by decide +kernel
theorem dX7_look_205 : decode cX7_look 205 = .ok (.getfield 72, 3) := by decide +kernel
theorem dX7_look_208 : decode cX7_look 208 = .ok (.iload_n 1, 1) := by decide +kernel
theorem dX7_look_209 : decode cX7_look 209 = .ok (.baload, 1) := by decide +kernel
theorem dX7_look_210 : decode cX7_look 210 = .ok (.ifCond .eq 16, 3) := by decide +kernel
theorem dX7_look_213 : decode cX7_look 213 = .ok (.aload_n 0, 1) := by decide +kernel
theorem dX7_look_214 : decode cX7_look 214 = .ok (.getfield 69, 3) := by decide +kernel
theorem dX7_look_217 : decode cX7_look 217 = .ok (.iload_n 1, 1) := by decide +kernel
theorem dX7_look_218 : decode cX7_look 218 = .ok (.baload, 1) := by decide +kernel
theorem dX7_look_219 : decode cX7_look 219 = .ok (.ifCond .ne 7, 3) := by decide +kernel
theorem dX7_look_222 : decode cX7_look 222 = .ok (.iconst 1, 1) := by decide +kernel
theorem dX7_look_223 : decode cX7_look 223 = .ok (.goto 4, 3) := by decide +kernel
theorem dX7_look_226 : decode cX7_look 226 = .ok (.iconst 0, 1) := by decide +kernel
theorem dX7_look_227 : decode cX7_look 227 = .ok (.invokestatic 279, 3) := by decide +kernel
theorem dX7_look_230 : decode cX7_look 230 = .ok (.ireturn, 1) := by decide +kernel
theorem dX7_look_231 : decode cX7_look 231 = .ok (.aload_n 0, 1) := by decide +kernel
theorem dX7_look_232 : decode cX7_look 232 = .ok (.getfield 75, 3) := by decide +kernel
theorem dX7_look_235 : decode cX7_look 235 = .ok (.iload_n 1, 1) := by decide +kernel
theorem dX7_look_236 : decode cX7_look 236 = .ok (.baload, 1) := by decide +kernel
theorem dX7_look_237 : decode cX7_look 237 = .ok (.invokestatic 279, 3) := by decide +kernel
theorem dX7_look_240 : decode cX7_look 240 = .ok (.ireturn, 1) := by decide +kernel
theorem dX7_look_241 : decode cX7_look 241 = .ok (.aload_n 0, 1) := by decide +kernel
theorem dX7_look_242 : decode cX7_look 242 = .ok (.getfield 78, 3) := by decide +kernel
theorem dX7_look_245 : decode cX7_look 245 = .ok (.iload_n 1, 1) := by decide +kernel
theorem dX7_look_246 : decode cX7_look 246 = .ok (.baload, 1) := by decide +kernel
theorem dX7_look_247 : decode cX7_look 247 = .ok (.invokestatic 279, 3) := by decide +kernel
theorem dX7_look_250 : decode cX7_look 250 = .ok (.ireturn, 1) := by decide +kernel
theorem dX7_look_251 : decode cX7_look 251 = .ok (.aload_n 0, 1) := by decide +kernel
theorem dX7_look_252 : decode cX7_look 252 = .ok (.getfield 81, 3) := by decide +kernel
theorem dX7_look_255 : decode cX7_look 255 = .ok (.iload_n 1, 1) := by decide +kernel
theorem dX7_look_256 : decode cX7_look 256 = .ok (.baload, 1) := by decide +kernel
theorem dX7_look_257 : decode cX7_look 257 = .ok (.invokestatic 279, 3) := by decide +kernel
theorem dX7_look_260 : decode cX7_look 260 = .ok (.ireturn, 1) := by decide +kernel
theorem dX7_look_261 : decode cX7_look 261 = .ok (.aload_n 0, 1) := by decide +kernel
theorem dX7_look_262 : decode cX7_look 262 = .ok (.getfield 99, 3) := by decide +kernel
theorem dX7_look_265 : decode cX7_look 265 = .ok (.iload_n 1, 1) := by decide +kernel
theorem dX7_look_266 : decode cX7_look 266 = .ok (.iaload, 1) := by decide +kernel
theorem dX7_look_267 : decode cX7_look 267 = .ok (.invokestatic 205, 3) := by decide +kernel
theorem dX7_look_270 : decode cX7_look 270 = .ok (.ireturn, 1) := by decide +kernel
theorem dX7_look_271 : decode cX7_look 271 = .ok (.aload_n 0, 1) := by decide +kernel
theorem dX7_look_272 : decode cX7_look 272 = .ok (.getfield 105, 3) := by decide +kernel
theorem dX7_look_275 : decode cX7_look 275 = .ok (.iload_n 1, 1) := by decide +kernel
theorem dX7_look_276 : decode cX7_look 276 = .ok (.iaload, 1) := by decide +kernel
theorem dX7_look_277 : decode cX7_look 277 = .ok (.ireturn, 1) := by decide +kernel
theorem dX7_look_278 : decode cX7_look 278 = .ok (.aload_n 0, 1) := by decide +kernel
theorem dX7_look_279 : decode cX7_look 279 = .ok (.getfield 102, 3) := by decide +kernel
theorem dX7_look_282 : decode cX7_look 282 = .ok (.iload_n 1, 1) := by decide +kernel
theorem dX7_look_283 : decode cX7_look 283 = .ok (.iaload, 1) := by decide +kernel
theorem dX7_look_284 : decode cX7_look 284 = .ok (.invokestatic 205, 3) := by decide +kernel
theorem dX7_look_287 : decode cX7_look 287 = .ok (.ireturn, 1) := by decide +kernel
theorem dX7_look_288 : decode cX7_look 288 = .ok (.aload_n 0, 1) := by decide +kernel
theorem dX7_look_289 : decode cX7_look 289 = .ok (.getfield 60, 3) := by decide +kernel
theorem dX7_look_292 : decode cX7_look 292 = .ok (.iload_n 1, 1) := by decide +kernel
theorem dX7_look_293 : decode cX7_look 293 = .ok (.iaload, 1) := by decide +kernel
theorem dX7_look_294 : decode cX7_look 294 = .ok (.ireturn, 1) := by decide +kernel
theorem dX7_look_295 : decode cX7_look 295 = .ok (.aload_n 0, 1) := by decide +kernel
theorem dX7_look_296 : decode cX7_look 296 = .ok (.getfield 63, 3) := by decide +kernel
theorem dX7_look_299 : decode cX7_look 299 = .ok (.iload_n 1, 1) := by decide +kernel
theorem dX7_look_300 : decode cX7_look 300 = .ok (.baload, 1) := by decide +kernel
theorem dX7_look_301 : decode cX7_look 301 = .ok (.invokestatic 279, 3) := by decide +kernel
theorem dX7_look_304 : decode cX7_look 304 = .ok (.ireturn, 1) := by decide +kernel
theorem dX7_look_305 : decode cX7_look 305 = .ok (.aload_n 0, 1) := by decide +kernel
theorem dX7_look_306 : decode cX7_look 306 = .ok (.getfield 66, 3) := by decide +kernel
theorem dX7_look_309 : decode cX7_look 309 = .ok (.iload_n 1, 1) := by decide +kernel
theorem dX7_look_310 : decode cX7_look 310 = .ok (.baload, 1) := by decide +kernel
theorem dX7_look_311 : decode cX7_look 311 = .ok (.invokestatic 279, 3) := by decide +kernel
theorem dX7_look_314 : decode cX7_look 314 = .ok (.ireturn, 1) := by decide +kernel
theorem dX7_look_315 : decode cX7_look 315 = .ok (.aload_n 0, 1) := by decide +kernel
theorem dX7_look_316 : decode cX7_look 316 = .ok (.iconst 2, 1) := by decide +kernel
theorem dX7_look_317 : decode cX7_look 317 = .ok (.putfield 127, 3) := by decide +kernel
theorem dX7_look_320 : decode cX7_look 320 = .ok (.iconst 0, 1) := by decide +kernel
theorem dX7_look_321 : decode cX7_look 321 = .ok (.ireturn, 1) := by decide +kernel
set_option maxRecDepth 20000 in
theorem ggX7_owed_X7_noTrader : GoodIn wsX7_owed wsX7_noTrader := goodIn_r _ [7, 8, 13, 14, 15, 16, 17, 18, 19, 20, 21, 22, 23, 24, 25, 26, 27, 28, 29, 30, 31, 32, 33, 34, 35, 36, 37, 38, 39, 40, 41, 42, 43, 44, 45, 46, 47, 48, 49, 50, 51, 52, 53, 54, 55, 56, 57, 58, 59, 60, 61, 62, 63] (by decide +kernel) (by decide +kernel)
set_option maxRecDepth 20000 in
theorem gX7_owed_X7_noTrader : GoodIn wsX7_owed (wsV RX7 237 RX7 yX7_noTrader wsX7_noTrader) := goodIn_app (goodIn_of _ (by decide +kernel)) ggX7_owed_X7_noTrader
set_option maxRecDepth 20000 in
theorem ggX7_owed_X7_throwsIf : GoodIn wsX7_owed wsX7_throwsIf := goodIn_r _ [12, 1, 13, 14, 15, 16, 17, 18, 19, 20, 21, 22, 23, 24, 25, 26, 27, 28, 29, 30, 31, 32, 33, 34, 35, 36, 37, 38, 39, 40, 41, 42, 43, 44, 45, 46, 47, 48, 49, 50, 51, 52, 53, 54, 55, 56, 57, 58, 59, 60, 61, 62, 63] (by decide +kernel) (by decide +kernel)
set_option maxRecDepth 20000 in
theorem gX7_owed_X7_throwsIf : GoodIn wsX7_owed (wsV RX7 227 RX7 yX7_throwsIf wsX7_throwsIf) := goodIn_app (goodIn_of _ (by decide +kernel)) ggX7_owed_X7_throwsIf
theorem dX7_owed_0 : decode cX7_owed 0 = .ok (.aload_n 0, 1) := by decide +kernel
theorem dX7_owed_1 : decode cX7_owed 1 = .ok (.iconst 0, 1) := by decide +kernel
theorem dX7_owed_2 : decode cX7_owed 2 = .ok (.putfield 127, 3) := by decide +kernel
theorem dX7_owed_5 : decode cX7_owed 5 = .ok (.aload_n 0, 1) := by decide +kernel
theorem dX7_owed_6 : decode cX7_owed 6 = .ok (.aload_n 0, 1) := by decide +kernel
theorem dX7_owed_7 : decode cX7_owed 7 = .ok (.iload_n 1, 1) := by decide +kernel
theorem dX7_owed_8 : decode cX7_owed 8 = .ok (.invokevirtual 237, 3) := by decide +kernel
theorem dX7_owed_11 : decode cX7_owed 11 = .ok (.iconst 1, 1) := by decide +kernel
theorem dX7_owed_12 : decode cX7_owed 12 = .ok (.invokevirtual 227, 3) := by decide +kernel
theorem dX7_owed_15 : decode cX7_owed 15 = .ok (.ifCond .eq 7, 3) := by decide +kernel
theorem dX7_owed_18 : decode cX7_owed 18 = .ok (.lconst 0, 1) := by decide +kernel
theorem dX7_owed_19 : decode cX7_owed 19 = .ok (.goto 9, 3) := by decide +kernel
theorem dX7_owed_22 : decode cX7_owed 22 = .ok (.aload_n 0, 1) := by decide +kernel
theorem dX7_owed_23 : decode cX7_owed 23 = .ok (.getfield 108, 3) := by decide +kernel
theorem dX7_owed_26 : decode cX7_owed 26 = .ok (.iload_n 1, 1) := by decide +kernel
theorem dX7_owed_27 : decode cX7_owed 27 = .ok (.laload, 1) := by decide +kernel
theorem dX7_owed_28 : decode cX7_owed 28 = .ok (.lreturn, 1) := by decide +kernel
set_option maxRecDepth 20000 in
theorem ggX7_stall_X7_endOf : GoodIn wsX7_stall wsX7_endOf := goodIn_r _ [10, 5, 11, 12, 13, 14, 15, 16, 17, 18, 19, 20, 21, 22, 23, 24, 25, 26, 27, 28, 29, 30, 31, 32, 33, 34, 35, 36, 37, 38, 39, 40, 41, 42, 43, 44, 45, 46, 47, 48, 49, 50, 51, 52, 53, 54, 55, 56, 57, 58, 59, 60, 61, 62] (by decide +kernel) (by decide +kernel)
set_option maxRecDepth 20000 in
theorem gX7_stall_X7_endOf : GoodIn wsX7_stall (wsV RX7 144 RX7 yX7_endOf wsX7_endOf) := goodIn_app (goodIn_of _ (by decide +kernel)) ggX7_stall_X7_endOf
theorem dX7_stall_0 : decode cX7_stall 0 = .ok (.aload_n 0, 1) := by decide +kernel
theorem dX7_stall_1 : decode cX7_stall 1 = .ok (.iconst 0, 1) := by decide +kernel
theorem dX7_stall_2 : decode cX7_stall 2 = .ok (.putfield 127, 3) := by decide +kernel
theorem dX7_stall_5 : decode cX7_stall 5 = .ok (.iconst (-1), 1) := by decide +kernel
theorem dX7_stall_6 : decode cX7_stall 6 = .ok (.istore_n 3, 1) := by decide +kernel
theorem dX7_stall_7 : decode cX7_stall 7 = .ok (.iconst 0, 1) := by decide +kernel
theorem dX7_stall_8 : decode cX7_stall 8 = .ok (.istore 4, 2) := by decide +kernel
theorem dX7_stall_10 : decode cX7_stall 10 = .ok (.iload 4, 2) := by decide +kernel
theorem dX7_stall_12 : decode cX7_stall 12 = .ok (.aload_n 0, 1) := by decide +kernel
theorem dX7_stall_13 : decode cX7_stall 13 = .ok (.getfield 131, 3) := by decide +kernel
theorem dX7_stall_16 : decode cX7_stall 16 = .ok (.if_icmp .ge 54, 3) := by decide +kernel
theorem dX7_stall_19 : decode cX7_stall 19 = .ok (.aload_n 0, 1) := by decide +kernel
theorem dX7_stall_20 : decode cX7_stall 20 = .ok (.getfield 87, 3) := by decide +kernel
theorem dX7_stall_23 : decode cX7_stall 23 = .ok (.iload 4, 2) := by decide +kernel
theorem dX7_stall_25 : decode cX7_stall 25 = .ok (.baload, 1) := by decide +kernel
theorem dX7_stall_26 : decode cX7_stall 26 = .ok (.ifCond .eq 38, 3) := by decide +kernel
theorem dX7_stall_29 : decode cX7_stall 29 = .ok (.aload_n 0, 1) := by decide +kernel
theorem dX7_stall_30 : decode cX7_stall 30 = .ok (.getfield 90, 3) := by decide +kernel
theorem dX7_stall_33 : decode cX7_stall 33 = .ok (.iload 4, 2) := by decide +kernel
theorem dX7_stall_35 : decode cX7_stall 35 = .ok (.iaload, 1) := by decide +kernel
theorem dX7_stall_36 : decode cX7_stall 36 = .ok (.iload_n 1, 1) := by decide +kernel
theorem dX7_stall_37 : decode cX7_stall 37 = .ok (.if_icmp .ne 27, 3) := by decide +kernel
theorem dX7_stall_40 : decode cX7_stall 40 = .ok (.aload_n 0, 1) := by decide +kernel
theorem dX7_stall_41 : decode cX7_stall 41 = .ok (.getfield 93, 3) := by decide +kernel
theorem dX7_stall_44 : decode cX7_stall 44 = .ok (.iload 4, 2) := by decide +kernel
theorem dX7_stall_46 : decode cX7_stall 46 = .ok (.iaload, 1) := by decide +kernel
theorem dX7_stall_47 : decode cX7_stall 47 = .ok (.iload_n 2, 1) := by decide +kernel
theorem dX7_stall_48 : decode cX7_stall 48 = .ok (.if_icmp .gt 16, 3) := by decide +kernel
theorem dX7_stall_51 : decode cX7_stall 51 = .ok (.aload_n 0, 1) := by decide +kernel
theorem dX7_stall_52 : decode cX7_stall 52 = .ok (.iload 4, 2) := by decide +kernel
theorem dX7_stall_54 : decode cX7_stall 54 = .ok (.invokevirtual 144, 3) := by decide +kernel
theorem dX7_stall_57 : decode cX7_stall 57 = .ok (.iload_n 2, 1) := by decide +kernel
theorem dX7_stall_58 : decode cX7_stall 58 = .ok (.if_icmp .le 6, 3) := by decide +kernel
theorem dX7_stall_61 : decode cX7_stall 61 = .ok (.iload 4, 2) := by decide +kernel
theorem dX7_stall_63 : decode cX7_stall 63 = .ok (.istore_n 3, 1) := by decide +kernel
theorem dX7_stall_64 : decode cX7_stall 64 = .ok (.iinc 4 1, 3) := by decide +kernel
theorem dX7_stall_67 : decode cX7_stall 67 = .ok (.goto (-57), 3) := by decide +kernel
theorem dX7_stall_70 : decode cX7_stall 70 = .ok (.iload_n 3, 1) := by decide +kernel
theorem dX7_stall_71 : decode cX7_stall 71 = .ok (.ireturn, 1) := by decide +kernel
set_option maxRecDepth 20000 in
theorem ggX7_square_X7_noRow : GoodIn wsX7_square wsX7_noRow := goodIn_r _ [11] (by decide +kernel) (by decide +kernel)
set_option maxRecDepth 20000 in
theorem gX7_square_X7_noRow : GoodIn wsX7_square (va_wsS RX7 137 yX7_noRow wsX7_noRow) := goodIn_app (goodIn_of _ (by decide +kernel)) ggX7_square_X7_noRow
theorem dX7_square_0 : decode cX7_square 0 = .ok (.aload_n 0, 1) := by decide +kernel
theorem dX7_square_1 : decode cX7_square 1 = .ok (.iconst 0, 1) := by decide +kernel
theorem dX7_square_2 : decode cX7_square 2 = .ok (.putfield 127, 3) := by decide +kernel
theorem dX7_square_5 : decode cX7_square 5 = .ok (.iload_n 1, 1) := by decide +kernel
theorem dX7_square_6 : decode cX7_square 6 = .ok (.invokestatic 137, 3) := by decide +kernel
theorem dX7_square_9 : decode cX7_square 9 = .ok (.ifCond .ne 12, 3) := by decide +kernel
theorem dX7_square_12 : decode cX7_square 12 = .ok (.iload_n 2, 1) := by decide +kernel
theorem dX7_square_13 : decode cX7_square 13 = .ok (.ifCond .lt 8, 3) := by decide +kernel
theorem dX7_square_16 : decode cX7_square 16 = .ok (.iload_n 2, 1) := by decide +kernel
theorem dX7_square_17 : decode cX7_square 17 = .ok (.iconst 4, 1) := by decide +kernel
theorem dX7_square_18 : decode cX7_square 18 = .ok (.if_icmp .le 5, 3) := by decide +kernel
theorem dX7_square_21 : decode cX7_square 21 = .ok (.iconst (-1), 1) := by decide +kernel
theorem dX7_square_22 : decode cX7_square 22 = .ok (.ireturn, 1) := by decide +kernel
theorem dX7_square_23 : decode cX7_square 23 = .ok (.iload_n 2, 1) := by decide +kernel
theorem dX7_square_24 : decode cX7_square 24 = .ok (.ifCond .ne 10, 3) := by decide +kernel
theorem dX7_square_27 : decode cX7_square 27 = .ok (.aload_n 0, 1) := by decide +kernel
theorem dX7_square_28 : decode cX7_square 28 = .ok (.getfield 9, 3) := by decide +kernel
theorem dX7_square_31 : decode cX7_square 31 = .ok (.iload_n 1, 1) := by decide +kernel
theorem dX7_square_32 : decode cX7_square 32 = .ok (.iaload, 1) := by decide +kernel
theorem dX7_square_33 : decode cX7_square 33 = .ok (.ireturn, 1) := by decide +kernel
theorem dX7_square_34 : decode cX7_square 34 = .ok (.iconst 0, 1) := by decide +kernel
theorem dX7_square_35 : decode cX7_square 35 = .ok (.istore_n 3, 1) := by decide +kernel
theorem dX7_square_36 : decode cX7_square 36 = .ok (.iconst 0, 1) := by decide +kernel
theorem dX7_square_37 : decode cX7_square 37 = .ok (.istore 4, 2) := by decide +kernel
theorem dX7_square_39 : decode cX7_square 39 = .ok (.iload 4, 2) := by decide +kernel
theorem dX7_square_41 : decode cX7_square 41 = .ok (.aload_n 0, 1) := by decide +kernel
theorem dX7_square_42 : decode cX7_square 42 = .ok (.getfield 9, 3) := by decide +kernel
theorem dX7_square_45 : decode cX7_square 45 = .ok (.iload_n 1, 1) := by decide +kernel
theorem dX7_square_46 : decode cX7_square 46 = .ok (.iaload, 1) := by decide +kernel
theorem dX7_square_47 : decode cX7_square 47 = .ok (.if_icmp .ge 36, 3) := by decide +kernel
theorem dX7_square_50 : decode cX7_square 50 = .ok (.iload_n 2, 1) := by decide +kernel
theorem dX7_square_51 : decode cX7_square 51 = .ok (.iconst 4, 1) := by decide +kernel
theorem dX7_square_52 : decode cX7_square 52 = .ok (.if_icmp .ge 31, 3) := by decide +kernel
theorem dX7_square_55 : decode cX7_square 55 = .ok (.iload_n 3, 1) := by decide +kernel
theorem dX7_square_56 : decode cX7_square 56 = .ok (.aload_n 0, 1) := by decide +kernel
theorem dX7_square_57 : decode cX7_square 57 = .ok (.getfield 13, 3) := by decide +kernel
theorem dX7_square_60 : decode cX7_square 60 = .ok (.sipush 200, 3) := by decide +kernel
theorem dX7_square_63 : decode cX7_square 63 = .ok (.iload_n 1, 1) := by decide +kernel
theorem dX7_square_64 : decode cX7_square 64 = .ok (.imul, 1) := by decide +kernel
theorem dX7_square_65 : decode cX7_square 65 = .ok (.iload 4, 2) := by decide +kernel
theorem dX7_square_67 : decode cX7_square 67 = .ok (.iadd, 1) := by decide +kernel
theorem dX7_square_68 : decode cX7_square 68 = .ok (.baload, 1) := by decide +kernel
theorem dX7_square_69 : decode cX7_square 69 = .ok (.iload_n 2, 1) := by decide +kernel
theorem dX7_square_70 : decode cX7_square 70 = .ok (.iconst 1, 1) := by decide +kernel
theorem dX7_square_71 : decode cX7_square 71 = .ok (.isub, 1) := by decide +kernel
theorem dX7_square_72 : decode cX7_square 72 = .ok (.ishr, 1) := by decide +kernel
theorem dX7_square_73 : decode cX7_square 73 = .ok (.iconst 1, 1) := by decide +kernel
theorem dX7_square_74 : decode cX7_square 74 = .ok (.iand, 1) := by decide +kernel
theorem dX7_square_75 : decode cX7_square 75 = .ok (.iadd, 1) := by decide +kernel
theorem dX7_square_76 : decode cX7_square 76 = .ok (.istore_n 3, 1) := by decide +kernel
theorem dX7_square_77 : decode cX7_square 77 = .ok (.iinc 4 1, 3) := by decide +kernel
theorem dX7_square_80 : decode cX7_square 80 = .ok (.goto (-41), 3) := by decide +kernel
theorem dX7_square_83 : decode cX7_square 83 = .ok (.iconst 0, 1) := by decide +kernel
theorem dX7_square_84 : decode cX7_square 84 = .ok (.istore 4, 2) := by decide +kernel
theorem dX7_square_86 : decode cX7_square 86 = .ok (.iload 4, 2) := by decide +kernel
theorem dX7_square_88 : decode cX7_square 88 = .ok (.aload_n 0, 1) := by decide +kernel
theorem dX7_square_89 : decode cX7_square 89 = .ok (.getfield 131, 3) := by decide +kernel
theorem dX7_square_92 : decode cX7_square 92 = .ok (.if_icmp .ge 49, 3) := by decide +kernel
theorem dX7_square_95 : decode cX7_square 95 = .ok (.iload_n 2, 1) := by decide +kernel
theorem dX7_square_96 : decode cX7_square 96 = .ok (.iconst 4, 1) := by decide +kernel
theorem dX7_square_97 : decode cX7_square 97 = .ok (.if_icmp .ne 44, 3) := by decide +kernel
theorem dX7_square_100 : decode cX7_square 100 = .ok (.iload_n 3, 1) := by decide +kernel
theorem dX7_square_101 : decode cX7_square 101 = .ok (.aload_n 0, 1) := by decide +kernel
theorem dX7_square_102 : decode cX7_square 102 = .ok (.getfield 87, 3) := by decide +kernel
theorem dX7_square_105 : decode cX7_square 105 = .ok (.iload 4, 2) := by decide +kernel
theorem dX7_square_107 : decode cX7_square 107 = .ok (.baload, 1) := by decide +kernel
theorem dX7_square_108 : decode cX7_square 108 = .ok (.ifCond .eq 24, 3) := by decide +kernel
theorem dX7_square_111 : decode cX7_square 111 = .ok (.aload_n 0, 1) := by decide +kernel
theorem dX7_square_112 : decode cX7_square 112 = .ok (.getfield 90, 3) := by decide +kernel
theorem dX7_square_115 : decode cX7_square 115 = .ok (.iload 4, 2) := by decide +kernel
theorem dX7_square_117 : decode cX7_square 117 = .ok (.iaload, 1) := by decide +kernel
theorem dX7_square_118 : decode cX7_square 118 = .ok (.iload_n 1, 1) := by decide +kernel
theorem dX7_square_119 : decode cX7_square 119 = .ok (.if_icmp .ne 13, 3) := by decide +kernel
theorem dX7_square_122 : decode cX7_square 122 = .ok (.aload_n 0, 1) := by decide +kernel
theorem dX7_square_123 : decode cX7_square 123 = .ok (.getfield 36, 3) := by decide +kernel
theorem dX7_square_126 : decode cX7_square 126 = .ok (.iload 4, 2) := by decide +kernel
theorem dX7_square_128 : decode cX7_square 128 = .ok (.iaload, 1) := by decide +kernel
theorem dX7_square_129 : decode cX7_square 129 = .ok (.goto 4, 3) := by decide +kernel
theorem dX7_square_132 : decode cX7_square 132 = .ok (.iconst 0, 1) := by decide +kernel
theorem dX7_square_133 : decode cX7_square 133 = .ok (.iadd, 1) := by decide +kernel
theorem dX7_square_134 : decode cX7_square 134 = .ok (.istore_n 3, 1) := by decide +kernel
theorem dX7_square_135 : decode cX7_square 135 = .ok (.iinc 4 1, 3) := by decide +kernel
theorem dX7_square_138 : decode cX7_square 138 = .ok (.goto (-52), 3) := by decide +kernel
theorem dX7_square_141 : decode cX7_square 141 = .ok (.iload_n 3, 1) := by decide +kernel
theorem dX7_square_142 : decode cX7_square 142 = .ok (.ireturn, 1) := by decide +kernel
set_option maxRecDepth 20000 in
theorem ggX7_count_X7_one : GoodIn wsX7_count wsX7_one := goodIn_r _ [16] (by decide +kernel) (by decide +kernel)
set_option maxRecDepth 20000 in
theorem gX7_count_X7_one : GoodIn wsX7_count (va_wsS RX7 279 yX7_one wsX7_one) := goodIn_app (goodIn_of _ (by decide +kernel)) ggX7_count_X7_one
theorem dX7_count_0 : decode cX7_count 0 = .ok (.aload_n 0, 1) := by decide +kernel
theorem dX7_count_1 : decode cX7_count 1 = .ok (.iconst 0, 1) := by decide +kernel
theorem dX7_count_2 : decode cX7_count 2 = .ok (.putfield 127, 3) := by decide +kernel
theorem dX7_count_5 : decode cX7_count 5 = .ok (.iload_n 1, 1) := by decide +kernel
theorem dX7_count_6 : decode cX7_count 6 = .ok (.tableswitch 153 0 10 #[58, 64, 70, 76, 82, 88, 121, 131, 136, 141, 147], 58) := by decide +kernel
theorem dX7_count_64 : decode cX7_count 64 = .ok (.aload_n 0, 1) := by decide +kernel
theorem dX7_count_65 : decode cX7_count 65 = .ok (.getfield 134, 3) := by decide +kernel
theorem dX7_count_68 : decode cX7_count 68 = .ok (.i2l, 1) := by decide +kernel
theorem dX7_count_69 : decode cX7_count 69 = .ok (.lreturn, 1) := by decide +kernel
theorem dX7_count_70 : decode cX7_count 70 = .ok (.aload_n 0, 1) := by decide +kernel
theorem dX7_count_71 : decode cX7_count 71 = .ok (.getfield 131, 3) := by decide +kernel
theorem dX7_count_74 : decode cX7_count 74 = .ok (.i2l, 1) := by decide +kernel
theorem dX7_count_75 : decode cX7_count 75 = .ok (.lreturn, 1) := by decide +kernel
theorem dX7_count_76 : decode cX7_count 76 = .ok (.aload_n 0, 1) := by decide +kernel
theorem dX7_count_77 : decode cX7_count 77 = .ok (.getfield 214, 3) := by decide +kernel
theorem dX7_count_80 : decode cX7_count 80 = .ok (.i2l, 1) := by decide +kernel
theorem dX7_count_81 : decode cX7_count 81 = .ok (.lreturn, 1) := by decide +kernel
theorem dX7_count_82 : decode cX7_count 82 = .ok (.aload_n 0, 1) := by decide +kernel
theorem dX7_count_83 : decode cX7_count 83 = .ok (.getfield 240, 3) := by decide +kernel
theorem dX7_count_86 : decode cX7_count 86 = .ok (.i2l, 1) := by decide +kernel
theorem dX7_count_87 : decode cX7_count 87 = .ok (.lreturn, 1) := by decide +kernel
theorem dX7_count_88 : decode cX7_count 88 = .ok (.aload_n 0, 1) := by decide +kernel
theorem dX7_count_89 : decode cX7_count 89 = .ok (.getfield 220, 3) := by decide +kernel
theorem dX7_count_92 : decode cX7_count 92 = .ok (.i2l, 1) := by decide +kernel
theorem dX7_count_93 : decode cX7_count 93 = .ok (.lreturn, 1) := by decide +kernel
theorem dX7_count_94 : decode cX7_count 94 = .ok (.iconst 0, 1) := by decide +kernel
theorem dX7_count_95 : decode cX7_count 95 = .ok (.istore_n 2, 1) := by decide +kernel
theorem dX7_count_96 : decode cX7_count 96 = .ok (.iconst 0, 1) := by decide +kernel
theorem dX7_count_97 : decode cX7_count 97 = .ok (.istore_n 3, 1) := by decide +kernel
theorem dX7_count_98 : decode cX7_count 98 = .ok (.iload_n 3, 1) := by decide +kernel
theorem dX7_count_99 : decode cX7_count 99 = .ok (.aload_n 0, 1) := by decide +kernel
theorem dX7_count_100 : decode cX7_count 100 = .ok (.getfield 131, 3) := by decide +kernel
theorem dX7_count_103 : decode cX7_count 103 = .ok (.if_icmp .ge 21, 3) := by decide +kernel
theorem dX7_count_106 : decode cX7_count 106 = .ok (.iload_n 2, 1) := by decide +kernel
theorem dX7_count_107 : decode cX7_count 107 = .ok (.aload_n 0, 1) := by decide +kernel
theorem dX7_count_108 : decode cX7_count 108 = .ok (.getfield 87, 3) := by decide +kernel
theorem dX7_count_111 : decode cX7_count 111 = .ok (.iload_n 3, 1) := by decide +kernel
theorem dX7_count_112 : decode cX7_count 112 = .ok (.baload, 1) := by decide +kernel
theorem dX7_count_113 : decode cX7_count 113 = .ok (.invokestatic 279, 3) := by decide +kernel
theorem dX7_count_116 : decode cX7_count 116 = .ok (.iadd, 1) := by decide +kernel
theorem dX7_count_117 : decode cX7_count 117 = .ok (.istore_n 2, 1) := by decide +kernel
theorem dX7_count_118 : decode cX7_count 118 = .ok (.iinc 3 1, 3) := by decide +kernel
theorem dX7_count_121 : decode cX7_count 121 = .ok (.goto (-23), 3) := by decide +kernel
theorem dX7_count_124 : decode cX7_count 124 = .ok (.iload_n 2, 1) := by decide +kernel
theorem dX7_count_125 : decode cX7_count 125 = .ok (.i2l, 1) := by decide +kernel
theorem dX7_count_126 : decode cX7_count 126 = .ok (.lreturn, 1) := by decide +kernel
theorem dX7_count_127 : decode cX7_count 127 = .ok (.aload_n 0, 1) := by decide +kernel
theorem dX7_count_128 : decode cX7_count 128 = .ok (.getfield 223, 3) := by decide +kernel
theorem dX7_count_131 : decode cX7_count 131 = .ok (.aload_n 0, 1) := by decide +kernel
theorem dX7_count_132 : decode cX7_count 132 = .ok (.getfield 276, 3) := by decide +kernel
theorem dX7_count_135 : decode cX7_count 135 = .ok (.lsub, 1) := by decide +kernel
theorem dX7_count_136 : decode cX7_count 136 = .ok (.lreturn, 1) := by decide +kernel
theorem dX7_count_137 : decode cX7_count 137 = .ok (.aload_n 0, 1) := by decide +kernel
theorem dX7_count_138 : decode cX7_count 138 = .ok (.getfield 223, 3) := by decide +kernel
theorem dX7_count_141 : decode cX7_count 141 = .ok (.lreturn, 1) := by decide +kernel
theorem dX7_count_142 : decode cX7_count 142 = .ok (.aload_n 0, 1) := by decide +kernel
theorem dX7_count_143 : decode cX7_count 143 = .ok (.getfield 276, 3) := by decide +kernel
theorem dX7_count_146 : decode cX7_count 146 = .ok (.lreturn, 1) := by decide +kernel
theorem dX7_count_147 : decode cX7_count 147 = .ok (.aload_n 0, 1) := by decide +kernel
theorem dX7_count_148 : decode cX7_count 148 = .ok (.getfield 261, 3) := by decide +kernel
theorem dX7_count_151 : decode cX7_count 151 = .ok (.i2l, 1) := by decide +kernel
theorem dX7_count_152 : decode cX7_count 152 = .ok (.lreturn, 1) := by decide +kernel
theorem dX7_count_153 : decode cX7_count 153 = .ok (.aload_n 0, 1) := by decide +kernel
theorem dX7_count_154 : decode cX7_count 154 = .ok (.getfield 267, 3) := by decide +kernel
theorem dX7_count_157 : decode cX7_count 157 = .ok (.i2l, 1) := by decide +kernel
theorem dX7_count_158 : decode cX7_count 158 = .ok (.lreturn, 1) := by decide +kernel
theorem dX7_count_159 : decode cX7_count 159 = .ok (.ldc2_w 283, 3) := by decide +kernel
theorem dX7_count_162 : decode cX7_count 162 = .ok (.lreturn, 1) := by decide +kernel
