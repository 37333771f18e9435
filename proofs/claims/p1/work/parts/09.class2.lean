theorem wd_186 : Cond.fieldLink RX9 49 "BowlShelf$Told" "nests" "I" ∈ WALL := wl_in (by decide +kernel) (by decide +kernel)
theorem wd_187 : Cond.fieldLink RX9 52 "BowlShelf$Told" "lids" "I" ∈ WALL := wl_in (by decide +kernel) (by decide +kernel)
theorem wd_188 : Cond.fieldLink RX9 55 "BowlShelf$Told" "tops" "I" ∈ WALL := wl_in (by decide +kernel) (by decide +kernel)
theorem wd_189 : Cond.methodLink RX9 58 yJ7_fill_53178 ∈ WALL := wl_in (by decide +kernel) (by decide +kernel)
theorem wd_190 : Cond.fieldLink RX1 21 "BowlShelf$Nests" "size" "I" ∈ WALL := wl_in (by decide +kernel) (by decide +kernel)
theorem wd_191 : Cond.fieldLink RX1 25 "BowlShelf$Nests" "nests" "I" ∈ WALL := wl_in (by decide +kernel) (by decide +kernel)
theorem wd_192 : Cond.fieldLink RX8 15 "BowlShelf$Tape" "length" "I" ∈ WALL := wl_in (by decide +kernel) (by decide +kernel)
theorem wd_193 : Cond.fieldLink RX8 19 "BowlShelf$Tape" "next" "I" ∈ WALL := wl_in (by decide +kernel) (by decide +kernel)
theorem wd_194 : Cond.code yX8_pastBlanks cX8_pastBlanks 3 (some .int) ∈ WALL := wl_in (by decide +kernel) (by decide +kernel)
theorem wd_195 : Cond.methodLink RX8 25 yX8_pastBlanks ∈ WALL := wl_in (by decide +kernel) (by decide +kernel)
theorem wd_196 : Cond.instanceMethod yX8_pastBlanks ∈ WALL := wl_in (by decide +kernel) (by decide +kernel)
theorem wd_197 : Cond.selects RX8 yX8_pastBlanks yX8_pastBlanks ∈ WALL := wl_in (by decide +kernel) (by decide +kernel)
theorem wd_198 : Cond.fieldLink RX8 29 "BowlShelf$Tape" "place" "I" ∈ WALL := wl_in (by decide +kernel) (by decide +kernel)
theorem wd_199 : Cond.code yX8_pastRun cX8_pastRun 5 (some .int) ∈ WALL := wl_in (by decide +kernel) (by decide +kernel)
theorem wd_200 : Cond.methodLink RX8 32 yX8_pastRun ∈ WALL := wl_in (by decide +kernel) (by decide +kernel)
theorem wd_201 : Cond.instanceMethod yX8_pastRun ∈ WALL := wl_in (by decide +kernel) (by decide +kernel)
theorem wd_202 : Cond.selects RX8 yX8_pastRun yX8_pastRun ∈ WALL := wl_in (by decide +kernel) (by decide +kernel)
theorem wd_203 : Cond.fieldLink RX8 36 "BowlShelf$Tape" "kind" "I" ∈ WALL := wl_in (by decide +kernel) (by decide +kernel)
theorem wd_204 : Cond.code yX8_advance cX8_advance 3 none ∈ WALL := wl_in (by decide +kernel) (by decide +kernel)
theorem wd_205 : Cond.methodLink RX8 22 yX8_advance ∈ WALL := wl_in (by decide +kernel) (by decide +kernel)
theorem wd_206 : Cond.instanceMethod yX8_advance ∈ WALL := wl_in (by decide +kernel) (by decide +kernel)
theorem wd_207 : Cond.selects RX8 yX8_advance yX8_advance ∈ WALL := wl_in (by decide +kernel) (by decide +kernel)
theorem wd_208 : Cond.fieldLink RX5 66 "BowlShelf$Told" "mayOn" "[I" ∈ WALL := wl_in (by decide +kernel) (by decide +kernel)
theorem wd_209 : Cond.methodLink RX5 70 yJ7_fill_53178 ∈ WALL := wl_in (by decide +kernel) (by decide +kernel)
theorem wd_210 : Cond.fieldLink RX5 76 "BowlShelf$Told" "wares" "I" ∈ WALL := wl_in (by decide +kernel) (by decide +kernel)
theorem wd_211 : Cond.code yX9_empty cX9_empty 1 none ∈ WALL := wl_in (by decide +kernel) (by decide +kernel)
theorem wd_212 : Cond.methodLink RX5 39 yX9_empty ∈ WALL := wl_in (by decide +kernel) (by decide +kernel)
theorem wd_213 : Cond.instanceMethod yX9_empty ∈ WALL := wl_in (by decide +kernel) (by decide +kernel)
theorem wd_214 : Cond.selects RX9 yX9_empty yX9_empty ∈ WALL := wl_in (by decide +kernel) (by decide +kernel)
theorem wd_215 : Cond.code yX1_empty cX1_empty 1 none ∈ WALL := wl_in (by decide +kernel) (by decide +kernel)
theorem wd_216 : Cond.methodLink RX5 42 yX1_empty ∈ WALL := wl_in (by decide +kernel) (by decide +kernel)
theorem wd_217 : Cond.instanceMethod yX1_empty ∈ WALL := wl_in (by decide +kernel) (by decide +kernel)
theorem wd_218 : Cond.selects RX1 yX1_empty yX1_empty ∈ WALL := wl_in (by decide +kernel) (by decide +kernel)
theorem wd_219 : Cond.fieldLink RX5 43 "BowlShelf$Reader" "habits" "I" ∈ WALL := wl_in (by decide +kernel) (by decide +kernel)
theorem wd_220 : Cond.fieldLink RX5 47 "BowlShelf$Reader" "fault" "I" ∈ WALL := wl_in (by decide +kernel) (by decide +kernel)
theorem wd_221 : Cond.code yX8_start cX8_start 1 none ∈ WALL := wl_in (by decide +kernel) (by decide +kernel)
theorem wd_222 : Cond.methodLink RX5 50 yX8_start ∈ WALL := wl_in (by decide +kernel) (by decide +kernel)
theorem wd_223 : Cond.instanceMethod yX8_start ∈ WALL := wl_in (by decide +kernel) (by decide +kernel)
theorem wd_224 : Cond.selects RX8 yX8_start yX8_start ∈ WALL := wl_in (by decide +kernel) (by decide +kernel)
theorem wd_225 : Cond.fieldLink RX5 53 "BowlShelf$Tape" "kind" "I" ∈ WALL := wl_in (by decide +kernel) (by decide +kernel)
theorem wd_226 : Cond.fieldLink RX5 60 "BowlShelf$Tape" "length" "I" ∈ WALL := wl_in (by decide +kernel) (by decide +kernel)
theorem wd_227 : Cond.code yX5_findMay cX5_findMay 3 none ∈ WALL := wl_in (by decide +kernel) (by decide +kernel)
theorem wd_228 : Cond.methodLink RX5 63 yX5_findMay ∈ WALL := wl_in (by decide +kernel) (by decide +kernel)
theorem wd_229 : Cond.instanceMethod yX5_findMay ∈ WALL := wl_in (by decide +kernel) (by decide +kernel)
theorem wd_230 : Cond.selects RX5 yX5_findMay yX5_findMay ∈ WALL := wl_in (by decide +kernel) (by decide +kernel)
theorem wd_231 : Cond.fieldLink RX7 30 "BowlShelf$Standing" "askings" "I" ∈ WALL := wl_in (by decide +kernel) (by decide +kernel)
theorem wd_232 : Cond.fieldLink RX3 24 "BowlShelf$Told" "wares" "I" ∈ WALL := wl_in (by decide +kernel) (by decide +kernel)
theorem wd_233 : Cond.fieldLink RX3 30 "BowlShelf$Order" "wares" "I" ∈ WALL := wl_in (by decide +kernel) (by decide +kernel)
theorem wd_234 : Cond.fieldLink RX3 31 "BowlShelf$Order" "known" "Z" ∈ WALL := wl_in (by decide +kernel) (by decide +kernel)
theorem wd_235 : Cond.fieldLink RX3 35 "BowlShelf$Told" "mayOn" "[I" ∈ WALL := wl_in (by decide +kernel) (by decide +kernel)
theorem wd_236 : Cond.methodLink RX3 38 arraycopyName ∈ WALL := wl_in (by decide +kernel) (by decide +kernel)
theorem wd_237 : Cond.native arraycopyName ∈ WALL := wl_in (by decide +kernel) (by decide +kernel)
theorem wd_238 : Cond.static arraycopyName ∈ WALL := wl_in (by decide +kernel) (by decide +kernel)
theorem wd_239 : Cond.initialized "java/lang/System" ∈ WALL := wl_in (by decide +kernel) (by decide +kernel)
theorem wd_240 : Cond.code yX5_read cX5_read 3 (some .int) ∈ WALL := wl_in (by decide +kernel) (by decide +kernel)
theorem wd_241 : Cond.methodLink RX10 90 yX5_read ∈ WALL := wl_in (by decide +kernel) (by decide +kernel)
theorem wd_242 : Cond.instanceMethod yX5_read ∈ WALL := wl_in (by decide +kernel) (by decide +kernel)
theorem wd_243 : Cond.selects RX5 yX5_read yX5_read ∈ WALL := wl_in (by decide +kernel) (by decide +kernel)
theorem wd_244 : Cond.code yX5_exchange cX5_exchange 3 (some (.object "BowlShelf$Told")) ∈ WALL := wl_in (by decide +kernel) (by decide +kernel)
theorem wd_245 : Cond.methodLink RX10 94 yX5_exchange ∈ WALL := wl_in (by decide +kernel) (by decide +kernel)
theorem wd_246 : Cond.instanceMethod yX5_exchange ∈ WALL := wl_in (by decide +kernel) (by decide +kernel)
theorem wd_247 : Cond.selects RX5 yX5_exchange yX5_exchange ∈ WALL := wl_in (by decide +kernel) (by decide +kernel)
theorem wd_248 : Cond.code yX7_empty cX7_empty 1 none ∈ WALL := wl_in (by decide +kernel) (by decide +kernel)
theorem wd_249 : Cond.methodLink RX10 98 yX7_empty ∈ WALL := wl_in (by decide +kernel) (by decide +kernel)
theorem wd_250 : Cond.instanceMethod yX7_empty ∈ WALL := wl_in (by decide +kernel) (by decide +kernel)
theorem wd_251 : Cond.selects RX7 yX7_empty yX7_empty ∈ WALL := wl_in (by decide +kernel) (by decide +kernel)
theorem wd_252 : Cond.fieldLink RX10 101 "BowlShelf$Standing" "laid" "Z" ∈ WALL := wl_in (by decide +kernel) (by decide +kernel)
theorem wd_253 : Cond.code yX3_chain cX3_chain 4 none ∈ WALL := wl_in (by decide +kernel) (by decide +kernel)
theorem wd_254 : Cond.methodLink RX10 105 yX3_chain ∈ WALL := wl_in (by decide +kernel) (by decide +kernel)
theorem wd_255 : Cond.instanceMethod yX3_chain ∈ WALL := wl_in (by decide +kernel) (by decide +kernel)
theorem wd_256 : Cond.selects RX3 yX3_chain yX3_chain ∈ WALL := wl_in (by decide +kernel) (by decide +kernel)
theorem wd_257 : Cond.fieldLink RX10 109 "BowlShelf$Heights" "known" "Z" ∈ WALL := wl_in (by decide +kernel) (by decide +kernel)
theorem dX9_empty_0 : decode cX9_empty 0 = .ok (.aload_n 0, 1) := by decide +kernel
theorem dX9_empty_1 : decode cX9_empty 1 = .ok (.iconst 0, 1) := by decide +kernel
theorem dX9_empty_2 : decode cX9_empty 2 = .ok (.putfield 42, 3) := by decide +kernel
theorem dX9_empty_5 : decode cX9_empty 5 = .ok (.aload_n 0, 1) := by decide +kernel
theorem dX9_empty_6 : decode cX9_empty 6 = .ok (.iconst 0, 1) := by decide +kernel
theorem dX9_empty_7 : decode cX9_empty 7 = .ok (.putfield 46, 3) := by decide +kernel
theorem dX9_empty_10 : decode cX9_empty 10 = .ok (.aload_n 0, 1) := by decide +kernel
theorem dX9_empty_11 : decode cX9_empty 11 = .ok (.iconst 0, 1) := by decide +kernel
theorem dX9_empty_12 : decode cX9_empty 12 = .ok (.putfield 49, 3) := by decide +kernel
theorem dX9_empty_15 : decode cX9_empty 15 = .ok (.aload_n 0, 1) := by decide +kernel
theorem dX9_empty_16 : decode cX9_empty 16 = .ok (.iconst 0, 1) := by decide +kernel
theorem dX9_empty_17 : decode cX9_empty 17 = .ok (.putfield 52, 3) := by decide +kernel
theorem dX9_empty_20 : decode cX9_empty 20 = .ok (.aload_n 0, 1) := by decide +kernel
theorem dX9_empty_21 : decode cX9_empty 21 = .ok (.iconst 0, 1) := by decide +kernel
theorem dX9_empty_22 : decode cX9_empty 22 = .ok (.putfield 55, 3) := by decide +kernel
theorem dX9_empty_25 : decode cX9_empty 25 = .ok (.aload_n 0, 1) := by decide +kernel
theorem dX9_empty_26 : decode cX9_empty 26 = .ok (.getfield 27, 3) := by decide +kernel
theorem dX9_empty_29 : decode cX9_empty 29 = .ok (.iconst 0, 1) := by decide +kernel
theorem dX9_empty_30 : decode cX9_empty 30 = .ok (.invokestatic 58, 3) := by decide +kernel
theorem dX9_empty_33 : decode cX9_empty 33 = .ok (.return_, 1) := by decide +kernel
theorem dX1_empty_0 : decode cX1_empty 0 = .ok (.aload_n 0, 1) := by decide +kernel
theorem dX1_empty_1 : decode cX1_empty 1 = .ok (.iconst 0, 1) := by decide +kernel
theorem dX1_empty_2 : decode cX1_empty 2 = .ok (.putfield 21, 3) := by decide +kernel
theorem dX1_empty_5 : decode cX1_empty 5 = .ok (.aload_n 0, 1) := by decide +kernel
theorem dX1_empty_6 : decode cX1_empty 6 = .ok (.iconst 0, 1) := by decide +kernel
theorem dX1_empty_7 : decode cX1_empty 7 = .ok (.putfield 25, 3) := by decide +kernel
theorem dX1_empty_10 : decode cX1_empty 10 = .ok (.return_, 1) := by decide +kernel
theorem dX8_pastBlanks_0 : decode cX8_pastBlanks 0 = .ok (.iload_n 1, 1) := by decide +kernel
theorem dX8_pastBlanks_1 : decode cX8_pastBlanks 1 = .ok (.istore_n 2, 1) := by decide +kernel
theorem dX8_pastBlanks_2 : decode cX8_pastBlanks 2 = .ok (.iload_n 2, 1) := by decide +kernel
theorem dX8_pastBlanks_3 : decode cX8_pastBlanks 3 = .ok (.aload_n 0, 1) := by decide +kernel
theorem dX8_pastBlanks_4 : decode cX8_pastBlanks 4 = .ok (.getfield 15, 3) := by decide +kernel
theorem dX8_pastBlanks_7 : decode cX8_pastBlanks 7 = .ok (.if_icmp .ge 31, 3) := by decide +kernel
theorem dX8_pastBlanks_38 : decode cX8_pastBlanks 38 = .ok (.iload_n 2, 1) := by decide +kernel
theorem dX8_pastBlanks_39 : decode cX8_pastBlanks 39 = .ok (.ireturn, 1) := by decide +kernel
theorem dX8_pastRun_0 : decode cX8_pastRun 0 = .ok (.iload_n 1, 1) := by decide +kernel
theorem dX8_pastRun_1 : decode cX8_pastRun 1 = .ok (.istore 4, 2) := by decide +kernel
theorem dX8_pastRun_3 : decode cX8_pastRun 3 = .ok (.iload 4, 2) := by decide +kernel
theorem dX8_pastRun_5 : decode cX8_pastRun 5 = .ok (.aload_n 0, 1) := by decide +kernel
theorem dX8_pastRun_6 : decode cX8_pastRun 6 = .ok (.getfield 15, 3) := by decide +kernel
theorem dX8_pastRun_9 : decode cX8_pastRun 9 = .ok (.if_icmp .ge 31, 3) := by decide +kernel
theorem dX8_pastRun_40 : decode cX8_pastRun 40 = .ok (.iload 4, 2) := by decide +kernel
theorem dX8_pastRun_42 : decode cX8_pastRun 42 = .ok (.ireturn, 1) := by decide +kernel
theorem dX8_advance_0 : decode cX8_advance 0 = .ok (.aload_n 0, 1) := by decide +kernel
theorem dX8_advance_1 : decode cX8_advance 1 = .ok (.aload_n 0, 1) := by decide +kernel
theorem dX8_advance_2 : decode cX8_advance 2 = .ok (.aload_n 0, 1) := by decide +kernel
theorem dX8_advance_3 : decode cX8_advance 3 = .ok (.getfield 19, 3) := by decide +kernel
theorem dX8_advance_6 : decode cX8_advance 6 = .ok (.invokevirtual 25, 3) := by decide +kernel
theorem dX8_advance_9 : decode cX8_advance 9 = .ok (.putfield 29, 3) := by decide +kernel
theorem dX8_advance_12 : decode cX8_advance 12 = .ok (.aload_n 0, 1) := by decide +kernel
theorem dX8_advance_13 : decode cX8_advance 13 = .ok (.aload_n 0, 1) := by decide +kernel
theorem dX8_advance_14 : decode cX8_advance 14 = .ok (.getfield 29, 3) := by decide +kernel
theorem dX8_advance_17 : decode cX8_advance 17 = .ok (.bipush 97, 2) := by decide +kernel
theorem dX8_advance_19 : decode cX8_advance 19 = .ok (.bipush 122, 2) := by decide +kernel
theorem dX8_advance_21 : decode cX8_advance 21 = .ok (.invokevirtual 32, 3) := by decide +kernel
theorem dX8_advance_24 : decode cX8_advance 24 = .ok (.istore_n 1, 1) := by decide +kernel
theorem dX8_advance_25 : decode cX8_advance 25 = .ok (.aload_n 0, 1) := by decide +kernel
theorem dX8_advance_26 : decode cX8_advance 26 = .ok (.aload_n 0, 1) := by decide +kernel
theorem dX8_advance_27 : decode cX8_advance 27 = .ok (.getfield 29, 3) := by decide +kernel
theorem dX8_advance_30 : decode cX8_advance 30 = .ok (.bipush 48, 2) := by decide +kernel
theorem dX8_advance_32 : decode cX8_advance 32 = .ok (.bipush 57, 2) := by decide +kernel
theorem dX8_advance_34 : decode cX8_advance 34 = .ok (.invokevirtual 32, 3) := by decide +kernel
theorem dX8_advance_37 : decode cX8_advance 37 = .ok (.istore_n 2, 1) := by decide +kernel
theorem dX8_advance_38 : decode cX8_advance 38 = .ok (.aload_n 0, 1) := by decide +kernel
theorem dX8_advance_39 : decode cX8_advance 39 = .ok (.getfield 29, 3) := by decide +kernel
theorem dX8_advance_42 : decode cX8_advance 42 = .ok (.aload_n 0, 1) := by decide +kernel
theorem dX8_advance_43 : decode cX8_advance 43 = .ok (.getfield 15, 3) := by decide +kernel
theorem dX8_advance_46 : decode cX8_advance 46 = .ok (.if_icmp .lt 19, 3) := by decide +kernel
theorem dX8_advance_49 : decode cX8_advance 49 = .ok (.aload_n 0, 1) := by decide +kernel
theorem dX8_advance_50 : decode cX8_advance 50 = .ok (.aload_n 0, 1) := by decide +kernel
theorem dX8_advance_51 : decode cX8_advance 51 = .ok (.getfield 29, 3) := by decide +kernel
theorem dX8_advance_54 : decode cX8_advance 54 = .ok (.putfield 19, 3) := by decide +kernel
theorem dX8_advance_57 : decode cX8_advance 57 = .ok (.aload_n 0, 1) := by decide +kernel
theorem dX8_advance_58 : decode cX8_advance 58 = .ok (.iconst 0, 1) := by decide +kernel
theorem dX8_advance_59 : decode cX8_advance 59 = .ok (.putfield 36, 3) := by decide +kernel
theorem dX8_advance_62 : decode cX8_advance 62 = .ok (.goto 144, 3) := by decide +kernel
theorem dX8_advance_206 : decode cX8_advance 206 = .ok (.return_, 1) := by decide +kernel
theorem dX8_start_0 : decode cX8_start 0 = .ok (.aload_n 0, 1) := by decide +kernel
theorem dX8_start_1 : decode cX8_start 1 = .ok (.iconst 0, 1) := by decide +kernel
theorem dX8_start_2 : decode cX8_start 2 = .ok (.putfield 19, 3) := by decide +kernel
theorem dX8_start_5 : decode cX8_start 5 = .ok (.aload_n 0, 1) := by decide +kernel
theorem dX8_start_6 : decode cX8_start 6 = .ok (.invokevirtual 22, 3) := by decide +kernel
theorem dX8_start_9 : decode cX8_start 9 = .ok (.return_, 1) := by decide +kernel
theorem dX5_findMay_0 : decode cX5_findMay 0 = .ok (.aload_n 0, 1) := by decide +kernel
theorem dX5_findMay_1 : decode cX5_findMay 1 = .ok (.getfield 35, 3) := by decide +kernel
theorem dX5_findMay_4 : decode cX5_findMay 4 = .ok (.getfield 66, 3) := by decide +kernel
theorem dX5_findMay_7 : decode cX5_findMay 7 = .ok (.iconst 0, 1) := by decide +kernel
theorem dX5_findMay_8 : decode cX5_findMay 8 = .ok (.invokestatic 70, 3) := by decide +kernel
theorem dX5_findMay_11 : decode cX5_findMay 11 = .ok (.iconst 0, 1) := by decide +kernel
theorem dX5_findMay_12 : decode cX5_findMay 12 = .ok (.istore_n 1, 1) := by decide +kernel
theorem dX5_findMay_13 : decode cX5_findMay 13 = .ok (.iload_n 1, 1) := by decide +kernel
theorem dX5_findMay_14 : decode cX5_findMay 14 = .ok (.aload_n 0, 1) := by decide +kernel
theorem dX5_findMay_15 : decode cX5_findMay 15 = .ok (.getfield 35, 3) := by decide +kernel
theorem dX5_findMay_18 : decode cX5_findMay 18 = .ok (.getfield 76, 3) := by decide +kernel
theorem dX5_findMay_21 : decode cX5_findMay 21 = .ok (.if_icmp .ge 64, 3) := by decide +kernel
theorem dX5_findMay_85 : decode cX5_findMay 85 = .ok (.return_, 1) := by decide +kernel
theorem dX5_read_0 : decode cX5_read 0 = .ok (.aload_n 0, 1) := by decide +kernel
theorem dX5_read_1 : decode cX5_read 1 = .ok (.getfield 35, 3) := by decide +kernel
theorem dX5_read_4 : decode cX5_read 4 = .ok (.invokevirtual 39, 3) := by decide +kernel
theorem dX5_read_7 : decode cX5_read 7 = .ok (.aload_n 0, 1) := by decide +kernel
theorem dX5_read_8 : decode cX5_read 8 = .ok (.getfield 21, 3) := by decide +kernel
theorem dX5_read_11 : decode cX5_read 11 = .ok (.invokevirtual 42, 3) := by decide +kernel
theorem dX5_read_14 : decode cX5_read 14 = .ok (.aload_n 0, 1) := by decide +kernel
theorem dX5_read_15 : decode cX5_read 15 = .ok (.iconst 0, 1) := by decide +kernel
theorem dX5_read_16 : decode cX5_read 16 = .ok (.putfield 43, 3) := by decide +kernel
theorem dX5_read_19 : decode cX5_read 19 = .ok (.aload_n 0, 1) := by decide +kernel
theorem dX5_read_20 : decode cX5_read 20 = .ok (.iconst 0, 1) := by decide +kernel
theorem dX5_read_21 : decode cX5_read 21 = .ok (.putfield 47, 3) := by decide +kernel
theorem dX5_read_24 : decode cX5_read 24 = .ok (.aload_n 0, 1) := by decide +kernel
theorem dX5_read_25 : decode cX5_read 25 = .ok (.getfield 12, 3) := by decide +kernel
theorem dX5_read_28 : decode cX5_read 28 = .ok (.invokevirtual 50, 3) := by decide +kernel
theorem dX5_read_31 : decode cX5_read 31 = .ok (.iconst 1, 1) := by decide +kernel
theorem dX5_read_32 : decode cX5_read 32 = .ok (.istore_n 1, 1) := by decide +kernel
theorem dX5_read_33 : decode cX5_read 33 = .ok (.iconst 0, 1) := by decide +kernel
theorem dX5_read_34 : decode cX5_read 34 = .ok (.istore_n 2, 1) := by decide +kernel
theorem dX5_read_35 : decode cX5_read 35 = .ok (.iload_n 2, 1) := by decide +kernel
theorem dX5_read_36 : decode cX5_read 36 = .ok (.sipush 1000, 3) := by decide +kernel
theorem dX5_read_39 : decode cX5_read 39 = .ok (.if_icmp .ge 28, 3) := by decide +kernel
theorem dX5_read_42 : decode cX5_read 42 = .ok (.iload_n 1, 1) := by decide +kernel
theorem dX5_read_43 : decode cX5_read 43 = .ok (.ifCond .eq 24, 3) := by decide +kernel
theorem dX5_read_46 : decode cX5_read 46 = .ok (.aload_n 0, 1) := by decide +kernel
theorem dX5_read_47 : decode cX5_read 47 = .ok (.getfield 12, 3) := by decide +kernel
theorem dX5_read_50 : decode cX5_read 50 = .ok (.getfield 53, 3) := by decide +kernel
theorem dX5_read_53 : decode cX5_read 53 = .ok (.ifCond .eq 14, 3) := by decide +kernel
theorem dX5_read_67 : decode cX5_read 67 = .ok (.aload_n 0, 1) := by decide +kernel
theorem dX5_read_68 : decode cX5_read 68 = .ok (.getfield 12, 3) := by decide +kernel
theorem dX5_read_71 : decode cX5_read 71 = .ok (.iconst 0, 1) := by decide +kernel
theorem dX5_read_72 : decode cX5_read 72 = .ok (.putfield 60, 3) := by decide +kernel
theorem dX5_read_75 : decode cX5_read 75 = .ok (.iload_n 1, 1) := by decide +kernel
theorem dX5_read_76 : decode cX5_read 76 = .ok (.ifCond .eq 7, 3) := by decide +kernel
theorem dX5_read_79 : decode cX5_read 79 = .ok (.aload_n 0, 1) := by decide +kernel
theorem dX5_read_80 : decode cX5_read 80 = .ok (.invokevirtual 63, 3) := by decide +kernel
theorem dX5_read_83 : decode cX5_read 83 = .ok (.aload_n 0, 1) := by decide +kernel
theorem dX5_read_84 : decode cX5_read 84 = .ok (.getfield 47, 3) := by decide +kernel
theorem dX5_read_87 : decode cX5_read 87 = .ok (.ireturn, 1) := by decide +kernel
theorem dX5_exchange_0 : decode cX5_exchange 0 = .ok (.aload_n 0, 1) := by decide +kernel
theorem dX5_exchange_1 : decode cX5_exchange 1 = .ok (.getfield 35, 3) := by decide +kernel
theorem dX5_exchange_4 : decode cX5_exchange 4 = .ok (.astore_n 2, 1) := by decide +kernel
theorem dX5_exchange_5 : decode cX5_exchange 5 = .ok (.aload_n 0, 1) := by decide +kernel
theorem dX5_exchange_6 : decode cX5_exchange 6 = .ok (.aload_n 1, 1) := by decide +kernel
theorem dX5_exchange_7 : decode cX5_exchange 7 = .ok (.putfield 35, 3) := by decide +kernel
theorem dX5_exchange_10 : decode cX5_exchange 10 = .ok (.aload_n 2, 1) := by decide +kernel
theorem dX5_exchange_11 : decode cX5_exchange 11 = .ok (.areturn, 1) := by decide +kernel
theorem dX7_empty_0 : decode cX7_empty 0 = .ok (.aload_n 0, 1) := by decide +kernel
theorem dX7_empty_1 : decode cX7_empty 1 = .ok (.getfield 9, 3) := by decide +kernel
theorem dX7_empty_4 : decode cX7_empty 4 = .ok (.iconst (-1), 1) := by decide +kernel
theorem dX7_empty_5 : decode cX7_empty 5 = .ok (.invokestatic 24, 3) := by decide +kernel
theorem dX7_empty_8 : decode cX7_empty 8 = .ok (.aload_n 0, 1) := by decide +kernel
theorem dX7_empty_9 : decode cX7_empty 9 = .ok (.iconst 0, 1) := by decide +kernel
theorem dX7_empty_10 : decode cX7_empty 10 = .ok (.putfield 30, 3) := by decide +kernel
theorem dX7_empty_13 : decode cX7_empty 13 = .ok (.return_, 1) := by decide +kernel
theorem dX3_chain_0 : decode cX3_chain 0 = .ok (.aload_n 0, 1) := by decide +kernel
theorem dX3_chain_1 : decode cX3_chain 1 = .ok (.aload_n 1, 1) := by decide +kernel
theorem dX3_chain_2 : decode cX3_chain 2 = .ok (.getfield 24, 3) := by decide +kernel
theorem dX3_chain_5 : decode cX3_chain 5 = .ok (.putfield 30, 3) := by decide +kernel
theorem dX3_chain_8 : decode cX3_chain 8 = .ok (.aload_n 0, 1) := by decide +kernel
theorem dX3_chain_9 : decode cX3_chain 9 = .ok (.iconst 0, 1) := by decide +kernel
theorem dX3_chain_10 : decode cX3_chain 10 = .ok (.putfield 31, 3) := by decide +kernel
theorem dX3_chain_13 : decode cX3_chain 13 = .ok (.aload_n 1, 1) := by decide +kernel
theorem dX3_chain_14 : decode cX3_chain 14 = .ok (.getfield 35, 3) := by decide +kernel
theorem dX3_chain_17 : decode cX3_chain 17 = .ok (.iconst 0, 1) := by decide +kernel
theorem dX3_chain_18 : decode cX3_chain 18 = .ok (.aload_n 0, 1) := by decide +kernel
theorem dX3_chain_19 : decode cX3_chain 19 = .ok (.getfield 9, 3) := by decide +kernel
theorem dX3_chain_22 : decode cX3_chain 22 = .ok (.iconst 0, 1) := by decide +kernel
theorem dX3_chain_23 : decode cX3_chain 23 = .ok (.bipush 12, 2) := by decide +kernel
theorem dX3_chain_25 : decode cX3_chain 25 = .ok (.invokestatic 38, 3) := by decide +kernel
theorem dX3_chain_28 : decode cX3_chain 28 = .ok (.iconst 0, 1) := by decide +kernel
theorem dX3_chain_29 : decode cX3_chain 29 = .ok (.istore_n 2, 1) := by decide +kernel
theorem dX3_chain_30 : decode cX3_chain 30 = .ok (.iload_n 2, 1) := by decide +kernel
theorem dX3_chain_31 : decode cX3_chain 31 = .ok (.aload_n 0, 1) := by decide +kernel
theorem dX3_chain_32 : decode cX3_chain 32 = .ok (.getfield 30, 3) := by decide +kernel
theorem dX3_chain_35 : decode cX3_chain 35 = .ok (.if_icmp .ge 54, 3) := by decide +kernel
theorem dX3_chain_89 : decode cX3_chain 89 = .ok (.return_, 1) := by decide +kernel
theorem dX10_cupboard_0 : decode cX10_cupboard 0 = .ok (.aload_n 0, 1) := by decide +kernel
theorem dX10_cupboard_1 : decode cX10_cupboard 1 = .ok (.getfield 10, 3) := by decide +kernel
theorem dX10_cupboard_4 : decode cX10_cupboard 4 = .ok (.invokevirtual 90, 3) := by decide +kernel
theorem dX10_cupboard_7 : decode cX10_cupboard 7 = .ok (.istore_n 1, 1) := by decide +kernel
theorem dX10_cupboard_8 : decode cX10_cupboard 8 = .ok (.iload_n 1, 1) := by decide +kernel
theorem dX10_cupboard_9 : decode cX10_cupboard 9 = .ok (.ifCond .eq 5, 3) := by decide +kernel
theorem dX10_cupboard_14 : decode cX10_cupboard 14 = .ok (.aload_n 0, 1) := by decide +kernel
theorem dX10_cupboard_15 : decode cX10_cupboard 15 = .ok (.aload_n 0, 1) := by decide +kernel
theorem dX10_cupboard_16 : decode cX10_cupboard 16 = .ok (.getfield 10, 3) := by decide +kernel
theorem dX10_cupboard_19 : decode cX10_cupboard 19 = .ok (.aload_n 0, 1) := by decide +kernel
theorem dX10_cupboard_20 : decode cX10_cupboard 20 = .ok (.getfield 19, 3) := by decide +kernel
theorem dX10_cupboard_23 : decode cX10_cupboard 23 = .ok (.invokevirtual 94, 3) := by decide +kernel
theorem dX10_cupboard_26 : decode cX10_cupboard 26 = .ok (.putfield 19, 3) := by decide +kernel
theorem dX10_cupboard_29 : decode cX10_cupboard 29 = .ok (.aload_n 0, 1) := by decide +kernel
theorem dX10_cupboard_30 : decode cX10_cupboard 30 = .ok (.getfield 26, 3) := by decide +kernel
theorem dX10_cupboard_33 : decode cX10_cupboard 33 = .ok (.invokevirtual 98, 3) := by decide +kernel
theorem dX10_cupboard_36 : decode cX10_cupboard 36 = .ok (.iconst 0, 1) := by decide +kernel
theorem dX10_cupboard_37 : decode cX10_cupboard 37 = .ok (.istore_n 2, 1) := by decide +kernel
theorem dX10_cupboard_38 : decode cX10_cupboard 38 = .ok (.iload_n 2, 1) := by decide +kernel
theorem dX10_cupboard_39 : decode cX10_cupboard 39 = .ok (.iconst 4, 1) := by decide +kernel
theorem dX10_cupboard_40 : decode cX10_cupboard 40 = .ok (.if_icmp .ge 19, 3) := by decide +kernel
theorem dX10_cupboard_43 : decode cX10_cupboard 43 = .ok (.aload_n 0, 1) := by decide +kernel
theorem dX10_cupboard_44 : decode cX10_cupboard 44 = .ok (.getfield 33, 3) := by decide +kernel
theorem dX10_cupboard_47 : decode cX10_cupboard 47 = .ok (.iload_n 2, 1) := by decide +kernel
theorem dX10_cupboard_48 : decode cX10_cupboard 48 = .ok (.aaload, 1) := by decide +kernel
theorem dX10_cupboard_49 : decode cX10_cupboard 49 = .ok (.iconst 0, 1) := by decide +kernel
theorem dX10_cupboard_50 : decode cX10_cupboard 50 = .ok (.putfield 101, 3) := by decide +kernel
theorem dX10_cupboard_53 : decode cX10_cupboard 53 = .ok (.iinc 2 1, 3) := by decide +kernel
theorem dX10_cupboard_56 : decode cX10_cupboard 56 = .ok (.goto (-18), 3) := by decide +kernel
theorem dX10_cupboard_59 : decode cX10_cupboard 59 = .ok (.aload_n 0, 1) := by decide +kernel
theorem dX10_cupboard_60 : decode cX10_cupboard 60 = .ok (.getfield 47, 3) := by decide +kernel
theorem dX10_cupboard_63 : decode cX10_cupboard 63 = .ok (.aload_n 0, 1) := by decide +kernel
theorem dX10_cupboard_64 : decode cX10_cupboard 64 = .ok (.getfield 19, 3) := by decide +kernel
theorem dX10_cupboard_67 : decode cX10_cupboard 67 = .ok (.invokevirtual 105, 3) := by decide +kernel
theorem dX10_cupboard_70 : decode cX10_cupboard 70 = .ok (.aload_n 0, 1) := by decide +kernel
theorem dX10_cupboard_71 : decode cX10_cupboard 71 = .ok (.getfield 54, 3) := by decide +kernel
theorem dX10_cupboard_74 : decode cX10_cupboard 74 = .ok (.iconst 0, 1) := by decide +kernel
theorem dX10_cupboard_75 : decode cX10_cupboard 75 = .ok (.putfield 109, 3) := by decide +kernel
theorem dX10_cupboard_78 : decode cX10_cupboard 78 = .ok (.iconst 0, 1) := by decide +kernel
theorem dX10_cupboard_79 : decode cX10_cupboard 79 = .ok (.ireturn, 1) := by decide +kernel
set_option maxHeartbeats 4000000 in
set_option maxRecDepth 100000 in
theorem c_X9_empty (l : Launch) (D : va_G) (cyC cyI cyJ cyZ cyO : ClassId) (t10 : Nat) (t11 : Nat) (t12 : Nat) (t13 : Nat) (t14 : Nat) (t15 : Nat) (t16 : Nat) (t17 : Nat) (t18 : Nat) (t19 : Nat) (t20 : Nat) : KK l D (TY cyC cyI cyJ cyZ cyO) yX9_empty cX9_empty 1 none ({ frames := 1, cells := 0, slots := 0, locals := 23 } : Room) 0 0 [.ref t10] [(t10, .inr (9, [.int 0, .int 0, .int 0, .ref t11, .ref t12, .ref t13, .ref t14, .ref t15, .ref t16, .int 0, .int 0, .ref t17, .ref t18, .ref t19, .ref t20])), (t16, .inl (cyI, 12, .inl (fun _ => 0)))] (fun u => none) (fun u => True) (fun u => [(t10, .inr (9, [.int 0, .int 0, .int 0, .ref t11, .ref t12, .ref t13, .ref t14, .ref t15, .ref t16, .int 0, .int 0, .ref t17, .ref t18, .ref t19, .ref t20])), (t16, .inl (cyI, 12, .inl (fun _ => 0)))]) := by
  refine KK.of (lv0 := [(0, .ref t10)]) (by decide) rfl (Nat.le_of_ble_eq_true rfl) ?_
  intro p e s m args below meth c A C hr hk hin
  refine j_aload_n (pc := 0) C dX9_empty_0 rfl 0 rfl ?_
  refine j_iconst (pc := 1) (v := 0) C dX9_empty_1 (by decide) ?_
  refine j_put (pc := 2) (ci := 9) (v := .int 0) (ws' := [(t10, .inr (9, [.int 0, .int 0, .int 0, .ref t11, .ref t12, .ref t13, .ref t14, .ref t15, .ref t16, .int 0, .int 0, .ref t17, .ref t18, .ref t19, .ref t20])), (t16, .inl (cyI, 12, .inl (fun _ => 0)))]) C inw_9 0 rfl rfl 0 (by decide) wd_169 rfl tyX9_ok nmX9 rfl (tyX9_ok 0 (by decide)) rfl rfl (Nat.le_of_ble_eq_true rfl) dX9_empty_2 rfl ?_
  refine j_aload_n (pc := 5) C dX9_empty_5 rfl 0 rfl ?_
  refine j_iconst (pc := 6) (v := 0) C dX9_empty_6 (by decide) ?_
  refine j_put (pc := 7) (ci := 9) (v := .int 0) (ws' := [(t10, .inr (9, [.int 0, .int 0, .int 0, .ref t11, .ref t12, .ref t13, .ref t14, .ref t15, .ref t16, .int 0, .int 0, .ref t17, .ref t18, .ref t19, .ref t20])), (t16, .inl (cyI, 12, .inl (fun _ => 0)))]) C inw_9 0 rfl rfl 1 (by decide) wd_170 rfl tyX9_ok nmX9 rfl (tyX9_ok 1 (by decide)) rfl rfl (Nat.le_of_ble_eq_true rfl) dX9_empty_7 rfl ?_
  refine j_aload_n (pc := 10) C dX9_empty_10 rfl 0 rfl ?_
  refine j_iconst (pc := 11) (v := 0) C dX9_empty_11 (by decide) ?_
  refine j_put (pc := 12) (ci := 9) (v := .int 0) (ws' := [(t10, .inr (9, [.int 0, .int 0, .int 0, .ref t11, .ref t12, .ref t13, .ref t14, .ref t15, .ref t16, .int 0, .int 0, .ref t17, .ref t18, .ref t19, .ref t20])), (t16, .inl (cyI, 12, .inl (fun _ => 0)))]) C inw_9 0 rfl rfl 2 (by decide) wd_186 rfl tyX9_ok nmX9 rfl (tyX9_ok 2 (by decide)) rfl rfl (Nat.le_of_ble_eq_true rfl) dX9_empty_12 rfl ?_
  refine j_aload_n (pc := 15) C dX9_empty_15 rfl 0 rfl ?_
  refine j_iconst (pc := 16) (v := 0) C dX9_empty_16 (by decide) ?_
  refine j_put (pc := 17) (ci := 9) (v := .int 0) (ws' := [(t10, .inr (9, [.int 0, .int 0, .int 0, .ref t11, .ref t12, .ref t13, .ref t14, .ref t15, .ref t16, .int 0, .int 0, .ref t17, .ref t18, .ref t19, .ref t20])), (t16, .inl (cyI, 12, .inl (fun _ => 0)))]) C inw_9 0 rfl rfl 9 (by decide) wd_187 rfl tyX9_ok nmX9 rfl (tyX9_ok 9 (by decide)) rfl rfl (Nat.le_of_ble_eq_true rfl) dX9_empty_17 rfl ?_
  refine j_aload_n (pc := 20) C dX9_empty_20 rfl 0 rfl ?_
  refine j_iconst (pc := 21) (v := 0) C dX9_empty_21 (by decide) ?_
  refine j_put (pc := 22) (ci := 9) (v := .int 0) (ws' := [(t10, .inr (9, [.int 0, .int 0, .int 0, .ref t11, .ref t12, .ref t13, .ref t14, .ref t15, .ref t16, .int 0, .int 0, .ref t17, .ref t18, .ref t19, .ref t20])), (t16, .inl (cyI, 12, .inl (fun _ => 0)))]) C inw_9 0 rfl rfl 10 (by decide) wd_188 rfl tyX9_ok nmX9 rfl (tyX9_ok 10 (by decide)) rfl rfl (Nat.le_of_ble_eq_true rfl) dX9_empty_22 rfl ?_
  refine j_aload_n (pc := 25) C dX9_empty_25 rfl 0 rfl ?_
  refine j_get (pc := 26) (ci := 9) (v := .ref t16) C inw_9 0 rfl rfl 8 (by decide) wd_16 rfl rfl dX9_empty_26 ?_
  refine j_iconst (pc := 29) (v := 0) C dX9_empty_29 (by decide) ?_
  refine j_callS (pc := 30) (As := [.ref t16, .int 0]) (rest := []) (wr := [(t10, .inr (9, [.int 0, .int 0, .int 0, .ref t11, .ref t12, .ref t13, .ref t14, .ref t15, .ref t16, .int 0, .int 0, .ref t17, .ref t18, .ref t19, .ref t20]))]) C (c_fill l D cyC cyI cyJ cyZ cyO t16 0 (fun _ => 0)) wd_48 wd_49 wd_189 wd_51 ⟨by decide, by decide, rfl⟩ rfl ⟨rfl, rfl, by decide, by decide⟩ ⟨by decide, by decide⟩ [1] [0] rfl rfl ⟨by decide, by decide, by decide⟩ rfl (Nat.le_of_ble_eq_true rfl) dX9_empty_30 (fun u_1 hw_2 => ?_)
  refine j_eq (ws2 := [(t10, .inr (9, [.int 0, .int 0, .int 0, .ref t11, .ref t12, .ref t13, .ref t14, .ref t15, .ref t16, .int 0, .int 0, .ref t17, .ref t18, .ref t19, .ref t20])), (t16, .inl (cyI, 12, .inl (fun _ => 0)))]) (pc2 := 33) (lv2 := [(0, .ref t10)]) (st2 := []) rfl rfl rfl rfl ?_
  exact j_vret (pc := 33) C hr hk (fun i => [].getD i 0, fun _ => 0, fun _ _ => 0) rfl trivial [0, 1] (by decide) rfl (by decide) (by decide) dX9_empty_33
set_option maxHeartbeats 4000000 in
set_option maxRecDepth 100000 in
theorem c_X1_empty (l : Launch) (D : va_G) (cyC cyI cyJ cyZ cyO : ClassId) (t4 : Nat) (t5 : Nat) (t6 : Nat) (t7 : Nat) : KK l D (TY cyC cyI cyJ cyZ cyO) yX1_empty cX1_empty 1 none ({ frames := 0, cells := 0, slots := 0, locals := 0 } : Room) 0 0 [.ref t4] [(t4, .inr (1, [.int 0, .int 0, .ref t5, .ref t6, .ref t7]))] (fun u => none) (fun u => True) (fun u => [(t4, .inr (1, [.int 0, .int 0, .ref t5, .ref t6, .ref t7]))]) := by
  refine KK.of (lv0 := [(0, .ref t4)]) (by decide) rfl (Nat.le_of_ble_eq_true rfl) ?_
  intro p e s m args below meth c A C hr hk hin
  refine j_aload_n (pc := 0) C dX1_empty_0 rfl 0 rfl ?_
  refine j_iconst (pc := 1) (v := 0) C dX1_empty_1 (by decide) ?_
  refine j_put (pc := 2) (ci := 1) (v := .int 0) (ws' := [(t4, .inr (1, [.int 0, .int 0, .ref t5, .ref t6, .ref t7]))]) C inw_1 0 rfl rfl 0 (by decide) wd_190 rfl tyX1_ok nmX1 rfl (tyX1_ok 0 (by decide)) rfl rfl (Nat.le_of_ble_eq_true rfl) dX1_empty_2 rfl ?_
  refine j_aload_n (pc := 5) C dX1_empty_5 rfl 0 rfl ?_
  refine j_iconst (pc := 6) (v := 0) C dX1_empty_6 (by decide) ?_
  refine j_put (pc := 7) (ci := 1) (v := .int 0) (ws' := [(t4, .inr (1, [.int 0, .int 0, .ref t5, .ref t6, .ref t7]))]) C inw_1 0 rfl rfl 1 (by decide) wd_191 rfl tyX1_ok nmX1 rfl (tyX1_ok 1 (by decide)) rfl rfl (Nat.le_of_ble_eq_true rfl) dX1_empty_7 rfl ?_
  exact j_vret (pc := 10) C hr hk (fun i => [].getD i 0, fun _ => 0, fun _ _ => 0) rfl trivial [0] (by decide) rfl (by decide) (by decide) dX1_empty_10
set_option maxHeartbeats 4000000 in
set_option maxRecDepth 100000 in
theorem c_X8_pastBlanks (l : Launch) (D : va_G) (cyC cyI cyJ cyZ cyO : ClassId) (t2 : Nat) (t3 : Nat) : KK l D (TY cyC cyI cyJ cyZ cyO) yX8_pastBlanks cX8_pastBlanks 3 (some .int) ({ frames := 0, cells := 0, slots := 0, locals := 0 } : Room) 0 0 [.ref t2, .int 0] [(t2, .inr (8, [.ref t3, .int 0, .int 0, .int 0, .int 0, .int 0]))] (fun u => some (.int 0)) (fun u => True) (fun u => [(t2, .inr (8, [.ref t3, .int 0, .int 0, .int 0, .int 0, .int 0]))]) := by
  refine KK.of (lv0 := [(0, .ref t2), (1, .int 0)]) (by decide) rfl (Nat.le_of_ble_eq_true rfl) ?_
  intro p e s m args below meth c A C hr hk hin
  refine j_iload_n (pc := 0) C dX8_pastBlanks_0 rfl 1 rfl ?_
  refine j_istore_n (pc := 1) (lv' := [(2, .int 0), (0, .ref t2), (1, .int 0)]) C dX8_pastBlanks_1 rfl (by decide) rfl ?_
  refine j_iload_n (pc := 2) C dX8_pastBlanks_2 rfl 0 rfl ?_
  refine j_aload_n (pc := 3) C dX8_pastBlanks_3 rfl 1 rfl ?_
  refine j_get (pc := 4) (ci := 8) (v := .int 0) C inw_8 0 rfl rfl 1 (by decide) wd_192 rfl rfl dX8_pastBlanks_4 ?_
  refine j_icmp_ge_t (pc := 7) (tgt := 38) C dX8_pastBlanks_7 (by decide) (by decide) ?_
  refine j_iload_n (pc := 38) C dX8_pastBlanks_38 rfl 0 rfl ?_
  exact j_iret (pc := 39) C hr hk (fun i => [].getD i 0, fun _ => 0, fun _ _ => 0) rfl trivial [0] (by decide) rfl (by decide) (by decide) dX8_pastBlanks_39
set_option maxHeartbeats 4000000 in
set_option maxRecDepth 100000 in
theorem c_X8_pastRun (l : Launch) (D : va_G) (cyC cyI cyJ cyZ cyO : ClassId) (p0 : Int32) (p1 : Int32) (t2 : Nat) (t3 : Nat) : KK l D (TY cyC cyI cyJ cyZ cyO) yX8_pastRun cX8_pastRun 5 (some .int) ({ frames := 0, cells := 0, slots := 0, locals := 0 } : Room) 0 0 [.ref t2, .int 0, .int p0, .int p1] [(t2, .inr (8, [.ref t3, .int 0, .int 0, .int 0, .int 0, .int 0]))] (fun u => some (.int 0)) (fun u => True) (fun u => [(t2, .inr (8, [.ref t3, .int 0, .int 0, .int 0, .int 0, .int 0]))]) := by
  refine KK.of (lv0 := [(0, .ref t2), (1, .int 0), (2, .int p0), (3, .int p1)]) (by decide) rfl (Nat.le_of_ble_eq_true rfl) ?_
  intro p e s m args below meth c A C hr hk hin
  refine j_iload_n (pc := 0) C dX8_pastRun_0 rfl 1 rfl ?_
  refine j_istore (pc := 1) (lv' := [(4, .int 0), (0, .ref t2), (1, .int 0), (2, .int p0), (3, .int p1)]) C dX8_pastRun_1 (by decide) rfl ?_
  refine j_iload (pc := 3) C dX8_pastRun_3 0 rfl ?_
  refine j_aload_n (pc := 5) C dX8_pastRun_5 rfl 1 rfl ?_
  refine j_get (pc := 6) (ci := 8) (v := .int 0) C inw_8 0 rfl rfl 1 (by decide) wd_192 rfl rfl dX8_pastRun_6 ?_
  refine j_icmp_ge_t (pc := 9) (tgt := 40) C dX8_pastRun_9 (by decide) (by decide) ?_
  refine j_iload (pc := 40) C dX8_pastRun_40 0 rfl ?_
  exact j_iret (pc := 42) C hr hk (fun i => [].getD i 0, fun _ => 0, fun _ _ => 0) rfl trivial [0] (by decide) rfl (by decide) (by decide) dX8_pastRun_42
set_option maxHeartbeats 4000000 in
set_option maxRecDepth 100000 in
theorem c_X8_advance (l : Launch) (D : va_G) (cyC cyI cyJ cyZ cyO : ClassId) (t2 : Nat) (t3 : Nat) : KK l D (TY cyC cyI cyJ cyZ cyO) yX8_advance cX8_advance 3 none ({ frames := 1, cells := 0, slots := 0, locals := 24 } : Room) 0 0 [.ref t2] [(t2, .inr (8, [.ref t3, .int 0, .int 0, .int 0, .int 0, .int 0]))] (fun u => none) (fun u => True) (fun u => [(t2, .inr (8, [.ref t3, .int 0, .int 0, .int 0, .int 0, .int 0]))]) := by
  refine KK.of (lv0 := [(0, .ref t2)]) (by decide) rfl (Nat.le_of_ble_eq_true rfl) ?_
  intro p e s m args below meth c A C hr hk hin
  refine j_aload_n (pc := 0) C dX8_advance_0 rfl 0 rfl ?_
  refine j_aload_n (pc := 1) C dX8_advance_1 rfl 0 rfl ?_
  refine j_aload_n (pc := 2) C dX8_advance_2 rfl 0 rfl ?_
  refine j_get (pc := 3) (ci := 8) (v := .int 0) C inw_8 0 rfl rfl 2 (by decide) wd_193 rfl rfl dX8_advance_3 ?_
  refine j_callV (pc := 6) (As := [.int 0]) (rest := [.ref t2]) (wr := []) C (c_X8_pastBlanks l D cyC cyI cyJ cyZ cyO t2 t3) wd_194 wd_24 wd_195 wd_196 wd_197 ⟨by decide, by decide, rfl⟩ rfl ⟨rfl, rfl, by decide, by decide⟩ ⟨by decide, by decide⟩ [0] [] rfl rfl ⟨by decide, by decide, by decide⟩ 0 rfl rfl rfl (Nat.le_of_ble_eq_true rfl) dX8_advance_6 (fun u_1 hw_2 => ?_)
  refine j_eq (ws2 := [(t2, .inr (8, [.ref t3, .int 0, .int 0, .int 0, .int 0, .int 0]))]) (pc2 := 9) (lv2 := [(0, .ref t2)]) (st2 := [.int 0, .ref t2]) rfl rfl rfl rfl ?_
  refine j_put (pc := 9) (ci := 8) (v := .int 0) (ws' := [(t2, .inr (8, [.ref t3, .int 0, .int 0, .int 0, .int 0, .int 0]))]) C inw_8 0 rfl rfl 4 (by decide) wd_198 rfl tyX8_ok nmX8 rfl (tyX8_ok 4 (by decide)) rfl rfl (Nat.le_of_ble_eq_true rfl) dX8_advance_9 rfl ?_
  refine j_aload_n (pc := 12) C dX8_advance_12 rfl 0 rfl ?_
  refine j_aload_n (pc := 13) C dX8_advance_13 rfl 0 rfl ?_
  refine j_get (pc := 14) (ci := 8) (v := .int 0) C inw_8 0 rfl rfl 4 (by decide) wd_198 rfl rfl dX8_advance_14 ?_
  refine j_bipush (pc := 17) (v := 97) C dX8_advance_17 (by decide) ?_
  refine j_bipush (pc := 19) (v := 122) C dX8_advance_19 (by decide) ?_
  refine j_callV (pc := 21) (As := [.int 0, .int 97, .int 122]) (rest := []) (wr := []) C (c_X8_pastRun l D cyC cyI cyJ cyZ cyO 97 122 t2 t3) wd_199 wd_24 wd_200 wd_201 wd_202 ⟨by decide, by decide, rfl⟩ rfl ⟨rfl, rfl, by decide, by decide⟩ ⟨by decide, by decide⟩ [0] [] rfl rfl ⟨by decide, by decide, by decide⟩ 0 rfl rfl rfl (Nat.le_of_ble_eq_true rfl) dX8_advance_21 (fun u_3 hw_4 => ?_)
  refine j_eq (ws2 := [(t2, .inr (8, [.ref t3, .int 0, .int 0, .int 0, .int 0, .int 0]))]) (pc2 := 24) (lv2 := [(0, .ref t2)]) (st2 := [.int 0]) rfl rfl rfl rfl ?_
  refine j_istore_n (pc := 24) (lv' := [(1, .int 0), (0, .ref t2)]) C dX8_advance_24 rfl (by decide) rfl ?_
  refine j_aload_n (pc := 25) C dX8_advance_25 rfl 1 rfl ?_
  refine j_aload_n (pc := 26) C dX8_advance_26 rfl 1 rfl ?_
  refine j_get (pc := 27) (ci := 8) (v := .int 0) C inw_8 0 rfl rfl 4 (by decide) wd_198 rfl rfl dX8_advance_27 ?_
  refine j_bipush (pc := 30) (v := 48) C dX8_advance_30 (by decide) ?_
  refine j_bipush (pc := 32) (v := 57) C dX8_advance_32 (by decide) ?_
  refine j_callV (pc := 34) (As := [.int 0, .int 48, .int 57]) (rest := []) (wr := []) C (c_X8_pastRun l D cyC cyI cyJ cyZ cyO 48 57 t2 t3) wd_199 wd_24 wd_200 wd_201 wd_202 ⟨by decide, by decide, rfl⟩ rfl ⟨rfl, rfl, by decide, by decide⟩ ⟨by decide, by decide⟩ [0] [] rfl rfl ⟨by decide, by decide, by decide⟩ 0 rfl rfl rfl (Nat.le_of_ble_eq_true rfl) dX8_advance_34 (fun u_5 hw_6 => ?_)
  refine j_eq (ws2 := [(t2, .inr (8, [.ref t3, .int 0, .int 0, .int 0, .int 0, .int 0]))]) (pc2 := 37) (lv2 := [(1, .int 0), (0, .ref t2)]) (st2 := [.int 0]) rfl rfl rfl rfl ?_
  refine j_istore_n (pc := 37) (lv' := [(2, .int 0), (1, .int 0), (0, .ref t2)]) C dX8_advance_37 rfl (by decide) rfl ?_
  refine j_aload_n (pc := 38) C dX8_advance_38 rfl 2 rfl ?_
  refine j_get (pc := 39) (ci := 8) (v := .int 0) C inw_8 0 rfl rfl 4 (by decide) wd_198 rfl rfl dX8_advance_39 ?_
  refine j_aload_n (pc := 42) C dX8_advance_42 rfl 2 rfl ?_
  refine j_get (pc := 43) (ci := 8) (v := .int 0) C inw_8 0 rfl rfl 1 (by decide) wd_192 rfl rfl dX8_advance_43 ?_
  refine j_icmp_lt_f (pc := 46) (tgt := 65) C dX8_advance_46 (by decide) (by decide) ?_
  refine j_aload_n (pc := 49) C dX8_advance_49 rfl 2 rfl ?_
  refine j_aload_n (pc := 50) C dX8_advance_50 rfl 2 rfl ?_
  refine j_get (pc := 51) (ci := 8) (v := .int 0) C inw_8 0 rfl rfl 4 (by decide) wd_198 rfl rfl dX8_advance_51 ?_
  refine j_put (pc := 54) (ci := 8) (v := .int 0) (ws' := [(t2, .inr (8, [.ref t3, .int 0, .int 0, .int 0, .int 0, .int 0]))]) C inw_8 0 rfl rfl 2 (by decide) wd_193 rfl tyX8_ok nmX8 rfl (tyX8_ok 2 (by decide)) rfl rfl (Nat.le_of_ble_eq_true rfl) dX8_advance_54 rfl ?_
  refine j_aload_n (pc := 57) C dX8_advance_57 rfl 2 rfl ?_
  refine j_iconst (pc := 58) (v := 0) C dX8_advance_58 (by decide) ?_
  refine j_put (pc := 59) (ci := 8) (v := .int 0) (ws' := [(t2, .inr (8, [.ref t3, .int 0, .int 0, .int 0, .int 0, .int 0]))]) C inw_8 0 rfl rfl 3 (by decide) wd_203 rfl tyX8_ok nmX8 rfl (tyX8_ok 3 (by decide)) rfl rfl (Nat.le_of_ble_eq_true rfl) dX8_advance_59 rfl ?_
  refine j_goto (pc := 62) (tgt := 206) C dX8_advance_62 (by decide) ?_
  exact j_vret (pc := 206) C hr hk (fun i => [].getD i 0, fun _ => 0, fun _ _ => 0) rfl trivial [0] (by decide) rfl (by decide) (by decide) dX8_advance_206
set_option maxHeartbeats 4000000 in
set_option maxRecDepth 100000 in
theorem c_X8_start (l : Launch) (D : va_G) (cyC cyI cyJ cyZ cyO : ClassId) (t2 : Nat) (t3 : Nat) : KK l D (TY cyC cyI cyJ cyZ cyO) yX8_start cX8_start 1 none ({ frames := 2, cells := 0, slots := 0, locals := 46 } : Room) 0 0 [.ref t2] [(t2, .inr (8, [.ref t3, .int 0, .int 0, .int 0, .int 0, .int 0]))] (fun u => none) (fun u => True) (fun u => [(t2, .inr (8, [.ref t3, .int 0, .int 0, .int 0, .int 0, .int 0]))]) := by
  refine KK.of (lv0 := [(0, .ref t2)]) (by decide) rfl (Nat.le_of_ble_eq_true rfl) ?_
  intro p e s m args below meth c A C hr hk hin
  refine j_aload_n (pc := 0) C dX8_start_0 rfl 0 rfl ?_
  refine j_iconst (pc := 1) (v := 0) C dX8_start_1 (by decide) ?_
  refine j_put (pc := 2) (ci := 8) (v := .int 0) (ws' := [(t2, .inr (8, [.ref t3, .int 0, .int 0, .int 0, .int 0, .int 0]))]) C inw_8 0 rfl rfl 2 (by decide) wd_193 rfl tyX8_ok nmX8 rfl (tyX8_ok 2 (by decide)) rfl rfl (Nat.le_of_ble_eq_true rfl) dX8_start_2 rfl ?_
  refine j_aload_n (pc := 5) C dX8_start_5 rfl 0 rfl ?_
  refine j_callV (pc := 6) (As := []) (rest := []) (wr := []) C (c_X8_advance l D cyC cyI cyJ cyZ cyO t2 t3) wd_204 wd_24 wd_205 wd_206 wd_207 ⟨by decide, by decide, rfl⟩ rfl ⟨rfl, rfl, by decide, by decide⟩ ⟨by decide, by decide⟩ [0] [] rfl rfl ⟨by decide, by decide, by decide⟩ 0 rfl rfl rfl (Nat.le_of_ble_eq_true rfl) dX8_start_6 (fun u_1 hw_2 => ?_)
  refine j_eq (ws2 := [(t2, .inr (8, [.ref t3, .int 0, .int 0, .int 0, .int 0, .int 0]))]) (pc2 := 9) (lv2 := [(0, .ref t2)]) (st2 := []) rfl rfl rfl rfl ?_
  exact j_vret (pc := 9) C hr hk (fun i => [].getD i 0, fun _ => 0, fun _ _ => 0) rfl trivial [0] (by decide) rfl (by decide) (by decide) dX8_start_9
set_option maxHeartbeats 4000000 in
set_option maxRecDepth 100000 in
theorem c_X5_findMay (l : Launch) (D : va_G) (cyC cyI cyJ cyZ cyO : ClassId) (t1 : Nat) (t2 : Nat) (t4 : Nat) (t8 : Nat) (t9 : Nat) (t10 : Nat) (t11 : Nat) (t12 : Nat) (t13 : Nat) (t14 : Nat) (t15 : Nat) (t16 : Nat) (t17 : Nat) (t18 : Nat) (t19 : Nat) (t20 : Nat) : KK l D (TY cyC cyI cyJ cyZ cyO) yX5_findMay cX5_findMay 3 none ({ frames := 1, cells := 0, slots := 0, locals := 23 } : Room) 0 0 [.ref t1] [(t1, .inr (5, [.ref t2, .ref t4, .ref t8, .ref t9, .ref t10, .int 0, .int 0])), (t10, .inr (9, [.int 0, .int 0, .int 0, .ref t11, .ref t12, .ref t13, .ref t14, .ref t15, .ref t16, .int 0, .int 0, .ref t17, .ref t18, .ref t19, .ref t20])), (t17, .inl (cyI, 12, .inl (fun _ => 0)))] (fun u => none) (fun u => True) (fun u => [(t1, .inr (5, [.ref t2, .ref t4, .ref t8, .ref t9, .ref t10, .int 0, .int 0])), (t10, .inr (9, [.int 0, .int 0, .int 0, .ref t11, .ref t12, .ref t13, .ref t14, .ref t15, .ref t16, .int 0, .int 0, .ref t17, .ref t18, .ref t19, .ref t20])), (t17, .inl (cyI, 12, .inl (fun _ => 0)))]) := by
  refine KK.of (lv0 := [(0, .ref t1)]) (by decide) rfl (Nat.le_of_ble_eq_true rfl) ?_
  intro p e s m args below meth c A C hr hk hin
  refine j_aload_n (pc := 0) C dX5_findMay_0 rfl 0 rfl ?_
  refine j_get (pc := 1) (ci := 5) (v := .ref t10) C inw_5 0 rfl rfl 4 (by decide) wd_42 rfl rfl dX5_findMay_1 ?_
  refine j_get (pc := 4) (ci := 9) (v := .ref t17) C inw_9 1 rfl rfl 11 (by decide) wd_208 rfl rfl dX5_findMay_4 ?_
  refine j_iconst (pc := 7) (v := 0) C dX5_findMay_7 (by decide) ?_
  refine j_callS (pc := 8) (As := [.ref t17, .int 0]) (rest := []) (wr := [(t1, .inr (5, [.ref t2, .ref t4, .ref t8, .ref t9, .ref t10, .int 0, .int 0])), (t10, .inr (9, [.int 0, .int 0, .int 0, .ref t11, .ref t12, .ref t13, .ref t14, .ref t15, .ref t16, .int 0, .int 0, .ref t17, .ref t18, .ref t19, .ref t20]))]) C (c_fill l D cyC cyI cyJ cyZ cyO t17 0 (fun _ => 0)) wd_48 wd_49 wd_209 wd_51 ⟨by decide, by decide, rfl⟩ rfl ⟨rfl, rfl, by decide, by decide⟩ ⟨by decide, by decide⟩ [2] [0, 1] rfl rfl ⟨by decide, by decide, by decide⟩ rfl (Nat.le_of_ble_eq_true rfl) dX5_findMay_8 (fun u_1 hw_2 => ?_)
  refine j_eq (ws2 := [(t1, .inr (5, [.ref t2, .ref t4, .ref t8, .ref t9, .ref t10, .int 0, .int 0])), (t10, .inr (9, [.int 0, .int 0, .int 0, .ref t11, .ref t12, .ref t13, .ref t14, .ref t15, .ref t16, .int 0, .int 0, .ref t17, .ref t18, .ref t19, .ref t20])), (t17, .inl (cyI, 12, .inl (fun _ => 0)))]) (pc2 := 11) (lv2 := [(0, .ref t1)]) (st2 := []) rfl rfl rfl rfl ?_
  refine j_iconst (pc := 11) (v := 0) C dX5_findMay_11 (by decide) ?_
  refine j_istore_n (pc := 12) (lv' := [(1, .int 0), (0, .ref t1)]) C dX5_findMay_12 rfl (by decide) rfl ?_
  refine j_iload_n (pc := 13) C dX5_findMay_13 rfl 0 rfl ?_
  refine j_aload_n (pc := 14) C dX5_findMay_14 rfl 1 rfl ?_
  refine j_get (pc := 15) (ci := 5) (v := .ref t10) C inw_5 0 rfl rfl 4 (by decide) wd_42 rfl rfl dX5_findMay_15 ?_
  refine j_get (pc := 18) (ci := 9) (v := .int 0) C inw_9 1 rfl rfl 0 (by decide) wd_210 rfl rfl dX5_findMay_18 ?_
  refine j_icmp_ge_t (pc := 21) (tgt := 85) C dX5_findMay_21 (by decide) (by decide) ?_
  exact j_vret (pc := 85) C hr hk (fun i => [].getD i 0, fun _ => 0, fun _ _ => 0) rfl trivial [0, 1, 2] (by decide) rfl (by decide) (by decide) dX5_findMay_85
set_option maxHeartbeats 4000000 in
set_option maxRecDepth 100000 in
theorem c_X5_read (l : Launch) (D : va_G) (cyC cyI cyJ cyZ cyO : ClassId) (t1 : Nat) (t2 : Nat) (t4 : Nat) (t8 : Nat) (t9 : Nat) (t10 : Nat) (t3 : Nat) (t5 : Nat) (t6 : Nat) (t7 : Nat) (t11 : Nat) (t12 : Nat) (t13 : Nat) (t14 : Nat) (t15 : Nat) (t16 : Nat) (t17 : Nat) (t18 : Nat) (t19 : Nat) (t20 : Nat) : KK l D (TY cyC cyI cyJ cyZ cyO) yX5_read cX5_read 3 (some .int) ({ frames := 3, cells := 0, slots := 0, locals := 66 } : Room) 0 0 [.ref t1] [(t1, .inr (5, [.ref t2, .ref t4, .ref t8, .ref t9, .ref t10, .int 0, .int 0])), (t2, .inr (8, [.ref t3, .int 0, .int 0, .int 0, .int 0, .int 0])), (t4, .inr (1, [.int 0, .int 0, .ref t5, .ref t6, .ref t7])), (t10, .inr (9, [.int 0, .int 0, .int 0, .ref t11, .ref t12, .ref t13, .ref t14, .ref t15, .ref t16, .int 0, .int 0, .ref t17, .ref t18, .ref t19, .ref t20])), (t16, .inl (cyI, 12, .inl (fun _ => 0))), (t17, .inl (cyI, 12, .inl (fun _ => 0)))] (fun u => some (.int 0)) (fun u => True) (fun u => [(t1, .inr (5, [.ref t2, .ref t4, .ref t8, .ref t9, .ref t10, .int 0, .int 0])), (t2, .inr (8, [.ref t3, .int 0, .int 0, .int 0, .int 0, .int 0])), (t4, .inr (1, [.int 0, .int 0, .ref t5, .ref t6, .ref t7])), (t10, .inr (9, [.int 0, .int 0, .int 0, .ref t11, .ref t12, .ref t13, .ref t14, .ref t15, .ref t16, .int 0, .int 0, .ref t17, .ref t18, .ref t19, .ref t20])), (t16, .inl (cyI, 12, .inl (fun _ => 0))), (t17, .inl (cyI, 12, .inl (fun _ => 0)))]) := by
  refine KK.of (lv0 := [(0, .ref t1)]) (by decide) rfl (Nat.le_of_ble_eq_true rfl) ?_
  intro p e s m args below meth c A C hr hk hin
  refine j_aload_n (pc := 0) C dX5_read_0 rfl 0 rfl ?_
  refine j_get (pc := 1) (ci := 5) (v := .ref t10) C inw_5 0 rfl rfl 4 (by decide) wd_42 rfl rfl dX5_read_1 ?_
  refine j_callV (pc := 4) (As := []) (rest := []) (wr := [(t1, .inr (5, [.ref t2, .ref t4, .ref t8, .ref t9, .ref t10, .int 0, .int 0])), (t2, .inr (8, [.ref t3, .int 0, .int 0, .int 0, .int 0, .int 0])), (t4, .inr (1, [.int 0, .int 0, .ref t5, .ref t6, .ref t7])), (t17, .inl (cyI, 12, .inl (fun _ => 0)))]) C (c_X9_empty l D cyC cyI cyJ cyZ cyO t10 t11 t12 t13 t14 t15 t16 t17 t18 t19 t20) wd_211 wd_39 wd_212 wd_213 wd_214 ⟨by decide, by decide, rfl⟩ rfl ⟨rfl, rfl, by decide, by decide⟩ ⟨by decide, by decide⟩ [3, 4] [0, 1, 2, 5] rfl rfl ⟨by decide, by decide, by decide⟩ 3 rfl rfl rfl (Nat.le_of_ble_eq_true rfl) dX5_read_4 (fun u_1 hw_2 => ?_)
  refine j_eq (ws2 := [(t1, .inr (5, [.ref t2, .ref t4, .ref t8, .ref t9, .ref t10, .int 0, .int 0])), (t2, .inr (8, [.ref t3, .int 0, .int 0, .int 0, .int 0, .int 0])), (t4, .inr (1, [.int 0, .int 0, .ref t5, .ref t6, .ref t7])), (t17, .inl (cyI, 12, .inl (fun _ => 0))), (t10, .inr (9, [.int 0, .int 0, .int 0, .ref t11, .ref t12, .ref t13, .ref t14, .ref t15, .ref t16, .int 0, .int 0, .ref t17, .ref t18, .ref t19, .ref t20])), (t16, .inl (cyI, 12, .inl (fun _ => 0)))]) (pc2 := 7) (lv2 := [(0, .ref t1)]) (st2 := []) rfl rfl rfl rfl ?_
  refine j_aload_n (pc := 7) C dX5_read_7 rfl 0 rfl ?_
  refine j_get (pc := 8) (ci := 5) (v := .ref t4) C inw_5 0 rfl rfl 1 (by decide) wd_33 rfl rfl dX5_read_8 ?_
  refine j_callV (pc := 11) (As := []) (rest := []) (wr := [(t1, .inr (5, [.ref t2, .ref t4, .ref t8, .ref t9, .ref t10, .int 0, .int 0])), (t2, .inr (8, [.ref t3, .int 0, .int 0, .int 0, .int 0, .int 0])), (t17, .inl (cyI, 12, .inl (fun _ => 0))), (t10, .inr (9, [.int 0, .int 0, .int 0, .ref t11, .ref t12, .ref t13, .ref t14, .ref t15, .ref t16, .int 0, .int 0, .ref t17, .ref t18, .ref t19, .ref t20])), (t16, .inl (cyI, 12, .inl (fun _ => 0)))]) C (c_X1_empty l D cyC cyI cyJ cyZ cyO t4 t5 t6 t7) wd_215 wd_30 wd_216 wd_217 wd_218 ⟨by decide, by decide, rfl⟩ rfl ⟨rfl, rfl, by decide, by decide⟩ ⟨by decide, by decide⟩ [2] [0, 1, 3, 4, 5] rfl rfl ⟨by decide, by decide, by decide⟩ 2 rfl rfl rfl (Nat.le_of_ble_eq_true rfl) dX5_read_11 (fun u_3 hw_4 => ?_)
  refine j_eq (ws2 := [(t1, .inr (5, [.ref t2, .ref t4, .ref t8, .ref t9, .ref t10, .int 0, .int 0])), (t2, .inr (8, [.ref t3, .int 0, .int 0, .int 0, .int 0, .int 0])), (t17, .inl (cyI, 12, .inl (fun _ => 0))), (t10, .inr (9, [.int 0, .int 0, .int 0, .ref t11, .ref t12, .ref t13, .ref t14, .ref t15, .ref t16, .int 0, .int 0, .ref t17, .ref t18, .ref t19, .ref t20])), (t16, .inl (cyI, 12, .inl (fun _ => 0))), (t4, .inr (1, [.int 0, .int 0, .ref t5, .ref t6, .ref t7]))]) (pc2 := 14) (lv2 := [(0, .ref t1)]) (st2 := []) rfl rfl rfl rfl ?_
  refine j_aload_n (pc := 14) C dX5_read_14 rfl 0 rfl ?_
  refine j_iconst (pc := 15) (v := 0) C dX5_read_15 (by decide) ?_
  refine j_put (pc := 16) (ci := 5) (v := .int 0) (ws' := [(t1, .inr (5, [.ref t2, .ref t4, .ref t8, .ref t9, .ref t10, .int 0, .int 0])), (t2, .inr (8, [.ref t3, .int 0, .int 0, .int 0, .int 0, .int 0])), (t17, .inl (cyI, 12, .inl (fun _ => 0))), (t10, .inr (9, [.int 0, .int 0, .int 0, .ref t11, .ref t12, .ref t13, .ref t14, .ref t15, .ref t16, .int 0, .int 0, .ref t17, .ref t18, .ref t19, .ref t20])), (t16, .inl (cyI, 12, .inl (fun _ => 0))), (t4, .inr (1, [.int 0, .int 0, .ref t5, .ref t6, .ref t7]))]) C inw_5 0 rfl rfl 5 (by decide) wd_219 rfl tyX5_ok nmX5 rfl (tyX5_ok 5 (by decide)) rfl rfl (Nat.le_of_ble_eq_true rfl) dX5_read_16 rfl ?_
  refine j_aload_n (pc := 19) C dX5_read_19 rfl 0 rfl ?_
  refine j_iconst (pc := 20) (v := 0) C dX5_read_20 (by decide) ?_
  refine j_put (pc := 21) (ci := 5) (v := .int 0) (ws' := [(t1, .inr (5, [.ref t2, .ref t4, .ref t8, .ref t9, .ref t10, .int 0, .int 0])), (t2, .inr (8, [.ref t3, .int 0, .int 0, .int 0, .int 0, .int 0])), (t17, .inl (cyI, 12, .inl (fun _ => 0))), (t10, .inr (9, [.int 0, .int 0, .int 0, .ref t11, .ref t12, .ref t13, .ref t14, .ref t15, .ref t16, .int 0, .int 0, .ref t17, .ref t18, .ref t19, .ref t20])), (t16, .inl (cyI, 12, .inl (fun _ => 0))), (t4, .inr (1, [.int 0, .int 0, .ref t5, .ref t6, .ref t7]))]) C inw_5 0 rfl rfl 6 (by decide) wd_220 rfl tyX5_ok nmX5 rfl (tyX5_ok 6 (by decide)) rfl rfl (Nat.le_of_ble_eq_true rfl) dX5_read_21 rfl ?_
  refine j_aload_n (pc := 24) C dX5_read_24 rfl 0 rfl ?_
  refine j_get (pc := 25) (ci := 5) (v := .ref t2) C inw_5 0 rfl rfl 0 (by decide) wd_27 rfl rfl dX5_read_25 ?_
  refine j_callV (pc := 28) (As := []) (rest := []) (wr := [(t1, .inr (5, [.ref t2, .ref t4, .ref t8, .ref t9, .ref t10, .int 0, .int 0])), (t17, .inl (cyI, 12, .inl (fun _ => 0))), (t10, .inr (9, [.int 0, .int 0, .int 0, .ref t11, .ref t12, .ref t13, .ref t14, .ref t15, .ref t16, .int 0, .int 0, .ref t17, .ref t18, .ref t19, .ref t20])), (t16, .inl (cyI, 12, .inl (fun _ => 0))), (t4, .inr (1, [.int 0, .int 0, .ref t5, .ref t6, .ref t7]))]) C (c_X8_start l D cyC cyI cyJ cyZ cyO t2 t3) wd_221 wd_24 wd_222 wd_223 wd_224 ⟨by decide, by decide, rfl⟩ rfl ⟨rfl, rfl, by decide, by decide⟩ ⟨by decide, by decide⟩ [1] [0, 2, 3, 4, 5] rfl rfl ⟨by decide, by decide, by decide⟩ 1 rfl rfl rfl (Nat.le_of_ble_eq_true rfl) dX5_read_28 (fun u_5 hw_6 => ?_)
  refine j_eq (ws2 := [(t1, .inr (5, [.ref t2, .ref t4, .ref t8, .ref t9, .ref t10, .int 0, .int 0])), (t17, .inl (cyI, 12, .inl (fun _ => 0))), (t10, .inr (9, [.int 0, .int 0, .int 0, .ref t11, .ref t12, .ref t13, .ref t14, .ref t15, .ref t16, .int 0, .int 0, .ref t17, .ref t18, .ref t19, .ref t20])), (t16, .inl (cyI, 12, .inl (fun _ => 0))), (t4, .inr (1, [.int 0, .int 0, .ref t5, .ref t6, .ref t7])), (t2, .inr (8, [.ref t3, .int 0, .int 0, .int 0, .int 0, .int 0]))]) (pc2 := 31) (lv2 := [(0, .ref t1)]) (st2 := []) rfl rfl rfl rfl ?_
  refine j_iconst (pc := 31) (v := 1) C dX5_read_31 (by decide) ?_
  refine j_istore_n (pc := 32) (lv' := [(1, .int 1), (0, .ref t1)]) C dX5_read_32 rfl (by decide) rfl ?_
  refine j_iconst (pc := 33) (v := 0) C dX5_read_33 (by decide) ?_
  refine j_istore_n (pc := 34) (lv' := [(2, .int 0), (1, .int 1), (0, .ref t1)]) C dX5_read_34 rfl (by decide) rfl ?_
  refine j_iload_n (pc := 35) C dX5_read_35 rfl 0 rfl ?_
  refine j_sipush (pc := 36) (v := 1000) C dX5_read_36 (by decide) ?_
  refine j_icmp_ge_f (pc := 39) (tgt := 67) C dX5_read_39 (by decide) (by decide) ?_
  refine j_iload_n (pc := 42) C dX5_read_42 rfl 1 rfl ?_
  refine j_if_eq_f (pc := 43) (tgt := 67) C dX5_read_43 (by decide) (by decide) ?_
  refine j_aload_n (pc := 46) C dX5_read_46 rfl 2 rfl ?_
  refine j_get (pc := 47) (ci := 5) (v := .ref t2) C inw_5 0 rfl rfl 0 (by decide) wd_27 rfl rfl dX5_read_47 ?_
  refine j_get (pc := 50) (ci := 8) (v := .int 0) C inw_8 5 rfl rfl 3 (by decide) wd_225 rfl rfl dX5_read_50 ?_
  refine j_if_eq_t (pc := 53) (tgt := 67) C dX5_read_53 (by decide) (by decide) ?_
  refine j_aload_n (pc := 67) C dX5_read_67 rfl 2 rfl ?_
  refine j_get (pc := 68) (ci := 5) (v := .ref t2) C inw_5 0 rfl rfl 0 (by decide) wd_27 rfl rfl dX5_read_68 ?_
  refine j_iconst (pc := 71) (v := 0) C dX5_read_71 (by decide) ?_
  refine j_put (pc := 72) (ci := 8) (v := .int 0) (ws' := [(t1, .inr (5, [.ref t2, .ref t4, .ref t8, .ref t9, .ref t10, .int 0, .int 0])), (t17, .inl (cyI, 12, .inl (fun _ => 0))), (t10, .inr (9, [.int 0, .int 0, .int 0, .ref t11, .ref t12, .ref t13, .ref t14, .ref t15, .ref t16, .int 0, .int 0, .ref t17, .ref t18, .ref t19, .ref t20])), (t16, .inl (cyI, 12, .inl (fun _ => 0))), (t4, .inr (1, [.int 0, .int 0, .ref t5, .ref t6, .ref t7])), (t2, .inr (8, [.ref t3, .int 0, .int 0, .int 0, .int 0, .int 0]))]) C inw_8 5 rfl rfl 1 (by decide) wd_226 rfl tyX8_ok nmX8 rfl (tyX8_ok 1 (by decide)) rfl rfl (Nat.le_of_ble_eq_true rfl) dX5_read_72 rfl ?_
  refine j_iload_n (pc := 75) C dX5_read_75 rfl 1 rfl ?_
  refine j_if_eq_f (pc := 76) (tgt := 83) C dX5_read_76 (by decide) (by decide) ?_
  refine j_aload_n (pc := 79) C dX5_read_79 rfl 2 rfl ?_
  refine j_callV (pc := 80) (As := []) (rest := []) (wr := [(t16, .inl (cyI, 12, .inl (fun _ => 0))), (t4, .inr (1, [.int 0, .int 0, .ref t5, .ref t6, .ref t7])), (t2, .inr (8, [.ref t3, .int 0, .int 0, .int 0, .int 0, .int 0]))]) C (c_X5_findMay l D cyC cyI cyJ cyZ cyO t1 t2 t4 t8 t9 t10 t11 t12 t13 t14 t15 t16 t17 t18 t19 t20) wd_227 wd_72 wd_228 wd_229 wd_230 ⟨by decide, by decide, rfl⟩ rfl ⟨rfl, rfl, by decide, by decide⟩ ⟨by decide, by decide⟩ [0, 2, 1] [3, 4, 5] rfl rfl ⟨by decide, by decide, by decide⟩ 0 rfl rfl rfl (Nat.le_of_ble_eq_true rfl) dX5_read_80 (fun u_7 hw_8 => ?_)
  refine j_eq (ws2 := [(t16, .inl (cyI, 12, .inl (fun _ => 0))), (t4, .inr (1, [.int 0, .int 0, .ref t5, .ref t6, .ref t7])), (t2, .inr (8, [.ref t3, .int 0, .int 0, .int 0, .int 0, .int 0])), (t1, .inr (5, [.ref t2, .ref t4, .ref t8, .ref t9, .ref t10, .int 0, .int 0])), (t10, .inr (9, [.int 0, .int 0, .int 0, .ref t11, .ref t12, .ref t13, .ref t14, .ref t15, .ref t16, .int 0, .int 0, .ref t17, .ref t18, .ref t19, .ref t20])), (t17, .inl (cyI, 12, .inl (fun _ => 0)))]) (pc2 := 83) (lv2 := [(2, .int 0), (1, .int 1), (0, .ref t1)]) (st2 := []) rfl rfl rfl rfl ?_
  refine j_aload_n (pc := 83) C dX5_read_83 rfl 2 rfl ?_
  refine j_get (pc := 84) (ci := 5) (v := .int 0) C inw_5 3 rfl rfl 6 (by decide) wd_220 rfl rfl dX5_read_84 ?_
  exact j_iret (pc := 87) C hr hk (fun i => [].getD i 0, fun _ => 0, fun _ _ => 0) rfl trivial [3, 2, 1, 4, 0, 5] (by decide) rfl (by decide) (by decide) dX5_read_87
set_option maxHeartbeats 4000000 in
set_option maxRecDepth 100000 in
theorem c_X5_exchange (l : Launch) (D : va_G) (cyC cyI cyJ cyZ cyO : ClassId) (t1 : Nat) (t21 : Nat) (t2 : Nat) (t4 : Nat) (t8 : Nat) (t9 : Nat) (t10 : Nat) : KK l D (TY cyC cyI cyJ cyZ cyO) yX5_exchange cX5_exchange 3 (some (.object "BowlShelf$Told")) ({ frames := 0, cells := 0, slots := 0, locals := 0 } : Room) 0 0 [.ref t1, .ref t21] [(t1, .inr (5, [.ref t2, .ref t4, .ref t8, .ref t9, .ref t10, .int 0, .int 0]))] (fun u => some (.ref t10)) (fun u => True) (fun u => [(t1, .inr (5, [.ref t2, .ref t4, .ref t8, .ref t9, .ref t21, .int 0, .int 0]))]) := by
  refine KK.of (lv0 := [(0, .ref t1), (1, .ref t21)]) (by decide) rfl (Nat.le_of_ble_eq_true rfl) ?_
  intro p e s m args below meth c A C hr hk hin
  refine j_aload_n (pc := 0) C dX5_exchange_0 rfl 0 rfl ?_
  refine j_get (pc := 1) (ci := 5) (v := .ref t10) C inw_5 0 rfl rfl 4 (by decide) wd_42 rfl rfl dX5_exchange_1 ?_
  refine j_astore_n (pc := 4) (lv' := [(2, .ref t10), (0, .ref t1), (1, .ref t21)]) C dX5_exchange_4 rfl (by decide) rfl ?_
  refine j_aload_n (pc := 5) C dX5_exchange_5 rfl 1 rfl ?_
  refine j_aload_n (pc := 6) C dX5_exchange_6 rfl 2 rfl ?_
  refine j_put (pc := 7) (ci := 5) (v := .ref t21) (ws' := [(t1, .inr (5, [.ref t2, .ref t4, .ref t8, .ref t9, .ref t21, .int 0, .int 0]))]) C inw_5 0 rfl rfl 4 (by decide) wd_42 rfl tyX5_ok nmX5 rfl (tyX5_ok 4 (by decide)) rfl rfl (Nat.le_of_ble_eq_true rfl) dX5_exchange_7 rfl ?_
  refine j_aload_n (pc := 10) C dX5_exchange_10 rfl 0 rfl ?_
  exact j_aret (pc := 11) C hr (Or.inl ⟨_, rfl⟩) hk (fun i => [].getD i 0, fun _ => 0, fun _ _ => 0) rfl trivial [0] (by decide) rfl (by decide) (by decide) dX5_exchange_11
set_option maxHeartbeats 4000000 in
set_option maxRecDepth 100000 in
theorem c_X7_empty (l : Launch) (D : va_G) (cyC cyI cyJ cyZ cyO : ClassId) (t32 : Nat) (t33 : Nat) (t34 : Nat) (t35 : Nat) (t36 : Nat) : KK l D (TY cyC cyI cyJ cyZ cyO) yX7_empty cX7_empty 1 none ({ frames := 1, cells := 0, slots := 0, locals := 23 } : Room) 0 0 [.ref t32] [(t32, .inr (7, [.ref t33, .ref t34, .ref t35, .ref t36, .int 0, .int 0, .int 0])), (t33, .inl (cyI, 12, .inl (fun _ => (-1))))] (fun u => none) (fun u => True) (fun u => [(t32, .inr (7, [.ref t33, .ref t34, .ref t35, .ref t36, .int 0, .int 0, .int 0])), (t33, .inl (cyI, 12, .inl (fun _ => (-1))))]) := by
  refine KK.of (lv0 := [(0, .ref t32)]) (by decide) rfl (Nat.le_of_ble_eq_true rfl) ?_
  intro p e s m args below meth c A C hr hk hin
  refine j_aload_n (pc := 0) C dX7_empty_0 rfl 0 rfl ?_
  refine j_get (pc := 1) (ci := 7) (v := .ref t33) C inw_7 0 rfl rfl 0 (by decide) wd_44 rfl rfl dX7_empty_1 ?_
  refine j_iconst (pc := 4) (v := (-1)) C dX7_empty_4 (by decide) ?_
  refine j_callS (pc := 5) (As := [.ref t33, .int (-1)]) (rest := []) (wr := [(t32, .inr (7, [.ref t33, .ref t34, .ref t35, .ref t36, .int 0, .int 0, .int 0]))]) C (c_fill l D cyC cyI cyJ cyZ cyO t33 (-1) (fun _ => (-1))) wd_48 wd_49 wd_50 wd_51 ⟨by decide, by decide, rfl⟩ rfl ⟨rfl, rfl, by decide, by decide⟩ ⟨by decide, by decide⟩ [1] [0] rfl rfl ⟨by decide, by decide, by decide⟩ rfl (Nat.le_of_ble_eq_true rfl) dX7_empty_5 (fun u_1 hw_2 => ?_)
  refine j_eq (ws2 := [(t32, .inr (7, [.ref t33, .ref t34, .ref t35, .ref t36, .int 0, .int 0, .int 0])), (t33, .inl (cyI, 12, .inl (fun _ => (-1))))]) (pc2 := 8) (lv2 := [(0, .ref t32)]) (st2 := []) rfl rfl rfl rfl ?_
  refine j_aload_n (pc := 8) C dX7_empty_8 rfl 0 rfl ?_
  refine j_iconst (pc := 9) (v := 0) C dX7_empty_9 (by decide) ?_
  refine j_put (pc := 10) (ci := 7) (v := .int 0) (ws' := [(t32, .inr (7, [.ref t33, .ref t34, .ref t35, .ref t36, .int 0, .int 0, .int 0])), (t33, .inl (cyI, 12, .inl (fun _ => (-1))))]) C inw_7 0 rfl rfl 4 (by decide) wd_231 rfl tyX7_ok nmX7 rfl (tyX7_ok 4 (by decide)) rfl rfl (Nat.le_of_ble_eq_true rfl) dX7_empty_10 rfl ?_
  exact j_vret (pc := 13) C hr hk (fun i => [].getD i 0, fun _ => 0, fun _ _ => 0) rfl trivial [0, 1] (by decide) rfl (by decide) (by decide) dX7_empty_13
set_option maxHeartbeats 4000000 in
set_option maxRecDepth 100000 in
theorem c_X3_chain (l : Launch) (D : va_G) (cyC cyI cyJ cyZ cyO : ClassId) (t45 : Nat) (t10 : Nat) (t11 : Nat) (t12 : Nat) (t13 : Nat) (t14 : Nat) (t15 : Nat) (t16 : Nat) (t17 : Nat) (t18 : Nat) (t19 : Nat) (t20 : Nat) (t46 : Nat) (t47 : Nat) (t48 : Nat) (t49 : Nat) : KK l D (TY cyC cyI cyJ cyZ cyO) yX3_chain cX3_chain 4 none ({ frames := 1, cells := 0, slots := 0, locals := 18 } : Room) 0 0 [.ref t45, .ref t10] [(t10, .inr (9, [.int 0, .int 0, .int 0, .ref t11, .ref t12, .ref t13, .ref t14, .ref t15, .ref t16, .int 0, .int 0, .ref t17, .ref t18, .ref t19, .ref t20])), (t17, .inl (cyI, 12, .inl (fun _ => 0))), (t45, .inr (3, [.int 0, .ref t46, .ref t47, .int 0, .int 0, .int 0, .ref t48, .ref t49])), (t46, .inl (cyI, 12, .inl (fun _ => 0)))] (fun u => none) (fun u => True) (fun u => [(t10, .inr (9, [.int 0, .int 0, .int 0, .ref t11, .ref t12, .ref t13, .ref t14, .ref t15, .ref t16, .int 0, .int 0, .ref t17, .ref t18, .ref t19, .ref t20])), (t17, .inl (cyI, 12, .inl (fun _ => 0))), (t45, .inr (3, [.int 0, .ref t46, .ref t47, .int 0, .int 0, .int 0, .ref t48, .ref t49])), (t46, .inl (cyI, 12, .inl (va_cpy (fun _ => 0) (fun _ => 0) 0 0 12)))]) := by
  refine KK.of (lv0 := [(0, .ref t45), (1, .ref t10)]) (by decide) rfl (Nat.le_of_ble_eq_true rfl) ?_
  intro p e s m args below meth c A C hr hk hin
  refine j_aload_n (pc := 0) C dX3_chain_0 rfl 0 rfl ?_
  refine j_aload_n (pc := 1) C dX3_chain_1 rfl 1 rfl ?_
  refine j_get (pc := 2) (ci := 9) (v := .int 0) C inw_9 0 rfl rfl 0 (by decide) wd_232 rfl rfl dX3_chain_2 ?_
  refine j_put (pc := 5) (ci := 3) (v := .int 0) (ws' := [(t10, .inr (9, [.int 0, .int 0, .int 0, .ref t11, .ref t12, .ref t13, .ref t14, .ref t15, .ref t16, .int 0, .int 0, .ref t17, .ref t18, .ref t19, .ref t20])), (t17, .inl (cyI, 12, .inl (fun _ => 0))), (t45, .inr (3, [.int 0, .ref t46, .ref t47, .int 0, .int 0, .int 0, .ref t48, .ref t49])), (t46, .inl (cyI, 12, .inl (fun _ => 0)))]) C inw_3 2 rfl rfl 0 (by decide) wd_233 rfl tyX3_ok nmX3 rfl (tyX3_ok 0 (by decide)) rfl rfl (Nat.le_of_ble_eq_true rfl) dX3_chain_5 rfl ?_
  refine j_aload_n (pc := 8) C dX3_chain_8 rfl 0 rfl ?_
  refine j_iconst (pc := 9) (v := 0) C dX3_chain_9 (by decide) ?_
  refine j_put (pc := 10) (ci := 3) (v := .int 0) (ws' := [(t10, .inr (9, [.int 0, .int 0, .int 0, .ref t11, .ref t12, .ref t13, .ref t14, .ref t15, .ref t16, .int 0, .int 0, .ref t17, .ref t18, .ref t19, .ref t20])), (t17, .inl (cyI, 12, .inl (fun _ => 0))), (t45, .inr (3, [.int 0, .ref t46, .ref t47, .int 0, .int 0, .int 0, .ref t48, .ref t49])), (t46, .inl (cyI, 12, .inl (fun _ => 0)))]) C inw_3 2 rfl rfl 3 (by decide) wd_234 rfl tyX3_ok nmX3 rfl (tyX3_ok 3 (by decide)) rfl rfl (Nat.le_of_ble_eq_true rfl) dX3_chain_10 rfl ?_
  refine j_aload_n (pc := 13) C dX3_chain_13 rfl 1 rfl ?_
  refine j_get (pc := 14) (ci := 9) (v := .ref t17) C inw_9 0 rfl rfl 11 (by decide) wd_235 rfl rfl dX3_chain_14 ?_
  refine j_iconst (pc := 17) (v := 0) C dX3_chain_17 (by decide) ?_
  refine j_aload_n (pc := 18) C dX3_chain_18 rfl 0 rfl ?_
  refine j_get (pc := 19) (ci := 3) (v := .ref t46) C inw_3 2 rfl rfl 1 (by decide) wd_55 rfl rfl dX3_chain_19 ?_
  refine j_iconst (pc := 22) (v := 0) C dX3_chain_22 (by decide) ?_
  refine j_bipush (pc := 23) (v := 12) C dX3_chain_23 (by decide) ?_
  refine j_acpy (pc := 25) (ks := 0) (kd := 0) (kn := 12) (ws' := [(t10, .inr (9, [.int 0, .int 0, .int 0, .ref t11, .ref t12, .ref t13, .ref t14, .ref t15, .ref t16, .int 0, .int 0, .ref t17, .ref t18, .ref t19, .ref t20])), (t17, .inl (cyI, 12, .inl (fun _ => 0))), (t45, .inr (3, [.int 0, .ref t46, .ref t47, .int 0, .int 0, .int 0, .ref t48, .ref t49])), (t46, .inl (cyI, 12, .inl (va_cpy (fun _ => 0) (fun _ => 0) 0 0 12)))]) C wd_236 wd_237 wd_238 wd_239 1 3 1 rfl rfl rfl (by decide) (by decide) (by decide) (by decide) (by decide) (by decide) (by decide) (by decide) (by decide) (Nat.le_of_ble_eq_true rfl) dX3_chain_25 rfl ?_
  refine j_iconst (pc := 28) (v := 0) C dX3_chain_28 (by decide) ?_
  refine j_istore_n (pc := 29) (lv' := [(2, .int 0), (0, .ref t45), (1, .ref t10)]) C dX3_chain_29 rfl (by decide) rfl ?_
  refine j_iload_n (pc := 30) C dX3_chain_30 rfl 0 rfl ?_
  refine j_aload_n (pc := 31) C dX3_chain_31 rfl 1 rfl ?_
  refine j_get (pc := 32) (ci := 3) (v := .int 0) C inw_3 2 rfl rfl 0 (by decide) wd_233 rfl rfl dX3_chain_32 ?_
  refine j_icmp_ge_t (pc := 35) (tgt := 89) C dX3_chain_35 (by decide) (by decide) ?_
  exact j_vret (pc := 89) C hr hk (fun i => [].getD i 0, fun _ => 0, fun _ _ => 0) rfl trivial [0, 1, 2, 3] (by decide) rfl (by decide) (by decide) dX3_chain_89
set_option maxHeartbeats 4000000 in
set_option maxRecDepth 100000 in
theorem c_X10_cupboard (l : Launch) (D : va_G) (cyC cyI cyJ cyZ cyO : ClassId) (t0 : Nat) (t1 : Nat) (t21 : Nat) (t32 : Nat) (t37 : Nat) (t42 : Nat) (t43 : Nat) (t45 : Nat) (t50 : Nat) (t54 : Nat) (t58 : Nat) (t2 : Nat) (t4 : Nat) (t8 : Nat) (t9 : Nat) (t10 : Nat) (t3 : Nat) (t5 : Nat) (t6 : Nat) (t7 : Nat) (t11 : Nat) (t12 : Nat) (t13 : Nat) (t14 : Nat) (t15 : Nat) (t16 : Nat) (t17 : Nat) (t18 : Nat) (t19 : Nat) (t20 : Nat) (t33 : Nat) (t34 : Nat) (t35 : Nat) (t36 : Nat) (t60 : Nat) (t65 : Nat) (t70 : Nat) (t75 : Nat) (t46 : Nat) (t47 : Nat) (t48 : Nat) (t49 : Nat) (t51 : Nat) (t52 : Nat) (t53 : Nat) (t61 : Nat) (t62 : Nat) (t63 : Nat) (t64 : Nat) (t66 : Nat) (t67 : Nat) (t68 : Nat) (t69 : Nat) (t71 : Nat) (t72 : Nat) (t73 : Nat) (t74 : Nat) (t76 : Nat) (t77 : Nat) (t78 : Nat) (t79 : Nat) : KK l D (TY cyC cyI cyJ cyZ cyO) yX10_cupboard cX10_cupboard 3 (some .int) ({ frames := 4, cells := 0, slots := 0, locals := 88 } : Room) 0 0 [.ref t0] [(t0, .inr (10, [.ref t1, .ref t21, .ref t32, .ref t37, .ref t42, .ref t43, .ref t45, .ref t50, .ref t54, .ref t58])), (t1, .inr (5, [.ref t2, .ref t4, .ref t8, .ref t9, .ref t10, .int 0, .int 0])), (t2, .inr (8, [.ref t3, .int 0, .int 0, .int 0, .int 0, .int 0])), (t4, .inr (1, [.int 0, .int 0, .ref t5, .ref t6, .ref t7])), (t10, .inr (9, [.int 0, .int 0, .int 0, .ref t11, .ref t12, .ref t13, .ref t14, .ref t15, .ref t16, .int 0, .int 0, .ref t17, .ref t18, .ref t19, .ref t20])), (t16, .inl (cyI, 12, .inl (fun _ => 0))), (t17, .inl (cyI, 12, .inl (fun _ => 0))), (t32, .inr (7, [.ref t33, .ref t34, .ref t35, .ref t36, .int 0, .int 0, .int 0])), (t33, .inl (cyI, 12, .inl (fun _ => (-1)))), (t42, .inl (cyO, 4, .inr (.inr (.inr (.inr (va_up (va_up (va_up (va_up (fun _ => none) 0 (some t60)) 1 (some t65)) 2 (some t70)) 3 (some t75))))))), (t45, .inr (3, [.int 0, .ref t46, .ref t47, .int 0, .int 0, .int 0, .ref t48, .ref t49])), (t46, .inl (cyI, 12, .inl (fun _ => 0))), (t50, .inr (0, [.int 0, .int 0, .ref t51, .ref t52, .ref t53])), (t60, .inr (7, [.ref t61, .ref t62, .ref t63, .ref t64, .int 0, .int 0, .int 0])), (t65, .inr (7, [.ref t66, .ref t67, .ref t68, .ref t69, .int 0, .int 0, .int 0])), (t70, .inr (7, [.ref t71, .ref t72, .ref t73, .ref t74, .int 0, .int 0, .int 0])), (t75, .inr (7, [.ref t76, .ref t77, .ref t78, .ref t79, .int 0, .int 0, .int 0]))] (fun u => some (.int 0)) (fun u => True) (fun u => []) := by
  refine KK.of (lv0 := [(0, .ref t0)]) (by decide) rfl (Nat.le_of_ble_eq_true rfl) ?_
  intro p e s m args below meth c A C hr hk hin
  refine j_aload_n (pc := 0) C dX10_cupboard_0 rfl 0 rfl ?_
  refine j_get (pc := 1) (ci := 10) (v := .ref t1) C inw_10 0 rfl rfl 0 (by decide) wd_75 rfl rfl dX10_cupboard_1 ?_
  refine j_callV (pc := 4) (As := []) (rest := []) (wr := [(t0, .inr (10, [.ref t1, .ref t21, .ref t32, .ref t37, .ref t42, .ref t43, .ref t45, .ref t50, .ref t54, .ref t58])), (t32, .inr (7, [.ref t33, .ref t34, .ref t35, .ref t36, .int 0, .int 0, .int 0])), (t33, .inl (cyI, 12, .inl (fun _ => (-1)))), (t42, .inl (cyO, 4, .inr (.inr (.inr (.inr (va_up (va_up (va_up (va_up (fun _ => none) 0 (some t60)) 1 (some t65)) 2 (some t70)) 3 (some t75))))))), (t45, .inr (3, [.int 0, .ref t46, .ref t47, .int 0, .int 0, .int 0, .ref t48, .ref t49])), (t46, .inl (cyI, 12, .inl (fun _ => 0))), (t50, .inr (0, [.int 0, .int 0, .ref t51, .ref t52, .ref t53])), (t60, .inr (7, [.ref t61, .ref t62, .ref t63, .ref t64, .int 0, .int 0, .int 0])), (t65, .inr (7, [.ref t66, .ref t67, .ref t68, .ref t69, .int 0, .int 0, .int 0])), (t70, .inr (7, [.ref t71, .ref t72, .ref t73, .ref t74, .int 0, .int 0, .int 0])), (t75, .inr (7, [.ref t76, .ref t77, .ref t78, .ref t79, .int 0, .int 0, .int 0]))]) C (c_X5_read l D cyC cyI cyJ cyZ cyO t1 t2 t4 t8 t9 t10 t3 t5 t6 t7 t11 t12 t13 t14 t15 t16 t17 t18 t19 t20) wd_240 wd_72 wd_241 wd_242 wd_243 ⟨by decide, by decide, rfl⟩ rfl ⟨rfl, rfl, by decide, by decide⟩ ⟨by decide, by decide⟩ [1, 2, 3, 4, 5, 6] [0, 7, 8, 9, 10, 11, 12, 13, 14, 15, 16] rfl rfl ⟨by decide, by decide, by decide⟩ 1 rfl rfl rfl (Nat.le_of_ble_eq_true rfl) dX10_cupboard_4 (fun u_1 hw_2 => ?_)
  refine j_eq (ws2 := [(t0, .inr (10, [.ref t1, .ref t21, .ref t32, .ref t37, .ref t42, .ref t43, .ref t45, .ref t50, .ref t54, .ref t58])), (t32, .inr (7, [.ref t33, .ref t34, .ref t35, .ref t36, .int 0, .int 0, .int 0])), (t33, .inl (cyI, 12, .inl (fun _ => (-1)))), (t42, .inl (cyO, 4, .inr (.inr (.inr (.inr (va_up (va_up (va_up (va_up (fun _ => none) 0 (some t60)) 1 (some t65)) 2 (some t70)) 3 (some t75))))))), (t45, .inr (3, [.int 0, .ref t46, .ref t47, .int 0, .int 0, .int 0, .ref t48, .ref t49])), (t46, .inl (cyI, 12, .inl (fun _ => 0))), (t50, .inr (0, [.int 0, .int 0, .ref t51, .ref t52, .ref t53])), (t60, .inr (7, [.ref t61, .ref t62, .ref t63, .ref t64, .int 0, .int 0, .int 0])), (t65, .inr (7, [.ref t66, .ref t67, .ref t68, .ref t69, .int 0, .int 0, .int 0])), (t70, .inr (7, [.ref t71, .ref t72, .ref t73, .ref t74, .int 0, .int 0, .int 0])), (t75, .inr (7, [.ref t76, .ref t77, .ref t78, .ref t79, .int 0, .int 0, .int 0])), (t1, .inr (5, [.ref t2, .ref t4, .ref t8, .ref t9, .ref t10, .int 0, .int 0])), (t2, .inr (8, [.ref t3, .int 0, .int 0, .int 0, .int 0, .int 0])), (t4, .inr (1, [.int 0, .int 0, .ref t5, .ref t6, .ref t7])), (t10, .inr (9, [.int 0, .int 0, .int 0, .ref t11, .ref t12, .ref t13, .ref t14, .ref t15, .ref t16, .int 0, .int 0, .ref t17, .ref t18, .ref t19, .ref t20])), (t16, .inl (cyI, 12, .inl (fun _ => 0))), (t17, .inl (cyI, 12, .inl (fun _ => 0)))]) (pc2 := 7) (lv2 := [(0, .ref t0)]) (st2 := [.int 0]) rfl rfl rfl rfl ?_
  refine j_istore_n (pc := 7) (lv' := [(1, .int 0), (0, .ref t0)]) C dX10_cupboard_7 rfl (by decide) rfl ?_
  refine j_iload_n (pc := 8) C dX10_cupboard_8 rfl 0 rfl ?_
  refine j_if_eq_t (pc := 9) (tgt := 14) C dX10_cupboard_9 (by decide) (by decide) ?_
  refine j_aload_n (pc := 14) C dX10_cupboard_14 rfl 1 rfl ?_
  refine j_aload_n (pc := 15) C dX10_cupboard_15 rfl 1 rfl ?_
  refine j_get (pc := 16) (ci := 10) (v := .ref t1) C inw_10 0 rfl rfl 0 (by decide) wd_75 rfl rfl dX10_cupboard_16 ?_
  refine j_aload_n (pc := 19) C dX10_cupboard_19 rfl 1 rfl ?_
  refine j_get (pc := 20) (ci := 10) (v := .ref t21) C inw_10 0 rfl rfl 1 (by decide) wd_77 rfl rfl dX10_cupboard_20 ?_
  refine j_callV (pc := 23) (As := [.ref t21]) (rest := [.ref t0]) (wr := [(t0, .inr (10, [.ref t1, .ref t21, .ref t32, .ref t37, .ref t42, .ref t43, .ref t45, .ref t50, .ref t54, .ref t58])), (t32, .inr (7, [.ref t33, .ref t34, .ref t35, .ref t36, .int 0, .int 0, .int 0])), (t33, .inl (cyI, 12, .inl (fun _ => (-1)))), (t42, .inl (cyO, 4, .inr (.inr (.inr (.inr (va_up (va_up (va_up (va_up (fun _ => none) 0 (some t60)) 1 (some t65)) 2 (some t70)) 3 (some t75))))))), (t45, .inr (3, [.int 0, .ref t46, .ref t47, .int 0, .int 0, .int 0, .ref t48, .ref t49])), (t46, .inl (cyI, 12, .inl (fun _ => 0))), (t50, .inr (0, [.int 0, .int 0, .ref t51, .ref t52, .ref t53])), (t60, .inr (7, [.ref t61, .ref t62, .ref t63, .ref t64, .int 0, .int 0, .int 0])), (t65, .inr (7, [.ref t66, .ref t67, .ref t68, .ref t69, .int 0, .int 0, .int 0])), (t70, .inr (7, [.ref t71, .ref t72, .ref t73, .ref t74, .int 0, .int 0, .int 0])), (t75, .inr (7, [.ref t76, .ref t77, .ref t78, .ref t79, .int 0, .int 0, .int 0])), (t2, .inr (8, [.ref t3, .int 0, .int 0, .int 0, .int 0, .int 0])), (t4, .inr (1, [.int 0, .int 0, .ref t5, .ref t6, .ref t7])), (t10, .inr (9, [.int 0, .int 0, .int 0, .ref t11, .ref t12, .ref t13, .ref t14, .ref t15, .ref t16, .int 0, .int 0, .ref t17, .ref t18, .ref t19, .ref t20])), (t16, .inl (cyI, 12, .inl (fun _ => 0))), (t17, .inl (cyI, 12, .inl (fun _ => 0)))]) C (c_X5_exchange l D cyC cyI cyJ cyZ cyO t1 t21 t2 t4 t8 t9 t10) wd_244 wd_72 wd_245 wd_246 wd_247 ⟨by decide, by decide, rfl⟩ rfl ⟨rfl, rfl, by decide, by decide⟩ ⟨by decide, by decide⟩ [11] [0, 1, 2, 3, 4, 5, 6, 7, 8, 9, 10, 12, 13, 14, 15, 16] rfl rfl ⟨by decide, by decide, by decide⟩ 11 rfl rfl rfl (Nat.le_of_ble_eq_true rfl) dX10_cupboard_23 (fun u_3 hw_4 => ?_)
  refine j_eq (ws2 := [(t0, .inr (10, [.ref t1, .ref t21, .ref t32, .ref t37, .ref t42, .ref t43, .ref t45, .ref t50, .ref t54, .ref t58])), (t32, .inr (7, [.ref t33, .ref t34, .ref t35, .ref t36, .int 0, .int 0, .int 0])), (t33, .inl (cyI, 12, .inl (fun _ => (-1)))), (t42, .inl (cyO, 4, .inr (.inr (.inr (.inr (va_up (va_up (va_up (va_up (fun _ => none) 0 (some t60)) 1 (some t65)) 2 (some t70)) 3 (some t75))))))), (t45, .inr (3, [.int 0, .ref t46, .ref t47, .int 0, .int 0, .int 0, .ref t48, .ref t49])), (t46, .inl (cyI, 12, .inl (fun _ => 0))), (t50, .inr (0, [.int 0, .int 0, .ref t51, .ref t52, .ref t53])), (t60, .inr (7, [.ref t61, .ref t62, .ref t63, .ref t64, .int 0, .int 0, .int 0])), (t65, .inr (7, [.ref t66, .ref t67, .ref t68, .ref t69, .int 0, .int 0, .int 0])), (t70, .inr (7, [.ref t71, .ref t72, .ref t73, .ref t74, .int 0, .int 0, .int 0])), (t75, .inr (7, [.ref t76, .ref t77, .ref t78, .ref t79, .int 0, .int 0, .int 0])), (t2, .inr (8, [.ref t3, .int 0, .int 0, .int 0, .int 0, .int 0])), (t4, .inr (1, [.int 0, .int 0, .ref t5, .ref t6, .ref t7])), (t10, .inr (9, [.int 0, .int 0, .int 0, .ref t11, .ref t12, .ref t13, .ref t14, .ref t15, .ref t16, .int 0, .int 0, .ref t17, .ref t18, .ref t19, .ref t20])), (t16, .inl (cyI, 12, .inl (fun _ => 0))), (t17, .inl (cyI, 12, .inl (fun _ => 0))), (t1, .inr (5, [.ref t2, .ref t4, .ref t8, .ref t9, .ref t21, .int 0, .int 0]))]) (pc2 := 26) (lv2 := [(1, .int 0), (0, .ref t0)]) (st2 := [.ref t10, .ref t0]) rfl rfl rfl rfl ?_
  refine j_put (pc := 26) (ci := 10) (v := .ref t10) (ws' := [(t0, .inr (10, [.ref t1, .ref t10, .ref t32, .ref t37, .ref t42, .ref t43, .ref t45, .ref t50, .ref t54, .ref t58])), (t32, .inr (7, [.ref t33, .ref t34, .ref t35, .ref t36, .int 0, .int 0, .int 0])), (t33, .inl (cyI, 12, .inl (fun _ => (-1)))), (t42, .inl (cyO, 4, .inr (.inr (.inr (.inr (va_up (va_up (va_up (va_up (fun _ => none) 0 (some t60)) 1 (some t65)) 2 (some t70)) 3 (some t75))))))), (t45, .inr (3, [.int 0, .ref t46, .ref t47, .int 0, .int 0, .int 0, .ref t48, .ref t49])), (t46, .inl (cyI, 12, .inl (fun _ => 0))), (t50, .inr (0, [.int 0, .int 0, .ref t51, .ref t52, .ref t53])), (t60, .inr (7, [.ref t61, .ref t62, .ref t63, .ref t64, .int 0, .int 0, .int 0])), (t65, .inr (7, [.ref t66, .ref t67, .ref t68, .ref t69, .int 0, .int 0, .int 0])), (t70, .inr (7, [.ref t71, .ref t72, .ref t73, .ref t74, .int 0, .int 0, .int 0])), (t75, .inr (7, [.ref t76, .ref t77, .ref t78, .ref t79, .int 0, .int 0, .int 0])), (t2, .inr (8, [.ref t3, .int 0, .int 0, .int 0, .int 0, .int 0])), (t4, .inr (1, [.int 0, .int 0, .ref t5, .ref t6, .ref t7])), (t10, .inr (9, [.int 0, .int 0, .int 0, .ref t11, .ref t12, .ref t13, .ref t14, .ref t15, .ref t16, .int 0, .int 0, .ref t17, .ref t18, .ref t19, .ref t20])), (t16, .inl (cyI, 12, .inl (fun _ => 0))), (t17, .inl (cyI, 12, .inl (fun _ => 0))), (t1, .inr (5, [.ref t2, .ref t4, .ref t8, .ref t9, .ref t21, .int 0, .int 0]))]) C inw_10 0 rfl rfl 1 (by decide) wd_77 rfl tyX10_ok nmX10 rfl (tyX10_ok 1 (by decide)) rfl rfl (Nat.le_of_ble_eq_true rfl) dX10_cupboard_26 rfl ?_
  refine j_aload_n (pc := 29) C dX10_cupboard_29 rfl 1 rfl ?_
  refine j_get (pc := 30) (ci := 10) (v := .ref t32) C inw_10 0 rfl rfl 2 (by decide) wd_84 rfl rfl dX10_cupboard_30 ?_
  refine j_callV (pc := 33) (As := []) (rest := []) (wr := [(t0, .inr (10, [.ref t1, .ref t10, .ref t32, .ref t37, .ref t42, .ref t43, .ref t45, .ref t50, .ref t54, .ref t58])), (t42, .inl (cyO, 4, .inr (.inr (.inr (.inr (va_up (va_up (va_up (va_up (fun _ => none) 0 (some t60)) 1 (some t65)) 2 (some t70)) 3 (some t75))))))), (t45, .inr (3, [.int 0, .ref t46, .ref t47, .int 0, .int 0, .int 0, .ref t48, .ref t49])), (t46, .inl (cyI, 12, .inl (fun _ => 0))), (t50, .inr (0, [.int 0, .int 0, .ref t51, .ref t52, .ref t53])), (t60, .inr (7, [.ref t61, .ref t62, .ref t63, .ref t64, .int 0, .int 0, .int 0])), (t65, .inr (7, [.ref t66, .ref t67, .ref t68, .ref t69, .int 0, .int 0, .int 0])), (t70, .inr (7, [.ref t71, .ref t72, .ref t73, .ref t74, .int 0, .int 0, .int 0])), (t75, .inr (7, [.ref t76, .ref t77, .ref t78, .ref t79, .int 0, .int 0, .int 0])), (t2, .inr (8, [.ref t3, .int 0, .int 0, .int 0, .int 0, .int 0])), (t4, .inr (1, [.int 0, .int 0, .ref t5, .ref t6, .ref t7])), (t10, .inr (9, [.int 0, .int 0, .int 0, .ref t11, .ref t12, .ref t13, .ref t14, .ref t15, .ref t16, .int 0, .int 0, .ref t17, .ref t18, .ref t19, .ref t20])), (t16, .inl (cyI, 12, .inl (fun _ => 0))), (t17, .inl (cyI, 12, .inl (fun _ => 0))), (t1, .inr (5, [.ref t2, .ref t4, .ref t8, .ref t9, .ref t21, .int 0, .int 0]))]) C (c_X7_empty l D cyC cyI cyJ cyZ cyO t32 t33 t34 t35 t36) wd_248 wd_80 wd_249 wd_250 wd_251 ⟨by decide, by decide, rfl⟩ rfl ⟨rfl, rfl, by decide, by decide⟩ ⟨by decide, by decide⟩ [1, 2] [0, 3, 4, 5, 6, 7, 8, 9, 10, 11, 12, 13, 14, 15, 16] rfl rfl ⟨by decide, by decide, by decide⟩ 1 rfl rfl rfl (Nat.le_of_ble_eq_true rfl) dX10_cupboard_33 (fun u_5 hw_6 => ?_)
  refine j_eq (ws2 := [(t0, .inr (10, [.ref t1, .ref t10, .ref t32, .ref t37, .ref t42, .ref t43, .ref t45, .ref t50, .ref t54, .ref t58])), (t42, .inl (cyO, 4, .inr (.inr (.inr (.inr (va_up (va_up (va_up (va_up (fun _ => none) 0 (some t60)) 1 (some t65)) 2 (some t70)) 3 (some t75))))))), (t45, .inr (3, [.int 0, .ref t46, .ref t47, .int 0, .int 0, .int 0, .ref t48, .ref t49])), (t46, .inl (cyI, 12, .inl (fun _ => 0))), (t50, .inr (0, [.int 0, .int 0, .ref t51, .ref t52, .ref t53])), (t60, .inr (7, [.ref t61, .ref t62, .ref t63, .ref t64, .int 0, .int 0, .int 0])), (t65, .inr (7, [.ref t66, .ref t67, .ref t68, .ref t69, .int 0, .int 0, .int 0])), (t70, .inr (7, [.ref t71, .ref t72, .ref t73, .ref t74, .int 0, .int 0, .int 0])), (t75, .inr (7, [.ref t76, .ref t77, .ref t78, .ref t79, .int 0, .int 0, .int 0])), (t2, .inr (8, [.ref t3, .int 0, .int 0, .int 0, .int 0, .int 0])), (t4, .inr (1, [.int 0, .int 0, .ref t5, .ref t6, .ref t7])), (t10, .inr (9, [.int 0, .int 0, .int 0, .ref t11, .ref t12, .ref t13, .ref t14, .ref t15, .ref t16, .int 0, .int 0, .ref t17, .ref t18, .ref t19, .ref t20])), (t16, .inl (cyI, 12, .inl (fun _ => 0))), (t17, .inl (cyI, 12, .inl (fun _ => 0))), (t1, .inr (5, [.ref t2, .ref t4, .ref t8, .ref t9, .ref t21, .int 0, .int 0])), (t32, .inr (7, [.ref t33, .ref t34, .ref t35, .ref t36, .int 0, .int 0, .int 0])), (t33, .inl (cyI, 12, .inl (fun _ => (-1))))]) (pc2 := 36) (lv2 := [(1, .int 0), (0, .ref t0)]) (st2 := []) rfl rfl rfl rfl ?_
  refine j_iconst (pc := 36) (v := 0) C dX10_cupboard_36 (by decide) ?_
  refine j_istore_n (pc := 37) (lv' := [(2, .int 0), (1, .int 0), (0, .ref t0)]) C dX10_cupboard_37 rfl (by decide) rfl ?_
  refine j_iload_n (pc := 38) C dX10_cupboard_38 rfl 0 rfl ?_
  refine j_iconst (pc := 39) (v := 4) C dX10_cupboard_39 (by decide) ?_
  refine j_icmp_ge_f (pc := 40) (tgt := 59) C dX10_cupboard_40 (by decide) (by decide) ?_
  refine j_aload_n (pc := 43) C dX10_cupboard_43 rfl 2 rfl ?_
  refine j_get (pc := 44) (ci := 10) (v := .ref t42) C inw_10 0 rfl rfl 4 (by decide) wd_86 rfl rfl dX10_cupboard_44 ?_
  refine j_iload_n (pc := 47) C dX10_cupboard_47 rfl 0 rfl ?_
  refine j_aald (pc := 48) (v := .ref t60) (k := 0) C 1 4 rfl rfl (by decide) (by decide) (by decide) rfl dX10_cupboard_48 ?_
  refine j_iconst (pc := 49) (v := 0) C dX10_cupboard_49 (by decide) ?_
  refine j_put (pc := 50) (ci := 7) (v := .int 0) (ws' := [(t0, .inr (10, [.ref t1, .ref t10, .ref t32, .ref t37, .ref t42, .ref t43, .ref t45, .ref t50, .ref t54, .ref t58])), (t42, .inl (cyO, 4, .inr (.inr (.inr (.inr (va_up (va_up (va_up (va_up (fun _ => none) 0 (some t60)) 1 (some t65)) 2 (some t70)) 3 (some t75))))))), (t45, .inr (3, [.int 0, .ref t46, .ref t47, .int 0, .int 0, .int 0, .ref t48, .ref t49])), (t46, .inl (cyI, 12, .inl (fun _ => 0))), (t50, .inr (0, [.int 0, .int 0, .ref t51, .ref t52, .ref t53])), (t60, .inr (7, [.ref t61, .ref t62, .ref t63, .ref t64, .int 0, .int 0, .int 0])), (t65, .inr (7, [.ref t66, .ref t67, .ref t68, .ref t69, .int 0, .int 0, .int 0])), (t70, .inr (7, [.ref t71, .ref t72, .ref t73, .ref t74, .int 0, .int 0, .int 0])), (t75, .inr (7, [.ref t76, .ref t77, .ref t78, .ref t79, .int 0, .int 0, .int 0])), (t2, .inr (8, [.ref t3, .int 0, .int 0, .int 0, .int 0, .int 0])), (t4, .inr (1, [.int 0, .int 0, .ref t5, .ref t6, .ref t7])), (t10, .inr (9, [.int 0, .int 0, .int 0, .ref t11, .ref t12, .ref t13, .ref t14, .ref t15, .ref t16, .int 0, .int 0, .ref t17, .ref t18, .ref t19, .ref t20])), (t16, .inl (cyI, 12, .inl (fun _ => 0))), (t17, .inl (cyI, 12, .inl (fun _ => 0))), (t1, .inr (5, [.ref t2, .ref t4, .ref t8, .ref t9, .ref t21, .int 0, .int 0])), (t32, .inr (7, [.ref t33, .ref t34, .ref t35, .ref t36, .int 0, .int 0, .int 0])), (t33, .inl (cyI, 12, .inl (fun _ => (-1))))]) C inw_7 5 rfl rfl 6 (by decide) wd_252 rfl tyX7_ok nmX7 rfl (tyX7_ok 6 (by decide)) rfl rfl (Nat.le_of_ble_eq_true rfl) dX10_cupboard_50 rfl ?_
  refine j_iinc (pc := 53) (v := 1) (lv' := [(2, .int 1), (1, .int 0), (0, .ref t0)]) C dX10_cupboard_53 0 rfl (by decide) (by decide) rfl ?_
  refine j_goto (pc := 56) (tgt := 38) C dX10_cupboard_56 (by decide) ?_
  refine j_iload_n (pc := 38) C dX10_cupboard_38 rfl 0 rfl ?_
  refine j_iconst (pc := 39) (v := 4) C dX10_cupboard_39 (by decide) ?_
  refine j_icmp_ge_f (pc := 40) (tgt := 59) C dX10_cupboard_40 (by decide) (by decide) ?_
  refine j_aload_n (pc := 43) C dX10_cupboard_43 rfl 2 rfl ?_
  refine j_get (pc := 44) (ci := 10) (v := .ref t42) C inw_10 0 rfl rfl 4 (by decide) wd_86 rfl rfl dX10_cupboard_44 ?_
  refine j_iload_n (pc := 47) C dX10_cupboard_47 rfl 0 rfl ?_
  refine j_aald (pc := 48) (v := .ref t65) (k := 1) C 1 4 rfl rfl (by decide) (by decide) (by decide) rfl dX10_cupboard_48 ?_
  refine j_iconst (pc := 49) (v := 0) C dX10_cupboard_49 (by decide) ?_
  refine j_put (pc := 50) (ci := 7) (v := .int 0) (ws' := [(t0, .inr (10, [.ref t1, .ref t10, .ref t32, .ref t37, .ref t42, .ref t43, .ref t45, .ref t50, .ref t54, .ref t58])), (t42, .inl (cyO, 4, .inr (.inr (.inr (.inr (va_up (va_up (va_up (va_up (fun _ => none) 0 (some t60)) 1 (some t65)) 2 (some t70)) 3 (some t75))))))), (t45, .inr (3, [.int 0, .ref t46, .ref t47, .int 0, .int 0, .int 0, .ref t48, .ref t49])), (t46, .inl (cyI, 12, .inl (fun _ => 0))), (t50, .inr (0, [.int 0, .int 0, .ref t51, .ref t52, .ref t53])), (t60, .inr (7, [.ref t61, .ref t62, .ref t63, .ref t64, .int 0, .int 0, .int 0])), (t65, .inr (7, [.ref t66, .ref t67, .ref t68, .ref t69, .int 0, .int 0, .int 0])), (t70, .inr (7, [.ref t71, .ref t72, .ref t73, .ref t74, .int 0, .int 0, .int 0])), (t75, .inr (7, [.ref t76, .ref t77, .ref t78, .ref t79, .int 0, .int 0, .int 0])), (t2, .inr (8, [.ref t3, .int 0, .int 0, .int 0, .int 0, .int 0])), (t4, .inr (1, [.int 0, .int 0, .ref t5, .ref t6, .ref t7])), (t10, .inr (9, [.int 0, .int 0, .int 0, .ref t11, .ref t12, .ref t13, .ref t14, .ref t15, .ref t16, .int 0, .int 0, .ref t17, .ref t18, .ref t19, .ref t20])), (t16, .inl (cyI, 12, .inl (fun _ => 0))), (t17, .inl (cyI, 12, .inl (fun _ => 0))), (t1, .inr (5, [.ref t2, .ref t4, .ref t8, .ref t9, .ref t21, .int 0, .int 0])), (t32, .inr (7, [.ref t33, .ref t34, .ref t35, .ref t36, .int 0, .int 0, .int 0])), (t33, .inl (cyI, 12, .inl (fun _ => (-1))))]) C inw_7 6 rfl rfl 6 (by decide) wd_252 rfl tyX7_ok nmX7 rfl (tyX7_ok 6 (by decide)) rfl rfl (Nat.le_of_ble_eq_true rfl) dX10_cupboard_50 rfl ?_
  refine j_iinc (pc := 53) (v := 2) (lv' := [(2, .int 2), (1, .int 0), (0, .ref t0)]) C dX10_cupboard_53 0 rfl (by decide) (by decide) rfl ?_
  refine j_goto (pc := 56) (tgt := 38) C dX10_cupboard_56 (by decide) ?_
  refine j_iload_n (pc := 38) C dX10_cupboard_38 rfl 0 rfl ?_
  refine j_iconst (pc := 39) (v := 4) C dX10_cupboard_39 (by decide) ?_
  refine j_icmp_ge_f (pc := 40) (tgt := 59) C dX10_cupboard_40 (by decide) (by decide) ?_
  refine j_aload_n (pc := 43) C dX10_cupboard_43 rfl 2 rfl ?_
  refine j_get (pc := 44) (ci := 10) (v := .ref t42) C inw_10 0 rfl rfl 4 (by decide) wd_86 rfl rfl dX10_cupboard_44 ?_
  refine j_iload_n (pc := 47) C dX10_cupboard_47 rfl 0 rfl ?_
  refine j_aald (pc := 48) (v := .ref t70) (k := 2) C 1 4 rfl rfl (by decide) (by decide) (by decide) rfl dX10_cupboard_48 ?_
  refine j_iconst (pc := 49) (v := 0) C dX10_cupboard_49 (by decide) ?_
  refine j_put (pc := 50) (ci := 7) (v := .int 0) (ws' := [(t0, .inr (10, [.ref t1, .ref t10, .ref t32, .ref t37, .ref t42, .ref t43, .ref t45, .ref t50, .ref t54, .ref t58])), (t42, .inl (cyO, 4, .inr (.inr (.inr (.inr (va_up (va_up (va_up (va_up (fun _ => none) 0 (some t60)) 1 (some t65)) 2 (some t70)) 3 (some t75))))))), (t45, .inr (3, [.int 0, .ref t46, .ref t47, .int 0, .int 0, .int 0, .ref t48, .ref t49])), (t46, .inl (cyI, 12, .inl (fun _ => 0))), (t50, .inr (0, [.int 0, .int 0, .ref t51, .ref t52, .ref t53])), (t60, .inr (7, [.ref t61, .ref t62, .ref t63, .ref t64, .int 0, .int 0, .int 0])), (t65, .inr (7, [.ref t66, .ref t67, .ref t68, .ref t69, .int 0, .int 0, .int 0])), (t70, .inr (7, [.ref t71, .ref t72, .ref t73, .ref t74, .int 0, .int 0, .int 0])), (t75, .inr (7, [.ref t76, .ref t77, .ref t78, .ref t79, .int 0, .int 0, .int 0])), (t2, .inr (8, [.ref t3, .int 0, .int 0, .int 0, .int 0, .int 0])), (t4, .inr (1, [.int 0, .int 0, .ref t5, .ref t6, .ref t7])), (t10, .inr (9, [.int 0, .int 0, .int 0, .ref t11, .ref t12, .ref t13, .ref t14, .ref t15, .ref t16, .int 0, .int 0, .ref t17, .ref t18, .ref t19, .ref t20])), (t16, .inl (cyI, 12, .inl (fun _ => 0))), (t17, .inl (cyI, 12, .inl (fun _ => 0))), (t1, .inr (5, [.ref t2, .ref t4, .ref t8, .ref t9, .ref t21, .int 0, .int 0])), (t32, .inr (7, [.ref t33, .ref t34, .ref t35, .ref t36, .int 0, .int 0, .int 0])), (t33, .inl (cyI, 12, .inl (fun _ => (-1))))]) C inw_7 7 rfl rfl 6 (by decide) wd_252 rfl tyX7_ok nmX7 rfl (tyX7_ok 6 (by decide)) rfl rfl (Nat.le_of_ble_eq_true rfl) dX10_cupboard_50 rfl ?_
  refine j_iinc (pc := 53) (v := 3) (lv' := [(2, .int 3), (1, .int 0), (0, .ref t0)]) C dX10_cupboard_53 0 rfl (by decide) (by decide) rfl ?_
  refine j_goto (pc := 56) (tgt := 38) C dX10_cupboard_56 (by decide) ?_
  refine j_iload_n (pc := 38) C dX10_cupboard_38 rfl 0 rfl ?_
  refine j_iconst (pc := 39) (v := 4) C dX10_cupboard_39 (by decide) ?_
  refine j_icmp_ge_f (pc := 40) (tgt := 59) C dX10_cupboard_40 (by decide) (by decide) ?_
  refine j_aload_n (pc := 43) C dX10_cupboard_43 rfl 2 rfl ?_
  refine j_get (pc := 44) (ci := 10) (v := .ref t42) C inw_10 0 rfl rfl 4 (by decide) wd_86 rfl rfl dX10_cupboard_44 ?_
  refine j_iload_n (pc := 47) C dX10_cupboard_47 rfl 0 rfl ?_
  refine j_aald (pc := 48) (v := .ref t75) (k := 3) C 1 4 rfl rfl (by decide) (by decide) (by decide) rfl dX10_cupboard_48 ?_
  refine j_iconst (pc := 49) (v := 0) C dX10_cupboard_49 (by decide) ?_
  refine j_put (pc := 50) (ci := 7) (v := .int 0) (ws' := [(t0, .inr (10, [.ref t1, .ref t10, .ref t32, .ref t37, .ref t42, .ref t43, .ref t45, .ref t50, .ref t54, .ref t58])), (t42, .inl (cyO, 4, .inr (.inr (.inr (.inr (va_up (va_up (va_up (va_up (fun _ => none) 0 (some t60)) 1 (some t65)) 2 (some t70)) 3 (some t75))))))), (t45, .inr (3, [.int 0, .ref t46, .ref t47, .int 0, .int 0, .int 0, .ref t48, .ref t49])), (t46, .inl (cyI, 12, .inl (fun _ => 0))), (t50, .inr (0, [.int 0, .int 0, .ref t51, .ref t52, .ref t53])), (t60, .inr (7, [.ref t61, .ref t62, .ref t63, .ref t64, .int 0, .int 0, .int 0])), (t65, .inr (7, [.ref t66, .ref t67, .ref t68, .ref t69, .int 0, .int 0, .int 0])), (t70, .inr (7, [.ref t71, .ref t72, .ref t73, .ref t74, .int 0, .int 0, .int 0])), (t75, .inr (7, [.ref t76, .ref t77, .ref t78, .ref t79, .int 0, .int 0, .int 0])), (t2, .inr (8, [.ref t3, .int 0, .int 0, .int 0, .int 0, .int 0])), (t4, .inr (1, [.int 0, .int 0, .ref t5, .ref t6, .ref t7])), (t10, .inr (9, [.int 0, .int 0, .int 0, .ref t11, .ref t12, .ref t13, .ref t14, .ref t15, .ref t16, .int 0, .int 0, .ref t17, .ref t18, .ref t19, .ref t20])), (t16, .inl (cyI, 12, .inl (fun _ => 0))), (t17, .inl (cyI, 12, .inl (fun _ => 0))), (t1, .inr (5, [.ref t2, .ref t4, .ref t8, .ref t9, .ref t21, .int 0, .int 0])), (t32, .inr (7, [.ref t33, .ref t34, .ref t35, .ref t36, .int 0, .int 0, .int 0])), (t33, .inl (cyI, 12, .inl (fun _ => (-1))))]) C inw_7 8 rfl rfl 6 (by decide) wd_252 rfl tyX7_ok nmX7 rfl (tyX7_ok 6 (by decide)) rfl rfl (Nat.le_of_ble_eq_true rfl) dX10_cupboard_50 rfl ?_
  refine j_iinc (pc := 53) (v := 4) (lv' := [(2, .int 4), (1, .int 0), (0, .ref t0)]) C dX10_cupboard_53 0 rfl (by decide) (by decide) rfl ?_
  refine j_goto (pc := 56) (tgt := 38) C dX10_cupboard_56 (by decide) ?_
  refine j_iload_n (pc := 38) C dX10_cupboard_38 rfl 0 rfl ?_
  refine j_iconst (pc := 39) (v := 4) C dX10_cupboard_39 (by decide) ?_
  refine j_icmp_ge_t (pc := 40) (tgt := 59) C dX10_cupboard_40 (by decide) (by decide) ?_
  refine j_aload_n (pc := 59) C dX10_cupboard_59 rfl 2 rfl ?_
  refine j_get (pc := 60) (ci := 10) (v := .ref t45) C inw_10 0 rfl rfl 6 (by decide) wd_98 rfl rfl dX10_cupboard_60 ?_
  refine j_aload_n (pc := 63) C dX10_cupboard_63 rfl 2 rfl ?_
  refine j_get (pc := 64) (ci := 10) (v := .ref t10) C inw_10 0 rfl rfl 1 (by decide) wd_77 rfl rfl dX10_cupboard_64 ?_
  refine j_callV (pc := 67) (As := [.ref t10]) (rest := []) (wr := [(t0, .inr (10, [.ref t1, .ref t10, .ref t32, .ref t37, .ref t42, .ref t43, .ref t45, .ref t50, .ref t54, .ref t58])), (t42, .inl (cyO, 4, .inr (.inr (.inr (.inr (va_up (va_up (va_up (va_up (fun _ => none) 0 (some t60)) 1 (some t65)) 2 (some t70)) 3 (some t75))))))), (t50, .inr (0, [.int 0, .int 0, .ref t51, .ref t52, .ref t53])), (t60, .inr (7, [.ref t61, .ref t62, .ref t63, .ref t64, .int 0, .int 0, .int 0])), (t65, .inr (7, [.ref t66, .ref t67, .ref t68, .ref t69, .int 0, .int 0, .int 0])), (t70, .inr (7, [.ref t71, .ref t72, .ref t73, .ref t74, .int 0, .int 0, .int 0])), (t75, .inr (7, [.ref t76, .ref t77, .ref t78, .ref t79, .int 0, .int 0, .int 0])), (t2, .inr (8, [.ref t3, .int 0, .int 0, .int 0, .int 0, .int 0])), (t4, .inr (1, [.int 0, .int 0, .ref t5, .ref t6, .ref t7])), (t16, .inl (cyI, 12, .inl (fun _ => 0))), (t1, .inr (5, [.ref t2, .ref t4, .ref t8, .ref t9, .ref t21, .int 0, .int 0])), (t32, .inr (7, [.ref t33, .ref t34, .ref t35, .ref t36, .int 0, .int 0, .int 0])), (t33, .inl (cyI, 12, .inl (fun _ => (-1))))]) C (c_X3_chain l D cyC cyI cyJ cyZ cyO t45 t10 t11 t12 t13 t14 t15 t16 t17 t18 t19 t20 t46 t47 t48 t49) wd_253 wd_95 wd_254 wd_255 wd_256 ⟨by decide, by decide, rfl⟩ rfl ⟨rfl, rfl, by decide, by decide⟩ ⟨by decide, by decide⟩ [11, 13, 2, 3] [0, 1, 4, 5, 6, 7, 8, 9, 10, 12, 14, 15, 16] rfl rfl ⟨by decide, by decide, by decide⟩ 2 rfl rfl rfl (Nat.le_of_ble_eq_true rfl) dX10_cupboard_67 (fun u_7 hw_8 => ?_)
  refine j_eq (ws2 := [(t0, .inr (10, [.ref t1, .ref t10, .ref t32, .ref t37, .ref t42, .ref t43, .ref t45, .ref t50, .ref t54, .ref t58])), (t42, .inl (cyO, 4, .inr (.inr (.inr (.inr (va_up (va_up (va_up (va_up (fun _ => none) 0 (some t60)) 1 (some t65)) 2 (some t70)) 3 (some t75))))))), (t50, .inr (0, [.int 0, .int 0, .ref t51, .ref t52, .ref t53])), (t60, .inr (7, [.ref t61, .ref t62, .ref t63, .ref t64, .int 0, .int 0, .int 0])), (t65, .inr (7, [.ref t66, .ref t67, .ref t68, .ref t69, .int 0, .int 0, .int 0])), (t70, .inr (7, [.ref t71, .ref t72, .ref t73, .ref t74, .int 0, .int 0, .int 0])), (t75, .inr (7, [.ref t76, .ref t77, .ref t78, .ref t79, .int 0, .int 0, .int 0])), (t2, .inr (8, [.ref t3, .int 0, .int 0, .int 0, .int 0, .int 0])), (t4, .inr (1, [.int 0, .int 0, .ref t5, .ref t6, .ref t7])), (t16, .inl (cyI, 12, .inl (fun _ => 0))), (t1, .inr (5, [.ref t2, .ref t4, .ref t8, .ref t9, .ref t21, .int 0, .int 0])), (t32, .inr (7, [.ref t33, .ref t34, .ref t35, .ref t36, .int 0, .int 0, .int 0])), (t33, .inl (cyI, 12, .inl (fun _ => (-1)))), (t10, .inr (9, [.int 0, .int 0, .int 0, .ref t11, .ref t12, .ref t13, .ref t14, .ref t15, .ref t16, .int 0, .int 0, .ref t17, .ref t18, .ref t19, .ref t20])), (t17, .inl (cyI, 12, .inl (fun _ => 0))), (t45, .inr (3, [.int 0, .ref t46, .ref t47, .int 0, .int 0, .int 0, .ref t48, .ref t49])), (t46, .inl (cyI, 12, .inl (va_cpy (fun _ => 0) (fun _ => 0) 0 0 12)))]) (pc2 := 70) (lv2 := [(2, .int 4), (1, .int 0), (0, .ref t0)]) (st2 := []) rfl rfl rfl rfl ?_
  refine j_aload_n (pc := 70) C dX10_cupboard_70 rfl 2 rfl ?_
  refine j_get (pc := 71) (ci := 10) (v := .ref t50) C inw_10 0 rfl rfl 7 (by decide) wd_104 rfl rfl dX10_cupboard_71 ?_
  refine j_iconst (pc := 74) (v := 0) C dX10_cupboard_74 (by decide) ?_
  refine j_put (pc := 75) (ci := 0) (v := .int 0) (ws' := [(t0, .inr (10, [.ref t1, .ref t10, .ref t32, .ref t37, .ref t42, .ref t43, .ref t45, .ref t50, .ref t54, .ref t58])), (t42, .inl (cyO, 4, .inr (.inr (.inr (.inr (va_up (va_up (va_up (va_up (fun _ => none) 0 (some t60)) 1 (some t65)) 2 (some t70)) 3 (some t75))))))), (t50, .inr (0, [.int 0, .int 0, .ref t51, .ref t52, .ref t53])), (t60, .inr (7, [.ref t61, .ref t62, .ref t63, .ref t64, .int 0, .int 0, .int 0])), (t65, .inr (7, [.ref t66, .ref t67, .ref t68, .ref t69, .int 0, .int 0, .int 0])), (t70, .inr (7, [.ref t71, .ref t72, .ref t73, .ref t74, .int 0, .int 0, .int 0])), (t75, .inr (7, [.ref t76, .ref t77, .ref t78, .ref t79, .int 0, .int 0, .int 0])), (t2, .inr (8, [.ref t3, .int 0, .int 0, .int 0, .int 0, .int 0])), (t4, .inr (1, [.int 0, .int 0, .ref t5, .ref t6, .ref t7])), (t16, .inl (cyI, 12, .inl (fun _ => 0))), (t1, .inr (5, [.ref t2, .ref t4, .ref t8, .ref t9, .ref t21, .int 0, .int 0])), (t32, .inr (7, [.ref t33, .ref t34, .ref t35, .ref t36, .int 0, .int 0, .int 0])), (t33, .inl (cyI, 12, .inl (fun _ => (-1)))), (t10, .inr (9, [.int 0, .int 0, .int 0, .ref t11, .ref t12, .ref t13, .ref t14, .ref t15, .ref t16, .int 0, .int 0, .ref t17, .ref t18, .ref t19, .ref t20])), (t17, .inl (cyI, 12, .inl (fun _ => 0))), (t45, .inr (3, [.int 0, .ref t46, .ref t47, .int 0, .int 0, .int 0, .ref t48, .ref t49])), (t46, .inl (cyI, 12, .inl (va_cpy (fun _ => 0) (fun _ => 0) 0 0 12)))]) C inw_0 2 rfl rfl 0 (by decide) wd_257 rfl tyX0_ok nmX0 rfl (tyX0_ok 0 (by decide)) rfl rfl (Nat.le_of_ble_eq_true rfl) dX10_cupboard_75 rfl ?_
  refine j_iconst (pc := 78) (v := 0) C dX10_cupboard_78 (by decide) ?_
  exact j_iret (pc := 79) C hr hk (fun i => [].getD i 0, fun _ => 0, fun _ _ => 0) rfl trivial [] (by decide) rfl (by decide) (by decide) dX10_cupboard_79
