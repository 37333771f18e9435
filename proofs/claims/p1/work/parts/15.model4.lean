theorem wd_366 : Cond.fieldLink RX11 153 "BowlShelfModel" "size" "I" ∈ WALL := wl_in (by decide +kernel) (by decide +kernel)
theorem wd_367 : Cond.fieldLink RX11 172 "BowlShelfModel" "at" "I" ∈ WALL := wl_in (by decide +kernel) (by decide +kernel)
theorem wd_368 : Cond.fieldLink RX11 175 "BowlShelfModel" "fault" "I" ∈ WALL := wl_in (by decide +kernel) (by decide +kernel)
theorem wd_369 : Cond.code yX11_cutAll cX11_cutAll 7 none ∈ WALL := wl_in (by decide +kernel) (by decide +kernel)
theorem wd_370 : Cond.methodLink RX11 191 yX11_cutAll ∈ WALL := wl_in (by decide +kernel) (by decide +kernel)
theorem wd_371 : Cond.instanceMethod yX11_cutAll ∈ WALL := wl_in (by decide +kernel) (by decide +kernel)
theorem wd_372 : Cond.selects RX11 yX11_cutAll yX11_cutAll ∈ WALL := wl_in (by decide +kernel) (by decide +kernel)
theorem wd_373 : Cond.fieldLink RX11 194 "BowlShelfModel" "codes" "I" ∈ WALL := wl_in (by decide +kernel) (by decide +kernel)
theorem dX11_cutAll_0 : decode cX11_cutAll 0 = .ok (.aload_n 0, 1) := by decide +kernel
theorem dX11_cutAll_1 : decode cX11_cutAll 1 = .ok (.aload_n 0, 1) := by decide +kernel
theorem dX11_cutAll_2 : decode cX11_cutAll 2 = .ok (.getfield 11, 3) := by decide +kernel
theorem dX11_cutAll_5 : decode cX11_cutAll 5 = .ok (.putfield 153, 3) := by decide +kernel
theorem dX11_cutAll_8 : decode cX11_cutAll 8 = .ok (.aload_n 0, 1) := by decide +kernel
theorem dX11_cutAll_9 : decode cX11_cutAll 9 = .ok (.iconst 0, 1) := by decide +kernel
theorem dX11_cutAll_10 : decode cX11_cutAll 10 = .ok (.putfield 11, 3) := by decide +kernel
theorem dX11_cutAll_13 : decode cX11_cutAll 13 = .ok (.iconst 0, 1) := by decide +kernel
theorem dX11_cutAll_14 : decode cX11_cutAll 14 = .ok (.istore_n 1, 1) := by decide +kernel
theorem dX11_cutAll_15 : decode cX11_cutAll 15 = .ok (.iconst 0, 1) := by decide +kernel
theorem dX11_cutAll_16 : decode cX11_cutAll 16 = .ok (.istore_n 2, 1) := by decide +kernel
theorem dX11_cutAll_17 : decode cX11_cutAll 17 = .ok (.iload_n 2, 1) := by decide +kernel
theorem dX11_cutAll_18 : decode cX11_cutAll 18 = .ok (.aload_n 0, 1) := by decide +kernel
theorem dX11_cutAll_19 : decode cX11_cutAll 19 = .ok (.getfield 153, 3) := by decide +kernel
theorem dX11_cutAll_22 : decode cX11_cutAll 22 = .ok (.if_icmp .ge 257, 3) := by decide +kernel
theorem dX11_cutAll_279 : decode cX11_cutAll 279 = .ok (.aload_n 0, 1) := by decide +kernel
theorem dX11_cutAll_280 : decode cX11_cutAll 280 = .ok (.getfield 24, 3) := by decide +kernel
theorem dX11_cutAll_283 : decode cX11_cutAll 283 = .ok (.iload_n 1, 1) := by decide +kernel
theorem dX11_cutAll_284 : decode cX11_cutAll 284 = .ok (.iconst 0, 1) := by decide +kernel
theorem dX11_cutAll_285 : decode cX11_cutAll 285 = .ok (.iastore, 1) := by decide +kernel
theorem dX11_cutAll_286 : decode cX11_cutAll 286 = .ok (.aload_n 0, 1) := by decide +kernel
theorem dX11_cutAll_287 : decode cX11_cutAll 287 = .ok (.getfield 27, 3) := by decide +kernel
theorem dX11_cutAll_290 : decode cX11_cutAll 290 = .ok (.iload_n 1, 1) := by decide +kernel
theorem dX11_cutAll_291 : decode cX11_cutAll 291 = .ok (.aload_n 0, 1) := by decide +kernel
theorem dX11_cutAll_292 : decode cX11_cutAll 292 = .ok (.getfield 153, 3) := by decide +kernel
theorem dX11_cutAll_295 : decode cX11_cutAll 295 = .ok (.iastore, 1) := by decide +kernel
theorem dX11_cutAll_296 : decode cX11_cutAll 296 = .ok (.aload_n 0, 1) := by decide +kernel
theorem dX11_cutAll_297 : decode cX11_cutAll 297 = .ok (.iconst 0, 1) := by decide +kernel
theorem dX11_cutAll_298 : decode cX11_cutAll 298 = .ok (.putfield 172, 3) := by decide +kernel
theorem dX11_cutAll_301 : decode cX11_cutAll 301 = .ok (.aload_n 0, 1) := by decide +kernel
theorem dX11_cutAll_302 : decode cX11_cutAll 302 = .ok (.iconst 0, 1) := by decide +kernel
theorem dX11_cutAll_303 : decode cX11_cutAll 303 = .ok (.putfield 175, 3) := by decide +kernel
theorem dX11_cutAll_306 : decode cX11_cutAll 306 = .ok (.return_, 1) := by decide +kernel
theorem dX11_cupboard_0 : decode cX11_cupboard 0 = .ok (.aload_n 0, 1) := by decide +kernel
theorem dX11_cupboard_1 : decode cX11_cupboard 1 = .ok (.iconst 0, 1) := by decide +kernel
theorem dX11_cupboard_2 : decode cX11_cupboard 2 = .ok (.putfield 1, 3) := by decide +kernel
theorem dX11_cupboard_5 : decode cX11_cupboard 5 = .ok (.aload_n 0, 1) := by decide +kernel
theorem dX11_cupboard_6 : decode cX11_cupboard 6 = .ok (.invokevirtual 191, 3) := by decide +kernel
theorem dX11_cupboard_9 : decode cX11_cupboard 9 = .ok (.aload_n 0, 1) := by decide +kernel
theorem dX11_cupboard_10 : decode cX11_cupboard 10 = .ok (.iconst 0, 1) := by decide +kernel
theorem dX11_cupboard_11 : decode cX11_cupboard 11 = .ok (.putfield 194, 3) := by decide +kernel
theorem dX11_cupboard_14 : decode cX11_cupboard 14 = .ok (.iconst 0, 1) := by decide +kernel
theorem dX11_cupboard_15 : decode cX11_cupboard 15 = .ok (.istore_n 1, 1) := by decide +kernel
theorem dX11_cupboard_16 : decode cX11_cupboard 16 = .ok (.iload_n 1, 1) := by decide +kernel
theorem dX11_cupboard_17 : decode cX11_cupboard 17 = .ok (.bipush 120, 2) := by decide +kernel
theorem dX11_cupboard_19 : decode cX11_cupboard 19 = .ok (.if_icmp .ge 19, 3) := by decide +kernel
theorem dX11_cupboard_22 : decode cX11_cupboard 22 = .ok (.aload_n 0, 1) := by decide +kernel
theorem dX11_cupboard_23 : decode cX11_cupboard 23 = .ok (.getfield 83, 3) := by decide +kernel
theorem dX11_cupboard_26 : decode cX11_cupboard 26 = .ok (.bipush 120, 2) := by decide +kernel
theorem dX11_cupboard_28 : decode cX11_cupboard 28 = .ok (.iload_n 1, 1) := by decide +kernel
theorem dX11_cupboard_29 : decode cX11_cupboard 29 = .ok (.iadd, 1) := by decide +kernel
theorem dX11_cupboard_30 : decode cX11_cupboard 30 = .ok (.iconst 0, 1) := by decide +kernel
theorem dX11_cupboard_31 : decode cX11_cupboard 31 = .ok (.iastore, 1) := by decide +kernel
theorem dX11_cupboard_32 : decode cX11_cupboard 32 = .ok (.iinc 1 1, 3) := by decide +kernel
theorem dX11_cupboard_35 : decode cX11_cupboard 35 = .ok (.goto (-19), 3) := by decide +kernel
theorem dX11_cupboard_38 : decode cX11_cupboard 38 = .ok (.iconst 0, 1) := by decide +kernel
theorem dX11_cupboard_39 : decode cX11_cupboard 39 = .ok (.istore_n 1, 1) := by decide +kernel
theorem dX11_cupboard_40 : decode cX11_cupboard 40 = .ok (.iload_n 1, 1) := by decide +kernel
theorem dX11_cupboard_41 : decode cX11_cupboard 41 = .ok (.bipush 12, 2) := by decide +kernel
theorem dX11_cupboard_43 : decode cX11_cupboard 43 = .ok (.if_icmp .ge 16, 3) := by decide +kernel
theorem dX11_cupboard_46 : decode cX11_cupboard 46 = .ok (.aload_n 0, 1) := by decide +kernel
theorem dX11_cupboard_47 : decode cX11_cupboard 47 = .ok (.getfield 95, 3) := by decide +kernel
theorem dX11_cupboard_50 : decode cX11_cupboard 50 = .ok (.iload_n 1, 1) := by decide +kernel
theorem dX11_cupboard_51 : decode cX11_cupboard 51 = .ok (.iconst 0, 1) := by decide +kernel
theorem dX11_cupboard_52 : decode cX11_cupboard 52 = .ok (.bastore, 1) := by decide +kernel
theorem dX11_cupboard_53 : decode cX11_cupboard 53 = .ok (.iinc 1 1, 3) := by decide +kernel
theorem dX11_cupboard_56 : decode cX11_cupboard 56 = .ok (.goto (-16), 3) := by decide +kernel
theorem dX11_cupboard_59 : decode cX11_cupboard 59 = .ok (.aload_n 0, 1) := by decide +kernel
theorem dX11_cupboard_60 : decode cX11_cupboard 60 = .ok (.getfield 175, 3) := by decide +kernel
theorem dX11_cupboard_63 : decode cX11_cupboard 63 = .ok (.ifCond .ne 28, 3) := by decide +kernel
theorem dX11_cupboard_66 : decode cX11_cupboard 66 = .ok (.aload_n 0, 1) := by decide +kernel
theorem dX11_cupboard_67 : decode cX11_cupboard 67 = .ok (.getfield 24, 3) := by decide +kernel
theorem dX11_cupboard_70 : decode cX11_cupboard 70 = .ok (.aload_n 0, 1) := by decide +kernel
theorem dX11_cupboard_71 : decode cX11_cupboard 71 = .ok (.getfield 172, 3) := by decide +kernel
theorem dX11_cupboard_74 : decode cX11_cupboard 74 = .ok (.iaload, 1) := by decide +kernel
theorem dX11_cupboard_75 : decode cX11_cupboard 75 = .ok (.ifCond .eq 16, 3) := by decide +kernel
theorem dX11_cupboard_91 : decode cX11_cupboard 91 = .ok (.aload_n 0, 1) := by decide +kernel
theorem dX11_cupboard_92 : decode cX11_cupboard 92 = .ok (.getfield 175, 3) := by decide +kernel
theorem dX11_cupboard_95 : decode cX11_cupboard 95 = .ok (.ifCond .le 8, 3) := by decide +kernel
theorem dX11_cupboard_103 : decode cX11_cupboard 103 = .ok (.iconst 0, 1) := by decide +kernel
theorem dX11_cupboard_104 : decode cX11_cupboard 104 = .ok (.istore_n 1, 1) := by decide +kernel
theorem dX11_cupboard_105 : decode cX11_cupboard 105 = .ok (.iload_n 1, 1) := by decide +kernel
theorem dX11_cupboard_106 : decode cX11_cupboard 106 = .ok (.bipush 120, 2) := by decide +kernel
theorem dX11_cupboard_108 : decode cX11_cupboard 108 = .ok (.if_icmp .ge 24, 3) := by decide +kernel
theorem dX11_cupboard_111 : decode cX11_cupboard 111 = .ok (.aload_n 0, 1) := by decide +kernel
theorem dX11_cupboard_112 : decode cX11_cupboard 112 = .ok (.getfield 83, 3) := by decide +kernel
theorem dX11_cupboard_115 : decode cX11_cupboard 115 = .ok (.iload_n 1, 1) := by decide +kernel
theorem dX11_cupboard_116 : decode cX11_cupboard 116 = .ok (.aload_n 0, 1) := by decide +kernel
theorem dX11_cupboard_117 : decode cX11_cupboard 117 = .ok (.getfield 83, 3) := by decide +kernel
theorem dX11_cupboard_120 : decode cX11_cupboard 120 = .ok (.bipush 120, 2) := by decide +kernel
theorem dX11_cupboard_122 : decode cX11_cupboard 122 = .ok (.iload_n 1, 1) := by decide +kernel
theorem dX11_cupboard_123 : decode cX11_cupboard 123 = .ok (.iadd, 1) := by decide +kernel
theorem dX11_cupboard_124 : decode cX11_cupboard 124 = .ok (.iaload, 1) := by decide +kernel
theorem dX11_cupboard_125 : decode cX11_cupboard 125 = .ok (.iastore, 1) := by decide +kernel
theorem dX11_cupboard_126 : decode cX11_cupboard 126 = .ok (.iinc 1 1, 3) := by decide +kernel
theorem dX11_cupboard_129 : decode cX11_cupboard 129 = .ok (.goto (-24), 3) := by decide +kernel
theorem dX11_cupboard_132 : decode cX11_cupboard 132 = .ok (.iconst 0, 1) := by decide +kernel
theorem dX11_cupboard_133 : decode cX11_cupboard 133 = .ok (.istore_n 1, 1) := by decide +kernel
theorem dX11_cupboard_134 : decode cX11_cupboard 134 = .ok (.iload_n 1, 1) := by decide +kernel
theorem dX11_cupboard_135 : decode cX11_cupboard 135 = .ok (.sipush 1100, 3) := by decide +kernel
theorem dX11_cupboard_138 : decode cX11_cupboard 138 = .ok (.if_icmp .ge 41, 3) := by decide +kernel
theorem dX11_cupboard_141 : decode cX11_cupboard 141 = .ok (.aload_n 0, 1) := by decide +kernel
theorem dX11_cupboard_142 : decode cX11_cupboard 142 = .ok (.getfield 86, 3) := by decide +kernel
theorem dX11_cupboard_145 : decode cX11_cupboard 145 = .ok (.iload_n 1, 1) := by decide +kernel
theorem dX11_cupboard_146 : decode cX11_cupboard 146 = .ok (.aload_n 0, 1) := by decide +kernel
theorem dX11_cupboard_147 : decode cX11_cupboard 147 = .ok (.getfield 86, 3) := by decide +kernel
theorem dX11_cupboard_150 : decode cX11_cupboard 150 = .ok (.sipush 1100, 3) := by decide +kernel
theorem dX11_cupboard_153 : decode cX11_cupboard 153 = .ok (.iload_n 1, 1) := by decide +kernel
theorem dX11_cupboard_154 : decode cX11_cupboard 154 = .ok (.iadd, 1) := by decide +kernel
theorem dX11_cupboard_155 : decode cX11_cupboard 155 = .ok (.iaload, 1) := by decide +kernel
theorem dX11_cupboard_156 : decode cX11_cupboard 156 = .ok (.iastore, 1) := by decide +kernel
theorem dX11_cupboard_157 : decode cX11_cupboard 157 = .ok (.aload_n 0, 1) := by decide +kernel
theorem dX11_cupboard_158 : decode cX11_cupboard 158 = .ok (.getfield 89, 3) := by decide +kernel
theorem dX11_cupboard_161 : decode cX11_cupboard 161 = .ok (.iload_n 1, 1) := by decide +kernel
theorem dX11_cupboard_162 : decode cX11_cupboard 162 = .ok (.aload_n 0, 1) := by decide +kernel
theorem dX11_cupboard_163 : decode cX11_cupboard 163 = .ok (.getfield 89, 3) := by decide +kernel
theorem dX11_cupboard_166 : decode cX11_cupboard 166 = .ok (.sipush 1100, 3) := by decide +kernel
theorem dX11_cupboard_169 : decode cX11_cupboard 169 = .ok (.iload_n 1, 1) := by decide +kernel
theorem dX11_cupboard_170 : decode cX11_cupboard 170 = .ok (.iadd, 1) := by decide +kernel
theorem dX11_cupboard_171 : decode cX11_cupboard 171 = .ok (.iaload, 1) := by decide +kernel
theorem dX11_cupboard_172 : decode cX11_cupboard 172 = .ok (.iastore, 1) := by decide +kernel
theorem dX11_cupboard_173 : decode cX11_cupboard 173 = .ok (.iinc 1 1, 3) := by decide +kernel
theorem dX11_cupboard_176 : decode cX11_cupboard 176 = .ok (.goto (-42), 3) := by decide +kernel
theorem dX11_cupboard_179 : decode cX11_cupboard 179 = .ok (.iconst 0, 1) := by decide +kernel
theorem dX11_cupboard_180 : decode cX11_cupboard 180 = .ok (.istore_n 1, 1) := by decide +kernel
theorem dX11_cupboard_181 : decode cX11_cupboard 181 = .ok (.iload_n 1, 1) := by decide +kernel
theorem dX11_cupboard_182 : decode cX11_cupboard 182 = .ok (.sipush 460, 3) := by decide +kernel
theorem dX11_cupboard_185 : decode cX11_cupboard 185 = .ok (.if_icmp .ge 16, 3) := by decide +kernel
theorem dX11_cupboard_188 : decode cX11_cupboard 188 = .ok (.aload_n 0, 1) := by decide +kernel
theorem dX11_cupboard_189 : decode cX11_cupboard 189 = .ok (.getfield 108, 3) := by decide +kernel
theorem dX11_cupboard_192 : decode cX11_cupboard 192 = .ok (.iload_n 1, 1) := by decide +kernel
theorem dX11_cupboard_193 : decode cX11_cupboard 193 = .ok (.iconst 0, 1) := by decide +kernel
theorem dX11_cupboard_194 : decode cX11_cupboard 194 = .ok (.iastore, 1) := by decide +kernel
theorem dX11_cupboard_195 : decode cX11_cupboard 195 = .ok (.iinc 1 1, 3) := by decide +kernel
theorem dX11_cupboard_198 : decode cX11_cupboard 198 = .ok (.goto (-17), 3) := by decide +kernel
theorem dX11_cupboard_201 : decode cX11_cupboard 201 = .ok (.iconst 0, 1) := by decide +kernel
theorem dX11_cupboard_202 : decode cX11_cupboard 202 = .ok (.istore_n 1, 1) := by decide +kernel
theorem dX11_cupboard_203 : decode cX11_cupboard 203 = .ok (.iload_n 1, 1) := by decide +kernel
theorem dX11_cupboard_204 : decode cX11_cupboard 204 = .ok (.iconst 4, 1) := by decide +kernel
theorem dX11_cupboard_205 : decode cX11_cupboard 205 = .ok (.if_icmp .ge 16, 3) := by decide +kernel
theorem dX11_cupboard_208 : decode cX11_cupboard 208 = .ok (.aload_n 0, 1) := by decide +kernel
theorem dX11_cupboard_209 : decode cX11_cupboard 209 = .ok (.getfield 111, 3) := by decide +kernel
theorem dX11_cupboard_212 : decode cX11_cupboard 212 = .ok (.iload_n 1, 1) := by decide +kernel
theorem dX11_cupboard_213 : decode cX11_cupboard 213 = .ok (.iconst 0, 1) := by decide +kernel
theorem dX11_cupboard_214 : decode cX11_cupboard 214 = .ok (.bastore, 1) := by decide +kernel
theorem dX11_cupboard_215 : decode cX11_cupboard 215 = .ok (.iinc 1 1, 3) := by decide +kernel
theorem dX11_cupboard_218 : decode cX11_cupboard 218 = .ok (.goto (-15), 3) := by decide +kernel
theorem dX11_cupboard_221 : decode cX11_cupboard 221 = .ok (.aload_n 0, 1) := by decide +kernel
theorem dX11_cupboard_222 : decode cX11_cupboard 222 = .ok (.iconst 1, 1) := by decide +kernel
theorem dX11_cupboard_223 : decode cX11_cupboard 223 = .ok (.putfield 145, 3) := by decide +kernel
theorem dX11_cupboard_226 : decode cX11_cupboard 226 = .ok (.iconst 0, 1) := by decide +kernel
theorem dX11_cupboard_227 : decode cX11_cupboard 227 = .ok (.ireturn, 1) := by decide +kernel
set_option maxHeartbeats 4000000 in
set_option maxRecDepth 100000 in
theorem c_X11_cutAll (l : Launch) (D : va_G) (cyC cyI cyJ cyZ cyO : ClassId) (g0 : Nat) (g1 : Nat) (g2 : Nat) (g3 : Nat) (g4 : Nat) (g5 : Nat) (g6 : Nat) (g7 : Nat) (g8 : Nat) (g9 : Nat) (g10 : Nat) (g11 : Nat) (g12 : Nat) (g13 : Nat) (g14 : Nat) (g15 : Nat) (g16 : Nat) (g17 : Nat) (g18 : Nat) (g19 : Nat) (g20 : Nat) (g21 : Nat) (g22 : Nat) (g23 : Nat) (g24 : Nat) (g25 : Nat) : KK l D (TY cyC cyI cyJ cyZ cyO) yX11_cutAll cX11_cutAll 7 none ({ frames := 0, cells := 0, slots := 0, locals := 0 } : Room) 0 0 [.ref g0] [(g0, .inr (11, [.int 0, .ref g1, .int 0, .int 0, .ref g2, .ref g3, .ref g4, .int 0, .int 0, .ref g5, .ref g6, .ref g7, .ref g8, .int 0, .ref g9, .ref g10, .int 1, .ref g11, .ref g12, .ref g13, .ref g14, .ref g15, .int 0, .int 0, .int 0, .ref g16, .int 0, .ref g17, .ref g18, .ref g19, .ref g20, .ref g21, .ref g22, .int 0, .int 0, .int 0, .ref g23, .ref g24, .int 0, .int 0, .int 0, .int 0, .ref g25])), (g2, .inl (cyI, 1002, .inl (fun _ => 0))), (g3, .inl (cyI, 1002, .inl (fun _ => 0)))] (fun u => none) (fun u => True) (fun u => [(g0, .inr (11, [.int 0, .ref g1, .int 0, .int 0, .ref g2, .ref g3, .ref g4, .int 0, .int 0, .ref g5, .ref g6, .ref g7, .ref g8, .int 0, .ref g9, .ref g10, .int 1, .ref g11, .ref g12, .ref g13, .ref g14, .ref g15, .int 0, .int 0, .int 0, .ref g16, .int 0, .ref g17, .ref g18, .ref g19, .ref g20, .ref g21, .ref g22, .int 0, .int 0, .int 0, .ref g23, .ref g24, .int 0, .int 0, .int 0, .int 0, .ref g25])), (g2, .inl (cyI, 1002, .inl (upd (fun _ => 0) 0 0))), (g3, .inl (cyI, 1002, .inl (upd (fun _ => 0) 0 0)))]) := by
  refine KK.of (lv0 := [(0, .ref g0)]) (by decide) rfl (Nat.le_of_ble_eq_true rfl) ?_
  intro p e s m args below meth c A C hr hk hin
  refine j_aload_n (pc := 0) C dX11_cutAll_0 rfl 0 rfl ?_
  refine j_aload_n (pc := 1) C dX11_cutAll_1 rfl 0 rfl ?_
  refine j_get (pc := 2) (ci := 11) (v := .int 0) C inw_11 0 rfl rfl 2 (by decide) wd_361 rfl rfl dX11_cutAll_2 ?_
  refine j_put (pc := 5) (ci := 11) (v := .int 0) (ws' := [(g0, .inr (11, [.int 0, .ref g1, .int 0, .int 0, .ref g2, .ref g3, .ref g4, .int 0, .int 0, .ref g5, .ref g6, .ref g7, .ref g8, .int 0, .ref g9, .ref g10, .int 1, .ref g11, .ref g12, .ref g13, .ref g14, .ref g15, .int 0, .int 0, .int 0, .ref g16, .int 0, .ref g17, .ref g18, .ref g19, .ref g20, .ref g21, .ref g22, .int 0, .int 0, .int 0, .ref g23, .ref g24, .int 0, .int 0, .int 0, .int 0, .ref g25])), (g2, .inl (cyI, 1002, .inl (fun _ => 0))), (g3, .inl (cyI, 1002, .inl (fun _ => 0)))]) C inw_11 0 rfl rfl 3 (by decide) wd_366 rfl tyX11_ok nmX11 rfl (tyX11_ok 3 (by decide)) rfl rfl (Nat.le_of_ble_eq_true rfl) dX11_cutAll_5 rfl ?_
  refine j_aload_n (pc := 8) C dX11_cutAll_8 rfl 0 rfl ?_
  refine j_iconst (pc := 9) (v := 0) C dX11_cutAll_9 (by decide) ?_
  refine j_put (pc := 10) (ci := 11) (v := .int 0) (ws' := [(g0, .inr (11, [.int 0, .ref g1, .int 0, .int 0, .ref g2, .ref g3, .ref g4, .int 0, .int 0, .ref g5, .ref g6, .ref g7, .ref g8, .int 0, .ref g9, .ref g10, .int 1, .ref g11, .ref g12, .ref g13, .ref g14, .ref g15, .int 0, .int 0, .int 0, .ref g16, .int 0, .ref g17, .ref g18, .ref g19, .ref g20, .ref g21, .ref g22, .int 0, .int 0, .int 0, .ref g23, .ref g24, .int 0, .int 0, .int 0, .int 0, .ref g25])), (g2, .inl (cyI, 1002, .inl (fun _ => 0))), (g3, .inl (cyI, 1002, .inl (fun _ => 0)))]) C inw_11 0 rfl rfl 2 (by decide) wd_361 rfl tyX11_ok nmX11 rfl (tyX11_ok 2 (by decide)) rfl rfl (Nat.le_of_ble_eq_true rfl) dX11_cutAll_10 rfl ?_
  refine j_iconst (pc := 13) (v := 0) C dX11_cutAll_13 (by decide) ?_
  refine j_istore_n (pc := 14) (lv' := [(1, .int 0), (0, .ref g0)]) C dX11_cutAll_14 rfl (by decide) rfl ?_
  refine j_iconst (pc := 15) (v := 0) C dX11_cutAll_15 (by decide) ?_
  refine j_istore_n (pc := 16) (lv' := [(2, .int 0), (1, .int 0), (0, .ref g0)]) C dX11_cutAll_16 rfl (by decide) rfl ?_
  refine j_iload_n (pc := 17) C dX11_cutAll_17 rfl 0 rfl ?_
  refine j_aload_n (pc := 18) C dX11_cutAll_18 rfl 2 rfl ?_
  refine j_get (pc := 19) (ci := 11) (v := .int 0) C inw_11 0 rfl rfl 3 (by decide) wd_366 rfl rfl dX11_cutAll_19 ?_
  refine j_icmp_ge_t (pc := 22) (tgt := 279) C dX11_cutAll_22 (by decide) (by decide) ?_
  refine j_aload_n (pc := 279) C dX11_cutAll_279 rfl 2 rfl ?_
  refine j_get (pc := 280) (ci := 11) (v := .ref g2) C inw_11 0 rfl rfl 4 (by decide) wd_119 rfl rfl dX11_cutAll_280 ?_
  refine j_iload_n (pc := 283) C dX11_cutAll_283 rfl 1 rfl ?_
  refine j_iconst (pc := 284) (v := 0) C dX11_cutAll_284 (by decide) ?_
  refine j_iast (pc := 285) (k := 0) (ws' := [(g0, .inr (11, [.int 0, .ref g1, .int 0, .int 0, .ref g2, .ref g3, .ref g4, .int 0, .int 0, .ref g5, .ref g6, .ref g7, .ref g8, .int 0, .ref g9, .ref g10, .int 1, .ref g11, .ref g12, .ref g13, .ref g14, .ref g15, .int 0, .int 0, .int 0, .ref g16, .int 0, .ref g17, .ref g18, .ref g19, .ref g20, .ref g21, .ref g22, .int 0, .int 0, .int 0, .ref g23, .ref g24, .int 0, .int 0, .int 0, .int 0, .ref g25])), (g2, .inl (cyI, 1002, .inl (upd (fun _ => 0) 0 0))), (g3, .inl (cyI, 1002, .inl (fun _ => 0)))]) C 1 1 rfl rfl (by decide) (by decide) (by decide) dX11_cutAll_285 rfl ?_
  refine j_aload_n (pc := 286) C dX11_cutAll_286 rfl 2 rfl ?_
  refine j_get (pc := 287) (ci := 11) (v := .ref g3) C inw_11 0 rfl rfl 5 (by decide) wd_120 rfl rfl dX11_cutAll_287 ?_
  refine j_iload_n (pc := 290) C dX11_cutAll_290 rfl 1 rfl ?_
  refine j_aload_n (pc := 291) C dX11_cutAll_291 rfl 2 rfl ?_
  refine j_get (pc := 292) (ci := 11) (v := .int 0) C inw_11 0 rfl rfl 3 (by decide) wd_366 rfl rfl dX11_cutAll_292 ?_
  refine j_iast (pc := 295) (k := 0) (ws' := [(g0, .inr (11, [.int 0, .ref g1, .int 0, .int 0, .ref g2, .ref g3, .ref g4, .int 0, .int 0, .ref g5, .ref g6, .ref g7, .ref g8, .int 0, .ref g9, .ref g10, .int 1, .ref g11, .ref g12, .ref g13, .ref g14, .ref g15, .int 0, .int 0, .int 0, .ref g16, .int 0, .ref g17, .ref g18, .ref g19, .ref g20, .ref g21, .ref g22, .int 0, .int 0, .int 0, .ref g23, .ref g24, .int 0, .int 0, .int 0, .int 0, .ref g25])), (g2, .inl (cyI, 1002, .inl (upd (fun _ => 0) 0 0))), (g3, .inl (cyI, 1002, .inl (upd (fun _ => 0) 0 0)))]) C 2 1 rfl rfl (by decide) (by decide) (by decide) dX11_cutAll_295 rfl ?_
  refine j_aload_n (pc := 296) C dX11_cutAll_296 rfl 2 rfl ?_
  refine j_iconst (pc := 297) (v := 0) C dX11_cutAll_297 (by decide) ?_
  refine j_put (pc := 298) (ci := 11) (v := .int 0) (ws' := [(g0, .inr (11, [.int 0, .ref g1, .int 0, .int 0, .ref g2, .ref g3, .ref g4, .int 0, .int 0, .ref g5, .ref g6, .ref g7, .ref g8, .int 0, .ref g9, .ref g10, .int 1, .ref g11, .ref g12, .ref g13, .ref g14, .ref g15, .int 0, .int 0, .int 0, .ref g16, .int 0, .ref g17, .ref g18, .ref g19, .ref g20, .ref g21, .ref g22, .int 0, .int 0, .int 0, .ref g23, .ref g24, .int 0, .int 0, .int 0, .int 0, .ref g25])), (g2, .inl (cyI, 1002, .inl (upd (fun _ => 0) 0 0))), (g3, .inl (cyI, 1002, .inl (upd (fun _ => 0) 0 0)))]) C inw_11 0 rfl rfl 7 (by decide) wd_367 rfl tyX11_ok nmX11 rfl (tyX11_ok 7 (by decide)) rfl rfl (Nat.le_of_ble_eq_true rfl) dX11_cutAll_298 rfl ?_
  refine j_aload_n (pc := 301) C dX11_cutAll_301 rfl 2 rfl ?_
  refine j_iconst (pc := 302) (v := 0) C dX11_cutAll_302 (by decide) ?_
  refine j_put (pc := 303) (ci := 11) (v := .int 0) (ws' := [(g0, .inr (11, [.int 0, .ref g1, .int 0, .int 0, .ref g2, .ref g3, .ref g4, .int 0, .int 0, .ref g5, .ref g6, .ref g7, .ref g8, .int 0, .ref g9, .ref g10, .int 1, .ref g11, .ref g12, .ref g13, .ref g14, .ref g15, .int 0, .int 0, .int 0, .ref g16, .int 0, .ref g17, .ref g18, .ref g19, .ref g20, .ref g21, .ref g22, .int 0, .int 0, .int 0, .ref g23, .ref g24, .int 0, .int 0, .int 0, .int 0, .ref g25])), (g2, .inl (cyI, 1002, .inl (upd (fun _ => 0) 0 0))), (g3, .inl (cyI, 1002, .inl (upd (fun _ => 0) 0 0)))]) C inw_11 0 rfl rfl 8 (by decide) wd_368 rfl tyX11_ok nmX11 rfl (tyX11_ok 8 (by decide)) rfl rfl (Nat.le_of_ble_eq_true rfl) dX11_cutAll_303 rfl ?_
  exact j_vret (pc := 306) C hr hk (fun i => [].getD i 0, fun _ => 0, fun _ _ => 0) rfl trivial [0, 1, 2] (by decide) rfl (by decide) (by decide) dX11_cutAll_306
set_option maxHeartbeats 4000000 in
set_option maxRecDepth 100000 in
theorem c_X11_cupboard (l : Launch) (D : va_G) (cyC cyI cyJ cyZ cyO : ClassId) (g0 : Nat) (g1 : Nat) (g2 : Nat) (g3 : Nat) (g4 : Nat) (g5 : Nat) (g6 : Nat) (g7 : Nat) (g8 : Nat) (g9 : Nat) (g10 : Nat) (g11 : Nat) (g12 : Nat) (g13 : Nat) (g14 : Nat) (g15 : Nat) (g16 : Nat) (g17 : Nat) (g18 : Nat) (g19 : Nat) (g20 : Nat) (g21 : Nat) (g22 : Nat) (g23 : Nat) (g24 : Nat) (g25 : Nat) : KK l D (TY cyC cyI cyJ cyZ cyO) yX11_cupboard cX11_cupboard 2 (some .int) ({ frames := 1, cells := 0, slots := 0, locals := 26 } : Room) 0 0 [.ref g0] [(g0, .inr (11, [.int 0, .ref g1, .int 0, .int 0, .ref g2, .ref g3, .ref g4, .int 0, .int 0, .ref g5, .ref g6, .ref g7, .ref g8, .int 0, .ref g9, .ref g10, .int 1, .ref g11, .ref g12, .ref g13, .ref g14, .ref g15, .int 0, .int 0, .int 0, .ref g16, .int 0, .ref g17, .ref g18, .ref g19, .ref g20, .ref g21, .ref g22, .int 0, .int 0, .int 0, .ref g23, .ref g24, .int 0, .int 0, .int 0, .int 0, .ref g25])), (g2, .inl (cyI, 1002, .inl (fun _ => 0))), (g3, .inl (cyI, 1002, .inl (fun _ => 0))), (g6, .inl (cyI, 240, .inl (fun _ => 0))), (g7, .inl (cyI, 2200, .inl (fun _ => 0))), (g8, .inl (cyI, 2200, .inl (fun _ => 0))), (g10, .inl (cyZ, 12, .inl (fun _ => 0))), (g14, .inl (cyI, 2760, .inl (fun _ => 0))), (g15, .inl (cyZ, 4, .inl (fun _ => 0)))] (fun u => some (.int 0)) (fun u => True) (fun u => []) := by
  refine KK.of (lv0 := [(0, .ref g0)]) (by decide) rfl (Nat.le_of_ble_eq_true rfl) ?_
  intro p e s m args below meth c A C hr hk hin
  refine j_aload_n (pc := 0) C dX11_cupboard_0 rfl 0 rfl ?_
  refine j_iconst (pc := 1) (v := 0) C dX11_cupboard_1 (by decide) ?_
  refine j_put (pc := 2) (ci := 11) (v := .int 0) (ws' := [(g0, .inr (11, [.int 0, .ref g1, .int 0, .int 0, .ref g2, .ref g3, .ref g4, .int 0, .int 0, .ref g5, .ref g6, .ref g7, .ref g8, .int 0, .ref g9, .ref g10, .int 1, .ref g11, .ref g12, .ref g13, .ref g14, .ref g15, .int 0, .int 0, .int 0, .ref g16, .int 0, .ref g17, .ref g18, .ref g19, .ref g20, .ref g21, .ref g22, .int 0, .int 0, .int 0, .ref g23, .ref g24, .int 0, .int 0, .int 0, .int 0, .ref g25])), (g2, .inl (cyI, 1002, .inl (fun _ => 0))), (g3, .inl (cyI, 1002, .inl (fun _ => 0))), (g6, .inl (cyI, 240, .inl (fun _ => 0))), (g7, .inl (cyI, 2200, .inl (fun _ => 0))), (g8, .inl (cyI, 2200, .inl (fun _ => 0))), (g10, .inl (cyZ, 12, .inl (fun _ => 0))), (g14, .inl (cyI, 2760, .inl (fun _ => 0))), (g15, .inl (cyZ, 4, .inl (fun _ => 0)))]) C inw_11 0 rfl rfl 0 (by decide) wd_329 rfl tyX11_ok nmX11 rfl (tyX11_ok 0 (by decide)) rfl rfl (Nat.le_of_ble_eq_true rfl) dX11_cupboard_2 rfl ?_
  refine j_aload_n (pc := 5) C dX11_cupboard_5 rfl 0 rfl ?_
  refine j_callV (pc := 6) (As := []) (rest := []) (wr := [(g6, .inl (cyI, 240, .inl (fun _ => 0))), (g7, .inl (cyI, 2200, .inl (fun _ => 0))), (g8, .inl (cyI, 2200, .inl (fun _ => 0))), (g10, .inl (cyZ, 12, .inl (fun _ => 0))), (g14, .inl (cyI, 2760, .inl (fun _ => 0))), (g15, .inl (cyZ, 4, .inl (fun _ => 0)))]) C (c_X11_cutAll l D cyC cyI cyJ cyZ cyO g0 g1 g2 g3 g4 g5 g6 g7 g8 g9 g10 g11 g12 g13 g14 g15 g16 g17 g18 g19 g20 g21 g22 g23 g24 g25) wd_369 wd_313 wd_370 wd_371 wd_372 ⟨by decide, by decide, rfl⟩ rfl ⟨rfl, rfl, by decide, by decide⟩ ⟨by decide, by decide⟩ [0, 1, 2] [3, 4, 5, 6, 7, 8] rfl rfl ⟨by decide, by decide, by decide⟩ 0 rfl rfl rfl (Nat.le_of_ble_eq_true rfl) dX11_cupboard_6 (fun u_1 hw_2 => ?_)
  refine j_eq (ws2 := [(g6, .inl (cyI, 240, .inl (fun _ => 0))), (g7, .inl (cyI, 2200, .inl (fun _ => 0))), (g8, .inl (cyI, 2200, .inl (fun _ => 0))), (g10, .inl (cyZ, 12, .inl (fun _ => 0))), (g14, .inl (cyI, 2760, .inl (fun _ => 0))), (g15, .inl (cyZ, 4, .inl (fun _ => 0))), (g0, .inr (11, [.int 0, .ref g1, .int 0, .int 0, .ref g2, .ref g3, .ref g4, .int 0, .int 0, .ref g5, .ref g6, .ref g7, .ref g8, .int 0, .ref g9, .ref g10, .int 1, .ref g11, .ref g12, .ref g13, .ref g14, .ref g15, .int 0, .int 0, .int 0, .ref g16, .int 0, .ref g17, .ref g18, .ref g19, .ref g20, .ref g21, .ref g22, .int 0, .int 0, .int 0, .ref g23, .ref g24, .int 0, .int 0, .int 0, .int 0, .ref g25])), (g2, .inl (cyI, 1002, .inl (upd (fun _ => 0) 0 0))), (g3, .inl (cyI, 1002, .inl (upd (fun _ => 0) 0 0)))]) (pc2 := 9) (lv2 := [(0, .ref g0)]) (st2 := []) rfl rfl rfl rfl ?_
  refine j_aload_n (pc := 9) C dX11_cupboard_9 rfl 0 rfl ?_
  refine j_iconst (pc := 10) (v := 0) C dX11_cupboard_10 (by decide) ?_
  refine j_put (pc := 11) (ci := 11) (v := .int 0) (ws' := [(g6, .inl (cyI, 240, .inl (fun _ => 0))), (g7, .inl (cyI, 2200, .inl (fun _ => 0))), (g8, .inl (cyI, 2200, .inl (fun _ => 0))), (g10, .inl (cyZ, 12, .inl (fun _ => 0))), (g14, .inl (cyI, 2760, .inl (fun _ => 0))), (g15, .inl (cyZ, 4, .inl (fun _ => 0))), (g0, .inr (11, [.int 0, .ref g1, .int 0, .int 0, .ref g2, .ref g3, .ref g4, .int 0, .int 0, .ref g5, .ref g6, .ref g7, .ref g8, .int 0, .ref g9, .ref g10, .int 1, .ref g11, .ref g12, .ref g13, .ref g14, .ref g15, .int 0, .int 0, .int 0, .ref g16, .int 0, .ref g17, .ref g18, .ref g19, .ref g20, .ref g21, .ref g22, .int 0, .int 0, .int 0, .ref g23, .ref g24, .int 0, .int 0, .int 0, .int 0, .ref g25])), (g2, .inl (cyI, 1002, .inl (upd (fun _ => 0) 0 0))), (g3, .inl (cyI, 1002, .inl (upd (fun _ => 0) 0 0)))]) C inw_11 6 rfl rfl 13 (by decide) wd_373 rfl tyX11_ok nmX11 rfl (tyX11_ok 13 (by decide)) rfl rfl (Nat.le_of_ble_eq_true rfl) dX11_cupboard_11 rfl ?_
  refine j_iconst (pc := 14) (v := 0) C dX11_cupboard_14 (by decide) ?_
  refine j_istore_n (pc := 15) (lv' := [(1, .int 0), (0, .ref g0)]) C dX11_cupboard_15 rfl (by decide) rfl ?_
  have loop_3 : ∀ (k_3 i_3 : Nat) (g_3_0 : Nat → Int32), i_3 + k_3 = 120 → (∀ j, j < 240 → g_3_0 j = 0) → J p l e ({ frames := 1, cells := 0, slots := 0, locals := 26 } : Room) s m args below meth c D A 2 0 0 (QX below D (TY cyC cyI cyJ cyZ cyO) A (fun u => some (.int 0)) (fun u => True) (fun u => []) args s 0 0) [(g6, .inl (cyI, 240, .inl g_3_0)), (g7, .inl (cyI, 2200, .inl (fun _ => 0))), (g8, .inl (cyI, 2200, .inl (fun _ => 0))), (g10, .inl (cyZ, 12, .inl (fun _ => 0))), (g14, .inl (cyI, 2760, .inl (fun _ => 0))), (g15, .inl (cyZ, 4, .inl (fun _ => 0))), (g0, .inr (11, [.int 0, .ref g1, .int 0, .int 0, .ref g2, .ref g3, .ref g4, .int 0, .int 0, .ref g5, .ref g6, .ref g7, .ref g8, .int 0, .ref g9, .ref g10, .int 1, .ref g11, .ref g12, .ref g13, .ref g14, .ref g15, .int 0, .int 0, .int 0, .ref g16, .int 0, .ref g17, .ref g18, .ref g19, .ref g20, .ref g21, .ref g22, .int 0, .int 0, .int 0, .ref g23, .ref g24, .int 0, .int 0, .int 0, .int 0, .ref g25])), (g2, .inl (cyI, 1002, .inl (upd (fun _ => 0) 0 0))), (g3, .inl (cyI, 1002, .inl (upd (fun _ => 0) 0 0)))] 16 [(1, .int (nI i_3)), (0, .ref g0)] [] := by
    intro k_3
    induction k_3 with
    | zero =>
      intro i_3 g_3_0 hi_3 hz_3_0
      obtain rfl : i_3 = 120 := by omega
      refine j_arrc (q0 := 0) (g := fun _ => 0) (ws' := [(g6, .inl (cyI, 240, .inl (fun _ => 0))), (g7, .inl (cyI, 2200, .inl (fun _ => 0))), (g8, .inl (cyI, 2200, .inl (fun _ => 0))), (g10, .inl (cyZ, 12, .inl (fun _ => 0))), (g14, .inl (cyI, 2760, .inl (fun _ => 0))), (g15, .inl (cyZ, 4, .inl (fun _ => 0))), (g0, .inr (11, [.int 0, .ref g1, .int 0, .int 0, .ref g2, .ref g3, .ref g4, .int 0, .int 0, .ref g5, .ref g6, .ref g7, .ref g8, .int 0, .ref g9, .ref g10, .int 1, .ref g11, .ref g12, .ref g13, .ref g14, .ref g15, .int 0, .int 0, .int 0, .ref g16, .int 0, .ref g17, .ref g18, .ref g19, .ref g20, .ref g21, .ref g22, .int 0, .int 0, .int 0, .ref g23, .ref g24, .int 0, .int 0, .int 0, .int 0, .ref g25])), (g2, .inl (cyI, 1002, .inl (upd (fun _ => 0) 0 0))), (g3, .inl (cyI, 1002, .inl (upd (fun _ => 0) 0 0)))]) rfl hz_3_0 rfl ?_
      refine j_iload_n (pc := 16) C dX11_cupboard_16 rfl 0 rfl ?_
      refine j_bipush (pc := 17) (v := 120) C dX11_cupboard_17 (by decide) ?_
      refine j_icmp_ge_t (pc := 19) (tgt := 38) C dX11_cupboard_19 (by decide) (by decide) ?_
      refine j_iconst (pc := 38) (v := 0) C dX11_cupboard_38 (by decide) ?_
      refine j_istore_n (pc := 39) (lv' := [(1, .int 0), (0, .ref g0)]) C dX11_cupboard_39 rfl (by decide) rfl ?_
      have loop_4 : ∀ (k_4 i_4 : Nat) (g_4_0 : Nat → Int32), i_4 + k_4 = 12 → (∀ j, j < 12 → g_4_0 j = 0) → J p l e ({ frames := 1, cells := 0, slots := 0, locals := 26 } : Room) s m args below meth c D A 2 0 0 (QX below D (TY cyC cyI cyJ cyZ cyO) A (fun u => some (.int 0)) (fun u => True) (fun u => []) args s 0 0) [(g6, .inl (cyI, 240, .inl (fun _ => 0))), (g7, .inl (cyI, 2200, .inl (fun _ => 0))), (g8, .inl (cyI, 2200, .inl (fun _ => 0))), (g10, .inl (cyZ, 12, .inl g_4_0)), (g14, .inl (cyI, 2760, .inl (fun _ => 0))), (g15, .inl (cyZ, 4, .inl (fun _ => 0))), (g0, .inr (11, [.int 0, .ref g1, .int 0, .int 0, .ref g2, .ref g3, .ref g4, .int 0, .int 0, .ref g5, .ref g6, .ref g7, .ref g8, .int 0, .ref g9, .ref g10, .int 1, .ref g11, .ref g12, .ref g13, .ref g14, .ref g15, .int 0, .int 0, .int 0, .ref g16, .int 0, .ref g17, .ref g18, .ref g19, .ref g20, .ref g21, .ref g22, .int 0, .int 0, .int 0, .ref g23, .ref g24, .int 0, .int 0, .int 0, .int 0, .ref g25])), (g2, .inl (cyI, 1002, .inl (upd (fun _ => 0) 0 0))), (g3, .inl (cyI, 1002, .inl (upd (fun _ => 0) 0 0)))] 40 [(1, .int (nI i_4)), (0, .ref g0)] [] := by
        intro k_4
        induction k_4 with
        | zero =>
          intro i_4 g_4_0 hi_4 hz_4_0
          obtain rfl : i_4 = 12 := by omega
          refine j_arrc (q0 := 3) (g := fun _ => 0) (ws' := [(g6, .inl (cyI, 240, .inl (fun _ => 0))), (g7, .inl (cyI, 2200, .inl (fun _ => 0))), (g8, .inl (cyI, 2200, .inl (fun _ => 0))), (g10, .inl (cyZ, 12, .inl (fun _ => 0))), (g14, .inl (cyI, 2760, .inl (fun _ => 0))), (g15, .inl (cyZ, 4, .inl (fun _ => 0))), (g0, .inr (11, [.int 0, .ref g1, .int 0, .int 0, .ref g2, .ref g3, .ref g4, .int 0, .int 0, .ref g5, .ref g6, .ref g7, .ref g8, .int 0, .ref g9, .ref g10, .int 1, .ref g11, .ref g12, .ref g13, .ref g14, .ref g15, .int 0, .int 0, .int 0, .ref g16, .int 0, .ref g17, .ref g18, .ref g19, .ref g20, .ref g21, .ref g22, .int 0, .int 0, .int 0, .ref g23, .ref g24, .int 0, .int 0, .int 0, .int 0, .ref g25])), (g2, .inl (cyI, 1002, .inl (upd (fun _ => 0) 0 0))), (g3, .inl (cyI, 1002, .inl (upd (fun _ => 0) 0 0)))]) rfl hz_4_0 rfl ?_
          refine j_iload_n (pc := 40) C dX11_cupboard_40 rfl 0 rfl ?_
          refine j_bipush (pc := 41) (v := 12) C dX11_cupboard_41 (by decide) ?_
          refine j_icmp_ge_t (pc := 43) (tgt := 59) C dX11_cupboard_43 (by decide) (by decide) ?_
          refine j_aload_n (pc := 59) C dX11_cupboard_59 rfl 1 rfl ?_
          refine j_get (pc := 60) (ci := 11) (v := .int 0) C inw_11 6 rfl rfl 8 (by decide) wd_368 rfl rfl dX11_cupboard_60 ?_
          refine j_if_ne_f (pc := 63) (tgt := 91) C dX11_cupboard_63 (by decide) (by decide) ?_
          refine j_aload_n (pc := 66) C dX11_cupboard_66 rfl 1 rfl ?_
          refine j_get (pc := 67) (ci := 11) (v := .ref g2) C inw_11 6 rfl rfl 4 (by decide) wd_119 rfl rfl dX11_cupboard_67 ?_
          refine j_aload_n (pc := 70) C dX11_cupboard_70 rfl 1 rfl ?_
          refine j_get (pc := 71) (ci := 11) (v := .int 0) C inw_11 6 rfl rfl 7 (by decide) wd_367 rfl rfl dX11_cupboard_71 ?_
          refine j_iald (pc := 74) (v := 0) (k := 0) C 7 1 rfl rfl (by decide) (by decide) (by decide) rfl dX11_cupboard_74 ?_
          refine j_if_eq_t (pc := 75) (tgt := 91) C dX11_cupboard_75 (by decide) (by decide) ?_
          refine j_aload_n (pc := 91) C dX11_cupboard_91 rfl 1 rfl ?_
          refine j_get (pc := 92) (ci := 11) (v := .int 0) C inw_11 6 rfl rfl 8 (by decide) wd_368 rfl rfl dX11_cupboard_92 ?_
          refine j_if_le_t (pc := 95) (tgt := 103) C dX11_cupboard_95 (by decide) (by decide) ?_
          refine j_iconst (pc := 103) (v := 0) C dX11_cupboard_103 (by decide) ?_
          refine j_istore_n (pc := 104) (lv' := [(1, .int 0), (0, .ref g0)]) C dX11_cupboard_104 rfl (by decide) rfl ?_
          have loop_5 : ∀ (k_5 i_5 : Nat) (g_5_0 : Nat → Int32), i_5 + k_5 = 120 → (∀ j, j < 240 → g_5_0 j = 0) → J p l e ({ frames := 1, cells := 0, slots := 0, locals := 26 } : Room) s m args below meth c D A 2 0 0 (QX below D (TY cyC cyI cyJ cyZ cyO) A (fun u => some (.int 0)) (fun u => True) (fun u => []) args s 0 0) [(g6, .inl (cyI, 240, .inl g_5_0)), (g7, .inl (cyI, 2200, .inl (fun _ => 0))), (g8, .inl (cyI, 2200, .inl (fun _ => 0))), (g10, .inl (cyZ, 12, .inl (fun _ => 0))), (g14, .inl (cyI, 2760, .inl (fun _ => 0))), (g15, .inl (cyZ, 4, .inl (fun _ => 0))), (g0, .inr (11, [.int 0, .ref g1, .int 0, .int 0, .ref g2, .ref g3, .ref g4, .int 0, .int 0, .ref g5, .ref g6, .ref g7, .ref g8, .int 0, .ref g9, .ref g10, .int 1, .ref g11, .ref g12, .ref g13, .ref g14, .ref g15, .int 0, .int 0, .int 0, .ref g16, .int 0, .ref g17, .ref g18, .ref g19, .ref g20, .ref g21, .ref g22, .int 0, .int 0, .int 0, .ref g23, .ref g24, .int 0, .int 0, .int 0, .int 0, .ref g25])), (g2, .inl (cyI, 1002, .inl (upd (fun _ => 0) 0 0))), (g3, .inl (cyI, 1002, .inl (upd (fun _ => 0) 0 0)))] 105 [(1, .int (nI i_5)), (0, .ref g0)] [] := by
            intro k_5
            induction k_5 with
            | zero =>
              intro i_5 g_5_0 hi_5 hz_5_0
              obtain rfl : i_5 = 120 := by omega
              refine j_arrc (q0 := 0) (g := fun _ => 0) (ws' := [(g6, .inl (cyI, 240, .inl (fun _ => 0))), (g7, .inl (cyI, 2200, .inl (fun _ => 0))), (g8, .inl (cyI, 2200, .inl (fun _ => 0))), (g10, .inl (cyZ, 12, .inl (fun _ => 0))), (g14, .inl (cyI, 2760, .inl (fun _ => 0))), (g15, .inl (cyZ, 4, .inl (fun _ => 0))), (g0, .inr (11, [.int 0, .ref g1, .int 0, .int 0, .ref g2, .ref g3, .ref g4, .int 0, .int 0, .ref g5, .ref g6, .ref g7, .ref g8, .int 0, .ref g9, .ref g10, .int 1, .ref g11, .ref g12, .ref g13, .ref g14, .ref g15, .int 0, .int 0, .int 0, .ref g16, .int 0, .ref g17, .ref g18, .ref g19, .ref g20, .ref g21, .ref g22, .int 0, .int 0, .int 0, .ref g23, .ref g24, .int 0, .int 0, .int 0, .int 0, .ref g25])), (g2, .inl (cyI, 1002, .inl (upd (fun _ => 0) 0 0))), (g3, .inl (cyI, 1002, .inl (upd (fun _ => 0) 0 0)))]) rfl hz_5_0 rfl ?_
              refine j_iload_n (pc := 105) C dX11_cupboard_105 rfl 0 rfl ?_
              refine j_bipush (pc := 106) (v := 120) C dX11_cupboard_106 (by decide) ?_
              refine j_icmp_ge_t (pc := 108) (tgt := 132) C dX11_cupboard_108 (by decide) (by decide) ?_
              refine j_iconst (pc := 132) (v := 0) C dX11_cupboard_132 (by decide) ?_
              refine j_istore_n (pc := 133) (lv' := [(1, .int 0), (0, .ref g0)]) C dX11_cupboard_133 rfl (by decide) rfl ?_
              have loop_6 : ∀ (k_6 i_6 : Nat) (g_6_0 : Nat → Int32) (g_6_1 : Nat → Int32), i_6 + k_6 = 1100 → (∀ j, j < 2200 → g_6_0 j = 0) → (∀ j, j < 2200 → g_6_1 j = 0) → J p l e ({ frames := 1, cells := 0, slots := 0, locals := 26 } : Room) s m args below meth c D A 2 0 0 (QX below D (TY cyC cyI cyJ cyZ cyO) A (fun u => some (.int 0)) (fun u => True) (fun u => []) args s 0 0) [(g6, .inl (cyI, 240, .inl (fun _ => 0))), (g7, .inl (cyI, 2200, .inl g_6_0)), (g8, .inl (cyI, 2200, .inl g_6_1)), (g10, .inl (cyZ, 12, .inl (fun _ => 0))), (g14, .inl (cyI, 2760, .inl (fun _ => 0))), (g15, .inl (cyZ, 4, .inl (fun _ => 0))), (g0, .inr (11, [.int 0, .ref g1, .int 0, .int 0, .ref g2, .ref g3, .ref g4, .int 0, .int 0, .ref g5, .ref g6, .ref g7, .ref g8, .int 0, .ref g9, .ref g10, .int 1, .ref g11, .ref g12, .ref g13, .ref g14, .ref g15, .int 0, .int 0, .int 0, .ref g16, .int 0, .ref g17, .ref g18, .ref g19, .ref g20, .ref g21, .ref g22, .int 0, .int 0, .int 0, .ref g23, .ref g24, .int 0, .int 0, .int 0, .int 0, .ref g25])), (g2, .inl (cyI, 1002, .inl (upd (fun _ => 0) 0 0))), (g3, .inl (cyI, 1002, .inl (upd (fun _ => 0) 0 0)))] 134 [(1, .int (nI i_6)), (0, .ref g0)] [] := by
                intro k_6
                induction k_6 with
                | zero =>
                  intro i_6 g_6_0 g_6_1 hi_6 hz_6_0 hz_6_1
                  obtain rfl : i_6 = 1100 := by omega
                  refine j_arrc (q0 := 1) (g := fun _ => 0) (ws' := [(g6, .inl (cyI, 240, .inl (fun _ => 0))), (g7, .inl (cyI, 2200, .inl (fun _ => 0))), (g8, .inl (cyI, 2200, .inl g_6_1)), (g10, .inl (cyZ, 12, .inl (fun _ => 0))), (g14, .inl (cyI, 2760, .inl (fun _ => 0))), (g15, .inl (cyZ, 4, .inl (fun _ => 0))), (g0, .inr (11, [.int 0, .ref g1, .int 0, .int 0, .ref g2, .ref g3, .ref g4, .int 0, .int 0, .ref g5, .ref g6, .ref g7, .ref g8, .int 0, .ref g9, .ref g10, .int 1, .ref g11, .ref g12, .ref g13, .ref g14, .ref g15, .int 0, .int 0, .int 0, .ref g16, .int 0, .ref g17, .ref g18, .ref g19, .ref g20, .ref g21, .ref g22, .int 0, .int 0, .int 0, .ref g23, .ref g24, .int 0, .int 0, .int 0, .int 0, .ref g25])), (g2, .inl (cyI, 1002, .inl (upd (fun _ => 0) 0 0))), (g3, .inl (cyI, 1002, .inl (upd (fun _ => 0) 0 0)))]) rfl hz_6_0 rfl ?_
                  refine j_arrc (q0 := 2) (g := fun _ => 0) (ws' := [(g6, .inl (cyI, 240, .inl (fun _ => 0))), (g7, .inl (cyI, 2200, .inl (fun _ => 0))), (g8, .inl (cyI, 2200, .inl (fun _ => 0))), (g10, .inl (cyZ, 12, .inl (fun _ => 0))), (g14, .inl (cyI, 2760, .inl (fun _ => 0))), (g15, .inl (cyZ, 4, .inl (fun _ => 0))), (g0, .inr (11, [.int 0, .ref g1, .int 0, .int 0, .ref g2, .ref g3, .ref g4, .int 0, .int 0, .ref g5, .ref g6, .ref g7, .ref g8, .int 0, .ref g9, .ref g10, .int 1, .ref g11, .ref g12, .ref g13, .ref g14, .ref g15, .int 0, .int 0, .int 0, .ref g16, .int 0, .ref g17, .ref g18, .ref g19, .ref g20, .ref g21, .ref g22, .int 0, .int 0, .int 0, .ref g23, .ref g24, .int 0, .int 0, .int 0, .int 0, .ref g25])), (g2, .inl (cyI, 1002, .inl (upd (fun _ => 0) 0 0))), (g3, .inl (cyI, 1002, .inl (upd (fun _ => 0) 0 0)))]) rfl hz_6_1 rfl ?_
                  refine j_iload_n (pc := 134) C dX11_cupboard_134 rfl 0 rfl ?_
                  refine j_sipush (pc := 135) (v := 1100) C dX11_cupboard_135 (by decide) ?_
                  refine j_icmp_ge_t (pc := 138) (tgt := 179) C dX11_cupboard_138 (by decide) (by decide) ?_
                  refine j_iconst (pc := 179) (v := 0) C dX11_cupboard_179 (by decide) ?_
                  refine j_istore_n (pc := 180) (lv' := [(1, .int 0), (0, .ref g0)]) C dX11_cupboard_180 rfl (by decide) rfl ?_
                  have loop_7 : ∀ (k_7 i_7 : Nat) (g_7_0 : Nat → Int32), i_7 + k_7 = 460 → (∀ j, j < 2760 → g_7_0 j = 0) → J p l e ({ frames := 1, cells := 0, slots := 0, locals := 26 } : Room) s m args below meth c D A 2 0 0 (QX below D (TY cyC cyI cyJ cyZ cyO) A (fun u => some (.int 0)) (fun u => True) (fun u => []) args s 0 0) [(g6, .inl (cyI, 240, .inl (fun _ => 0))), (g7, .inl (cyI, 2200, .inl (fun _ => 0))), (g8, .inl (cyI, 2200, .inl (fun _ => 0))), (g10, .inl (cyZ, 12, .inl (fun _ => 0))), (g14, .inl (cyI, 2760, .inl g_7_0)), (g15, .inl (cyZ, 4, .inl (fun _ => 0))), (g0, .inr (11, [.int 0, .ref g1, .int 0, .int 0, .ref g2, .ref g3, .ref g4, .int 0, .int 0, .ref g5, .ref g6, .ref g7, .ref g8, .int 0, .ref g9, .ref g10, .int 1, .ref g11, .ref g12, .ref g13, .ref g14, .ref g15, .int 0, .int 0, .int 0, .ref g16, .int 0, .ref g17, .ref g18, .ref g19, .ref g20, .ref g21, .ref g22, .int 0, .int 0, .int 0, .ref g23, .ref g24, .int 0, .int 0, .int 0, .int 0, .ref g25])), (g2, .inl (cyI, 1002, .inl (upd (fun _ => 0) 0 0))), (g3, .inl (cyI, 1002, .inl (upd (fun _ => 0) 0 0)))] 181 [(1, .int (nI i_7)), (0, .ref g0)] [] := by
                    intro k_7
                    induction k_7 with
                    | zero =>
                      intro i_7 g_7_0 hi_7 hz_7_0
                      obtain rfl : i_7 = 460 := by omega
                      refine j_arrc (q0 := 4) (g := fun _ => 0) (ws' := [(g6, .inl (cyI, 240, .inl (fun _ => 0))), (g7, .inl (cyI, 2200, .inl (fun _ => 0))), (g8, .inl (cyI, 2200, .inl (fun _ => 0))), (g10, .inl (cyZ, 12, .inl (fun _ => 0))), (g14, .inl (cyI, 2760, .inl (fun _ => 0))), (g15, .inl (cyZ, 4, .inl (fun _ => 0))), (g0, .inr (11, [.int 0, .ref g1, .int 0, .int 0, .ref g2, .ref g3, .ref g4, .int 0, .int 0, .ref g5, .ref g6, .ref g7, .ref g8, .int 0, .ref g9, .ref g10, .int 1, .ref g11, .ref g12, .ref g13, .ref g14, .ref g15, .int 0, .int 0, .int 0, .ref g16, .int 0, .ref g17, .ref g18, .ref g19, .ref g20, .ref g21, .ref g22, .int 0, .int 0, .int 0, .ref g23, .ref g24, .int 0, .int 0, .int 0, .int 0, .ref g25])), (g2, .inl (cyI, 1002, .inl (upd (fun _ => 0) 0 0))), (g3, .inl (cyI, 1002, .inl (upd (fun _ => 0) 0 0)))]) rfl hz_7_0 rfl ?_
                      refine j_iload_n (pc := 181) C dX11_cupboard_181 rfl 0 rfl ?_
                      refine j_sipush (pc := 182) (v := 460) C dX11_cupboard_182 (by decide) ?_
                      refine j_icmp_ge_t (pc := 185) (tgt := 201) C dX11_cupboard_185 (by decide) (by decide) ?_
                      refine j_iconst (pc := 201) (v := 0) C dX11_cupboard_201 (by decide) ?_
                      refine j_istore_n (pc := 202) (lv' := [(1, .int 0), (0, .ref g0)]) C dX11_cupboard_202 rfl (by decide) rfl ?_
                      have loop_8 : ∀ (k_8 i_8 : Nat) (g_8_0 : Nat → Int32), i_8 + k_8 = 4 → (∀ j, j < 4 → g_8_0 j = 0) → J p l e ({ frames := 1, cells := 0, slots := 0, locals := 26 } : Room) s m args below meth c D A 2 0 0 (QX below D (TY cyC cyI cyJ cyZ cyO) A (fun u => some (.int 0)) (fun u => True) (fun u => []) args s 0 0) [(g6, .inl (cyI, 240, .inl (fun _ => 0))), (g7, .inl (cyI, 2200, .inl (fun _ => 0))), (g8, .inl (cyI, 2200, .inl (fun _ => 0))), (g10, .inl (cyZ, 12, .inl (fun _ => 0))), (g14, .inl (cyI, 2760, .inl (fun _ => 0))), (g15, .inl (cyZ, 4, .inl g_8_0)), (g0, .inr (11, [.int 0, .ref g1, .int 0, .int 0, .ref g2, .ref g3, .ref g4, .int 0, .int 0, .ref g5, .ref g6, .ref g7, .ref g8, .int 0, .ref g9, .ref g10, .int 1, .ref g11, .ref g12, .ref g13, .ref g14, .ref g15, .int 0, .int 0, .int 0, .ref g16, .int 0, .ref g17, .ref g18, .ref g19, .ref g20, .ref g21, .ref g22, .int 0, .int 0, .int 0, .ref g23, .ref g24, .int 0, .int 0, .int 0, .int 0, .ref g25])), (g2, .inl (cyI, 1002, .inl (upd (fun _ => 0) 0 0))), (g3, .inl (cyI, 1002, .inl (upd (fun _ => 0) 0 0)))] 203 [(1, .int (nI i_8)), (0, .ref g0)] [] := by
                        intro k_8
                        induction k_8 with
                        | zero =>
                          intro i_8 g_8_0 hi_8 hz_8_0
                          obtain rfl : i_8 = 4 := by omega
                          refine j_arrc (q0 := 5) (g := fun _ => 0) (ws' := [(g6, .inl (cyI, 240, .inl (fun _ => 0))), (g7, .inl (cyI, 2200, .inl (fun _ => 0))), (g8, .inl (cyI, 2200, .inl (fun _ => 0))), (g10, .inl (cyZ, 12, .inl (fun _ => 0))), (g14, .inl (cyI, 2760, .inl (fun _ => 0))), (g15, .inl (cyZ, 4, .inl (fun _ => 0))), (g0, .inr (11, [.int 0, .ref g1, .int 0, .int 0, .ref g2, .ref g3, .ref g4, .int 0, .int 0, .ref g5, .ref g6, .ref g7, .ref g8, .int 0, .ref g9, .ref g10, .int 1, .ref g11, .ref g12, .ref g13, .ref g14, .ref g15, .int 0, .int 0, .int 0, .ref g16, .int 0, .ref g17, .ref g18, .ref g19, .ref g20, .ref g21, .ref g22, .int 0, .int 0, .int 0, .ref g23, .ref g24, .int 0, .int 0, .int 0, .int 0, .ref g25])), (g2, .inl (cyI, 1002, .inl (upd (fun _ => 0) 0 0))), (g3, .inl (cyI, 1002, .inl (upd (fun _ => 0) 0 0)))]) rfl hz_8_0 rfl ?_
                          refine j_iload_n (pc := 203) C dX11_cupboard_203 rfl 0 rfl ?_
                          refine j_iconst (pc := 204) (v := 4) C dX11_cupboard_204 (by decide) ?_
                          refine j_icmp_ge_t (pc := 205) (tgt := 221) C dX11_cupboard_205 (by decide) (by decide) ?_
                          refine j_aload_n (pc := 221) C dX11_cupboard_221 rfl 1 rfl ?_
                          refine j_iconst (pc := 222) (v := 1) C dX11_cupboard_222 (by decide) ?_
                          refine j_put (pc := 223) (ci := 11) (v := .int 1) (ws' := [(g6, .inl (cyI, 240, .inl (fun _ => 0))), (g7, .inl (cyI, 2200, .inl (fun _ => 0))), (g8, .inl (cyI, 2200, .inl (fun _ => 0))), (g10, .inl (cyZ, 12, .inl (fun _ => 0))), (g14, .inl (cyI, 2760, .inl (fun _ => 0))), (g15, .inl (cyZ, 4, .inl (fun _ => 0))), (g0, .inr (11, [.int 0, .ref g1, .int 0, .int 0, .ref g2, .ref g3, .ref g4, .int 0, .int 0, .ref g5, .ref g6, .ref g7, .ref g8, .int 0, .ref g9, .ref g10, .int 1, .ref g11, .ref g12, .ref g13, .ref g14, .ref g15, .int 0, .int 0, .int 0, .ref g16, .int 0, .ref g17, .ref g18, .ref g19, .ref g20, .ref g21, .ref g22, .int 0, .int 0, .int 0, .ref g23, .ref g24, .int 0, .int 0, .int 0, .int 0, .ref g25])), (g2, .inl (cyI, 1002, .inl (upd (fun _ => 0) 0 0))), (g3, .inl (cyI, 1002, .inl (upd (fun _ => 0) 0 0)))]) C inw_11 6 rfl rfl 16 (by decide) wd_168 rfl tyX11_ok nmX11 rfl (tyX11_ok 16 (by decide)) rfl rfl (Nat.le_of_ble_eq_true rfl) dX11_cupboard_223 rfl ?_
                          refine j_iconst (pc := 226) (v := 0) C dX11_cupboard_226 (by decide) ?_
                          exact j_iret (pc := 227) C hr hk (fun i => [].getD i 0, fun _ => 0, fun _ _ => 0) rfl trivial [] (by decide) rfl (by decide) (by decide) dX11_cupboard_227
                        | succ k_8 ih_8 =>
                          intro i_8 g_8_0 hi_8 hz_8_0
                          refine j_iload_n (pc := 203) C dX11_cupboard_203 rfl 0 rfl ?_
                          refine j_iconst (pc := 204) (v := 4) C dX11_cupboard_204 (by decide) ?_
                          refine j_icmp_ge_f (pc := 205) (tgt := 221) C dX11_cupboard_205 (by decide) (nI12 4 (by omega) (by decide)) ?_
                          refine j_aload_n (pc := 208) C dX11_cupboard_208 rfl 1 rfl ?_
                          refine j_get (pc := 209) (ci := 11) (v := .ref g15) C inw_11 6 rfl rfl 21 (by decide) wd_156 rfl rfl dX11_cupboard_209 ?_
                          refine j_iload_n (pc := 212) C dX11_cupboard_212 rfl 0 rfl ?_
                          refine j_iconst (pc := 213) (v := 0) C dX11_cupboard_213 (by decide) ?_
                          refine j_zast (pc := 214) (k := i_8) (ws' := [(g6, .inl (cyI, 240, .inl (fun _ => 0))), (g7, .inl (cyI, 2200, .inl (fun _ => 0))), (g8, .inl (cyI, 2200, .inl (fun _ => 0))), (g10, .inl (cyZ, 12, .inl (fun _ => 0))), (g14, .inl (cyI, 2760, .inl (fun _ => 0))), (g15, .inl (cyZ, 4, .inl (upd g_8_0 i_8 (vp_nar .boolean 0)))), (g0, .inr (11, [.int 0, .ref g1, .int 0, .int 0, .ref g2, .ref g3, .ref g4, .int 0, .int 0, .ref g5, .ref g6, .ref g7, .ref g8, .int 0, .ref g9, .ref g10, .int 1, .ref g11, .ref g12, .ref g13, .ref g14, .ref g15, .int 0, .int 0, .int 0, .ref g16, .int 0, .ref g17, .ref g18, .ref g19, .ref g20, .ref g21, .ref g22, .int 0, .int 0, .int 0, .ref g23, .ref g24, .int 0, .int 0, .int 0, .int 0, .ref g25])), (g2, .inl (cyI, 1002, .inl (upd (fun _ => 0) 0 0))), (g3, .inl (cyI, 1002, .inl (upd (fun _ => 0) 0 0)))]) C 5 3 rfl rfl (nI_pos (by omega)) (nI_clamp (by omega)) (by omega) dX11_cupboard_214 rfl ?_
                          refine j_iinc (pc := 215) (v := (nI (i_8 + 1))) (lv' := [(1, .int (nI (i_8 + 1))), (0, .ref g0)]) C dX11_cupboard_215 0 rfl (nI_1 i_8) (by decide) rfl ?_
                          refine j_goto (pc := 218) (tgt := 203) C dX11_cupboard_218 (by decide) ?_
                          exact j_lv [0, 1] rfl (ih_8 (i_8 + 1) _ (by omega) (zupd hz_8_0 rfl))
                      exact j_lv [0, 1] rfl (loop_8 4 0 _ rfl (fun _ _ => rfl))
                    | succ k_7 ih_7 =>
                      intro i_7 g_7_0 hi_7 hz_7_0
                      refine j_iload_n (pc := 181) C dX11_cupboard_181 rfl 0 rfl ?_
                      refine j_sipush (pc := 182) (v := 460) C dX11_cupboard_182 (by decide) ?_
                      refine j_icmp_ge_f (pc := 185) (tgt := 201) C dX11_cupboard_185 (by decide) (nI12 460 (by omega) (by decide)) ?_
                      refine j_aload_n (pc := 188) C dX11_cupboard_188 rfl 1 rfl ?_
                      refine j_get (pc := 189) (ci := 11) (v := .ref g14) C inw_11 6 rfl rfl 20 (by decide) wd_155 rfl rfl dX11_cupboard_189 ?_
                      refine j_iload_n (pc := 192) C dX11_cupboard_192 rfl 0 rfl ?_
                      refine j_iconst (pc := 193) (v := 0) C dX11_cupboard_193 (by decide) ?_
                      refine j_iast (pc := 194) (k := i_7) (ws' := [(g6, .inl (cyI, 240, .inl (fun _ => 0))), (g7, .inl (cyI, 2200, .inl (fun _ => 0))), (g8, .inl (cyI, 2200, .inl (fun _ => 0))), (g10, .inl (cyZ, 12, .inl (fun _ => 0))), (g14, .inl (cyI, 2760, .inl (upd g_7_0 i_7 0))), (g15, .inl (cyZ, 4, .inl (fun _ => 0))), (g0, .inr (11, [.int 0, .ref g1, .int 0, .int 0, .ref g2, .ref g3, .ref g4, .int 0, .int 0, .ref g5, .ref g6, .ref g7, .ref g8, .int 0, .ref g9, .ref g10, .int 1, .ref g11, .ref g12, .ref g13, .ref g14, .ref g15, .int 0, .int 0, .int 0, .ref g16, .int 0, .ref g17, .ref g18, .ref g19, .ref g20, .ref g21, .ref g22, .int 0, .int 0, .int 0, .ref g23, .ref g24, .int 0, .int 0, .int 0, .int 0, .ref g25])), (g2, .inl (cyI, 1002, .inl (upd (fun _ => 0) 0 0))), (g3, .inl (cyI, 1002, .inl (upd (fun _ => 0) 0 0)))]) C 4 1 rfl rfl (nI_pos (by omega)) (nI_clamp (by omega)) (by omega) dX11_cupboard_194 rfl ?_
                      refine j_iinc (pc := 195) (v := (nI (i_7 + 1))) (lv' := [(1, .int (nI (i_7 + 1))), (0, .ref g0)]) C dX11_cupboard_195 0 rfl (nI_1 i_7) (by decide) rfl ?_
                      refine j_goto (pc := 198) (tgt := 181) C dX11_cupboard_198 (by decide) ?_
                      exact j_lv [0, 1] rfl (ih_7 (i_7 + 1) _ (by omega) (zupd hz_7_0 rfl))
                  exact j_lv [0, 1] rfl (loop_7 460 0 _ rfl (fun _ _ => rfl))
                | succ k_6 ih_6 =>
                  intro i_6 g_6_0 g_6_1 hi_6 hz_6_0 hz_6_1
                  refine j_iload_n (pc := 134) C dX11_cupboard_134 rfl 0 rfl ?_
                  refine j_sipush (pc := 135) (v := 1100) C dX11_cupboard_135 (by decide) ?_
                  refine j_icmp_ge_f (pc := 138) (tgt := 179) C dX11_cupboard_138 (by decide) (nI12 1100 (by omega) (by decide)) ?_
                  refine j_aload_n (pc := 141) C dX11_cupboard_141 rfl 1 rfl ?_
                  refine j_get (pc := 142) (ci := 11) (v := .ref g7) C inw_11 6 rfl rfl 11 (by decide) wd_147 rfl rfl dX11_cupboard_142 ?_
                  refine j_iload_n (pc := 145) C dX11_cupboard_145 rfl 0 rfl ?_
                  refine j_aload_n (pc := 146) C dX11_cupboard_146 rfl 1 rfl ?_
                  refine j_get (pc := 147) (ci := 11) (v := .ref g7) C inw_11 6 rfl rfl 11 (by decide) wd_147 rfl rfl dX11_cupboard_147 ?_
                  refine j_sipush (pc := 150) (v := 1100) C dX11_cupboard_150 (by decide) ?_
                  refine j_iload_n (pc := 153) C dX11_cupboard_153 rfl 0 rfl ?_
                  refine j_iadd (pc := 154) (v := (nI (1100 + i_6))) C dX11_cupboard_154 (nI_add 1100 i_6) ?_
                  refine j_iald (pc := 155) (v := 0) (k := (1100 + i_6)) C 1 1 rfl rfl (nI_pos (by omega)) (nI_clamp (by omega)) (by omega) (hz_6_0 (1100 + i_6) (by omega)) dX11_cupboard_155 ?_
                  refine j_iast (pc := 156) (k := i_6) (ws' := [(g6, .inl (cyI, 240, .inl (fun _ => 0))), (g7, .inl (cyI, 2200, .inl (upd g_6_0 i_6 0))), (g8, .inl (cyI, 2200, .inl g_6_1)), (g10, .inl (cyZ, 12, .inl (fun _ => 0))), (g14, .inl (cyI, 2760, .inl (fun _ => 0))), (g15, .inl (cyZ, 4, .inl (fun _ => 0))), (g0, .inr (11, [.int 0, .ref g1, .int 0, .int 0, .ref g2, .ref g3, .ref g4, .int 0, .int 0, .ref g5, .ref g6, .ref g7, .ref g8, .int 0, .ref g9, .ref g10, .int 1, .ref g11, .ref g12, .ref g13, .ref g14, .ref g15, .int 0, .int 0, .int 0, .ref g16, .int 0, .ref g17, .ref g18, .ref g19, .ref g20, .ref g21, .ref g22, .int 0, .int 0, .int 0, .ref g23, .ref g24, .int 0, .int 0, .int 0, .int 0, .ref g25])), (g2, .inl (cyI, 1002, .inl (upd (fun _ => 0) 0 0))), (g3, .inl (cyI, 1002, .inl (upd (fun _ => 0) 0 0)))]) C 1 1 rfl rfl (nI_pos (by omega)) (nI_clamp (by omega)) (by omega) dX11_cupboard_156 rfl ?_
                  refine j_aload_n (pc := 157) C dX11_cupboard_157 rfl 1 rfl ?_
                  refine j_get (pc := 158) (ci := 11) (v := .ref g8) C inw_11 6 rfl rfl 12 (by decide) wd_148 rfl rfl dX11_cupboard_158 ?_
                  refine j_iload_n (pc := 161) C dX11_cupboard_161 rfl 0 rfl ?_
                  refine j_aload_n (pc := 162) C dX11_cupboard_162 rfl 1 rfl ?_
                  refine j_get (pc := 163) (ci := 11) (v := .ref g8) C inw_11 6 rfl rfl 12 (by decide) wd_148 rfl rfl dX11_cupboard_163 ?_
                  refine j_sipush (pc := 166) (v := 1100) C dX11_cupboard_166 (by decide) ?_
                  refine j_iload_n (pc := 169) C dX11_cupboard_169 rfl 0 rfl ?_
                  refine j_iadd (pc := 170) (v := (nI (1100 + i_6))) C dX11_cupboard_170 (nI_add 1100 i_6) ?_
                  refine j_iald (pc := 171) (v := 0) (k := (1100 + i_6)) C 2 1 rfl rfl (nI_pos (by omega)) (nI_clamp (by omega)) (by omega) (hz_6_1 (1100 + i_6) (by omega)) dX11_cupboard_171 ?_
                  refine j_iast (pc := 172) (k := i_6) (ws' := [(g6, .inl (cyI, 240, .inl (fun _ => 0))), (g7, .inl (cyI, 2200, .inl (upd g_6_0 i_6 0))), (g8, .inl (cyI, 2200, .inl (upd g_6_1 i_6 0))), (g10, .inl (cyZ, 12, .inl (fun _ => 0))), (g14, .inl (cyI, 2760, .inl (fun _ => 0))), (g15, .inl (cyZ, 4, .inl (fun _ => 0))), (g0, .inr (11, [.int 0, .ref g1, .int 0, .int 0, .ref g2, .ref g3, .ref g4, .int 0, .int 0, .ref g5, .ref g6, .ref g7, .ref g8, .int 0, .ref g9, .ref g10, .int 1, .ref g11, .ref g12, .ref g13, .ref g14, .ref g15, .int 0, .int 0, .int 0, .ref g16, .int 0, .ref g17, .ref g18, .ref g19, .ref g20, .ref g21, .ref g22, .int 0, .int 0, .int 0, .ref g23, .ref g24, .int 0, .int 0, .int 0, .int 0, .ref g25])), (g2, .inl (cyI, 1002, .inl (upd (fun _ => 0) 0 0))), (g3, .inl (cyI, 1002, .inl (upd (fun _ => 0) 0 0)))]) C 2 1 rfl rfl (nI_pos (by omega)) (nI_clamp (by omega)) (by omega) dX11_cupboard_172 rfl ?_
                  refine j_iinc (pc := 173) (v := (nI (i_6 + 1))) (lv' := [(1, .int (nI (i_6 + 1))), (0, .ref g0)]) C dX11_cupboard_173 0 rfl (nI_1 i_6) (by decide) rfl ?_
                  refine j_goto (pc := 176) (tgt := 134) C dX11_cupboard_176 (by decide) ?_
                  exact j_lv [0, 1] rfl (ih_6 (i_6 + 1) _ _ (by omega) (zupd hz_6_0 rfl) (zupd hz_6_1 rfl))
              exact j_lv [0, 1] rfl (loop_6 1100 0 _ _ rfl (fun _ _ => rfl) (fun _ _ => rfl))
            | succ k_5 ih_5 =>
              intro i_5 g_5_0 hi_5 hz_5_0
              refine j_iload_n (pc := 105) C dX11_cupboard_105 rfl 0 rfl ?_
              refine j_bipush (pc := 106) (v := 120) C dX11_cupboard_106 (by decide) ?_
              refine j_icmp_ge_f (pc := 108) (tgt := 132) C dX11_cupboard_108 (by decide) (nI12 120 (by omega) (by decide)) ?_
              refine j_aload_n (pc := 111) C dX11_cupboard_111 rfl 1 rfl ?_
              refine j_get (pc := 112) (ci := 11) (v := .ref g6) C inw_11 6 rfl rfl 10 (by decide) wd_146 rfl rfl dX11_cupboard_112 ?_
              refine j_iload_n (pc := 115) C dX11_cupboard_115 rfl 0 rfl ?_
              refine j_aload_n (pc := 116) C dX11_cupboard_116 rfl 1 rfl ?_
              refine j_get (pc := 117) (ci := 11) (v := .ref g6) C inw_11 6 rfl rfl 10 (by decide) wd_146 rfl rfl dX11_cupboard_117 ?_
              refine j_bipush (pc := 120) (v := 120) C dX11_cupboard_120 (by decide) ?_
              refine j_iload_n (pc := 122) C dX11_cupboard_122 rfl 0 rfl ?_
              refine j_iadd (pc := 123) (v := (nI (120 + i_5))) C dX11_cupboard_123 (nI_add 120 i_5) ?_
              refine j_iald (pc := 124) (v := 0) (k := (120 + i_5)) C 0 1 rfl rfl (nI_pos (by omega)) (nI_clamp (by omega)) (by omega) (hz_5_0 (120 + i_5) (by omega)) dX11_cupboard_124 ?_
              refine j_iast (pc := 125) (k := i_5) (ws' := [(g6, .inl (cyI, 240, .inl (upd g_5_0 i_5 0))), (g7, .inl (cyI, 2200, .inl (fun _ => 0))), (g8, .inl (cyI, 2200, .inl (fun _ => 0))), (g10, .inl (cyZ, 12, .inl (fun _ => 0))), (g14, .inl (cyI, 2760, .inl (fun _ => 0))), (g15, .inl (cyZ, 4, .inl (fun _ => 0))), (g0, .inr (11, [.int 0, .ref g1, .int 0, .int 0, .ref g2, .ref g3, .ref g4, .int 0, .int 0, .ref g5, .ref g6, .ref g7, .ref g8, .int 0, .ref g9, .ref g10, .int 1, .ref g11, .ref g12, .ref g13, .ref g14, .ref g15, .int 0, .int 0, .int 0, .ref g16, .int 0, .ref g17, .ref g18, .ref g19, .ref g20, .ref g21, .ref g22, .int 0, .int 0, .int 0, .ref g23, .ref g24, .int 0, .int 0, .int 0, .int 0, .ref g25])), (g2, .inl (cyI, 1002, .inl (upd (fun _ => 0) 0 0))), (g3, .inl (cyI, 1002, .inl (upd (fun _ => 0) 0 0)))]) C 0 1 rfl rfl (nI_pos (by omega)) (nI_clamp (by omega)) (by omega) dX11_cupboard_125 rfl ?_
              refine j_iinc (pc := 126) (v := (nI (i_5 + 1))) (lv' := [(1, .int (nI (i_5 + 1))), (0, .ref g0)]) C dX11_cupboard_126 0 rfl (nI_1 i_5) (by decide) rfl ?_
              refine j_goto (pc := 129) (tgt := 105) C dX11_cupboard_129 (by decide) ?_
              exact j_lv [0, 1] rfl (ih_5 (i_5 + 1) _ (by omega) (zupd hz_5_0 rfl))
          exact j_lv [0, 1] rfl (loop_5 120 0 _ rfl (fun _ _ => rfl))
        | succ k_4 ih_4 =>
          intro i_4 g_4_0 hi_4 hz_4_0
          refine j_iload_n (pc := 40) C dX11_cupboard_40 rfl 0 rfl ?_
          refine j_bipush (pc := 41) (v := 12) C dX11_cupboard_41 (by decide) ?_
          refine j_icmp_ge_f (pc := 43) (tgt := 59) C dX11_cupboard_43 (by decide) (nI12 12 (by omega) (by decide)) ?_
          refine j_aload_n (pc := 46) C dX11_cupboard_46 rfl 1 rfl ?_
          refine j_get (pc := 47) (ci := 11) (v := .ref g10) C inw_11 6 rfl rfl 15 (by decide) wd_151 rfl rfl dX11_cupboard_47 ?_
          refine j_iload_n (pc := 50) C dX11_cupboard_50 rfl 0 rfl ?_
          refine j_iconst (pc := 51) (v := 0) C dX11_cupboard_51 (by decide) ?_
          refine j_zast (pc := 52) (k := i_4) (ws' := [(g6, .inl (cyI, 240, .inl (fun _ => 0))), (g7, .inl (cyI, 2200, .inl (fun _ => 0))), (g8, .inl (cyI, 2200, .inl (fun _ => 0))), (g10, .inl (cyZ, 12, .inl (upd g_4_0 i_4 (vp_nar .boolean 0)))), (g14, .inl (cyI, 2760, .inl (fun _ => 0))), (g15, .inl (cyZ, 4, .inl (fun _ => 0))), (g0, .inr (11, [.int 0, .ref g1, .int 0, .int 0, .ref g2, .ref g3, .ref g4, .int 0, .int 0, .ref g5, .ref g6, .ref g7, .ref g8, .int 0, .ref g9, .ref g10, .int 1, .ref g11, .ref g12, .ref g13, .ref g14, .ref g15, .int 0, .int 0, .int 0, .ref g16, .int 0, .ref g17, .ref g18, .ref g19, .ref g20, .ref g21, .ref g22, .int 0, .int 0, .int 0, .ref g23, .ref g24, .int 0, .int 0, .int 0, .int 0, .ref g25])), (g2, .inl (cyI, 1002, .inl (upd (fun _ => 0) 0 0))), (g3, .inl (cyI, 1002, .inl (upd (fun _ => 0) 0 0)))]) C 3 3 rfl rfl (nI_pos (by omega)) (nI_clamp (by omega)) (by omega) dX11_cupboard_52 rfl ?_
          refine j_iinc (pc := 53) (v := (nI (i_4 + 1))) (lv' := [(1, .int (nI (i_4 + 1))), (0, .ref g0)]) C dX11_cupboard_53 0 rfl (nI_1 i_4) (by decide) rfl ?_
          refine j_goto (pc := 56) (tgt := 40) C dX11_cupboard_56 (by decide) ?_
          exact j_lv [0, 1] rfl (ih_4 (i_4 + 1) _ (by omega) (zupd hz_4_0 rfl))
      exact j_lv [0, 1] rfl (loop_4 12 0 _ rfl (fun _ _ => rfl))
    | succ k_3 ih_3 =>
      intro i_3 g_3_0 hi_3 hz_3_0
      refine j_iload_n (pc := 16) C dX11_cupboard_16 rfl 0 rfl ?_
      refine j_bipush (pc := 17) (v := 120) C dX11_cupboard_17 (by decide) ?_
      refine j_icmp_ge_f (pc := 19) (tgt := 38) C dX11_cupboard_19 (by decide) (nI12 120 (by omega) (by decide)) ?_
      refine j_aload_n (pc := 22) C dX11_cupboard_22 rfl 1 rfl ?_
      refine j_get (pc := 23) (ci := 11) (v := .ref g6) C inw_11 6 rfl rfl 10 (by decide) wd_146 rfl rfl dX11_cupboard_23 ?_
      refine j_bipush (pc := 26) (v := 120) C dX11_cupboard_26 (by decide) ?_
      refine j_iload_n (pc := 28) C dX11_cupboard_28 rfl 0 rfl ?_
      refine j_iadd (pc := 29) (v := (nI (120 + i_3))) C dX11_cupboard_29 (nI_add 120 i_3) ?_
      refine j_iconst (pc := 30) (v := 0) C dX11_cupboard_30 (by decide) ?_
      refine j_iast (pc := 31) (k := (120 + i_3)) (ws' := [(g6, .inl (cyI, 240, .inl (upd g_3_0 (120 + i_3) 0))), (g7, .inl (cyI, 2200, .inl (fun _ => 0))), (g8, .inl (cyI, 2200, .inl (fun _ => 0))), (g10, .inl (cyZ, 12, .inl (fun _ => 0))), (g14, .inl (cyI, 2760, .inl (fun _ => 0))), (g15, .inl (cyZ, 4, .inl (fun _ => 0))), (g0, .inr (11, [.int 0, .ref g1, .int 0, .int 0, .ref g2, .ref g3, .ref g4, .int 0, .int 0, .ref g5, .ref g6, .ref g7, .ref g8, .int 0, .ref g9, .ref g10, .int 1, .ref g11, .ref g12, .ref g13, .ref g14, .ref g15, .int 0, .int 0, .int 0, .ref g16, .int 0, .ref g17, .ref g18, .ref g19, .ref g20, .ref g21, .ref g22, .int 0, .int 0, .int 0, .ref g23, .ref g24, .int 0, .int 0, .int 0, .int 0, .ref g25])), (g2, .inl (cyI, 1002, .inl (upd (fun _ => 0) 0 0))), (g3, .inl (cyI, 1002, .inl (upd (fun _ => 0) 0 0)))]) C 0 1 rfl rfl (nI_pos (by omega)) (nI_clamp (by omega)) (by omega) dX11_cupboard_31 rfl ?_
      refine j_iinc (pc := 32) (v := (nI (i_3 + 1))) (lv' := [(1, .int (nI (i_3 + 1))), (0, .ref g0)]) C dX11_cupboard_32 0 rfl (nI_1 i_3) (by decide) rfl ?_
      refine j_goto (pc := 35) (tgt := 16) C dX11_cupboard_35 (by decide) ?_
      exact j_lv [0, 1] rfl (ih_3 (i_3 + 1) _ (by omega) (zupd hz_3_0 rfl))
  exact j_lv [0, 1] rfl (loop_3 120 0 _ rfl (fun _ _ => rfl))
