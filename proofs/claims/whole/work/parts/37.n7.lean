/-! The reference: opening, creating. -/
def nm_may (C : Nat → Nat → Int32) (u k : Nat) (m : Int32) : Prop := ((m &&& 3) = 1 ∨ nY C u k 4) ∧ (((m &&& 3) ≤ 0 ∧ (m &&& 16) = 0) ∨ nY C u k 2) ∧ ((m &&& 64) = 0 ∨ (¬ C 208 k < 0 ∧ nY C u (np C k) 2))
noncomputable def nh_open (C : Nat → Nat → Int32) (f u k : Nat) (m : Int32) : Int32 :=
  if ¬ ((m &&& -84) = 0 ∧ ¬ 3 ≤ (m &&& 3)) then -7 else if ¬ (C 213 k &&& 2048) = 0 ∧ ¬ m = 0 then -4 else if ¬ C 218 f = 0 ∧ ¬ m = 0 then -9 else it_P (nm_may C u k m) (it_P (¬ (C 213 k &&& 1024) = 0 ∧ nb_a C (C 218 f) (C 219 f)) (-10) 0) (-5)
noncomputable def nO_cut (C : Nat → Nat → Int32) (s k : Nat) : Nat → Nat → Int32 := cs_C (cs_C (nx_C C s k) 214 k 0) 212 k (C 212 k + 1)
def nO_fin (C : Nat → Nat → Int32) (f k : Nat) (m : Int32) : Nat → Nat → Int32 := nt_v (cs_C (cs_C C 220 f m) 221 f 0) k 0
noncomputable def nO_R (C : Nat → Nat → Int32) (f t s : Nat) : Int32 × (Nat → Nat → Int32) := if C 217 f < 0 then (-1, C) else if ¬ C 220 f < 0 then (-8, C) else (match nc_i C t (C 219 f) with
  | none => (-13, C)
  | some k => if ¬ nh_open C f (nus C f) k (C 228 0) = 0 then (nh_open C f (nus C f) k (C 228 0), C) else if ¬ (C 228 0 &&& 16) = 0 ∧ (C 213 k &&& 512) = 0 then (if nb_n C s + nn_n C s k ≤ 64 then (0, nO_fin (nO_cut C s k) f k (C 228 0)) else (-11, C)) else (0, nO_fin C f k (C 228 0)))
theorem d_N_opening_0 : decode b_N_opening 0 = .ok (.aload_n 0, 1) := by decide +kernel
theorem d_N_opening_1 : decode b_N_opening 1 = .ok (.getfield 87, 3) := by decide +kernel
theorem d_N_opening_4 : decode b_N_opening 4 = .ok (.iconst 0, 1) := by decide +kernel
theorem d_N_opening_5 : decode b_N_opening 5 = .ok (.iaload, 1) := by decide +kernel
theorem d_N_opening_6 : decode b_N_opening 6 = .ok (.istore_n 2, 1) := by decide +kernel
theorem d_N_opening_7 : decode b_N_opening 7 = .ok (.aload_n 0, 1) := by decide +kernel
theorem d_N_opening_8 : decode b_N_opening 8 = .ok (.getfield 54, 3) := by decide +kernel
theorem d_N_opening_11 : decode b_N_opening 11 = .ok (.iload_n 1, 1) := by decide +kernel
theorem d_N_opening_12 : decode b_N_opening 12 = .ok (.iaload, 1) := by decide +kernel
theorem d_N_opening_13 : decode b_N_opening 13 = .ok (.ifCond .ge 5, 3) := by decide +kernel
theorem d_N_opening_16 : decode b_N_opening 16 = .ok (.iconst (-1), 1) := by decide +kernel
theorem d_N_opening_17 : decode b_N_opening 17 = .ok (.ireturn, 1) := by decide +kernel
theorem d_N_opening_18 : decode b_N_opening 18 = .ok (.aload_n 0, 1) := by decide +kernel
theorem d_N_opening_19 : decode b_N_opening 19 = .ok (.getfield 63, 3) := by decide +kernel
theorem d_N_opening_22 : decode b_N_opening 22 = .ok (.iload_n 1, 1) := by decide +kernel
theorem d_N_opening_23 : decode b_N_opening 23 = .ok (.iaload, 1) := by decide +kernel
theorem d_N_opening_24 : decode b_N_opening 24 = .ok (.ifCond .lt 6, 3) := by decide +kernel
theorem d_N_opening_27 : decode b_N_opening 27 = .ok (.bipush (-8), 2) := by decide +kernel
theorem d_N_opening_29 : decode b_N_opening 29 = .ok (.ireturn, 1) := by decide +kernel
theorem d_N_opening_30 : decode b_N_opening 30 = .ok (.aload_n 0, 1) := by decide +kernel
theorem d_N_opening_31 : decode b_N_opening 31 = .ok (.iload_n 1, 1) := by decide +kernel
theorem d_N_opening_32 : decode b_N_opening 32 = .ok (.invokevirtual 167, 3) := by decide +kernel
theorem d_N_opening_35 : decode b_N_opening 35 = .ok (.istore_n 3, 1) := by decide +kernel
theorem d_N_opening_36 : decode b_N_opening 36 = .ok (.iload_n 3, 1) := by decide +kernel
theorem d_N_opening_37 : decode b_N_opening 37 = .ok (.ifCond .ge 6, 3) := by decide +kernel
theorem d_N_opening_40 : decode b_N_opening 40 = .ok (.bipush (-13), 2) := by decide +kernel
theorem d_N_opening_42 : decode b_N_opening 42 = .ok (.ireturn, 1) := by decide +kernel
theorem d_N_opening_43 : decode b_N_opening 43 = .ok (.iload_n 2, 1) := by decide +kernel
theorem d_N_opening_44 : decode b_N_opening 44 = .ok (.invokestatic 184, 3) := by decide +kernel
theorem d_N_opening_47 : decode b_N_opening 47 = .ok (.ifCond .ne 6, 3) := by decide +kernel
theorem d_N_opening_50 : decode b_N_opening 50 = .ok (.bipush (-7), 2) := by decide +kernel
theorem d_N_opening_52 : decode b_N_opening 52 = .ok (.ireturn, 1) := by decide +kernel
theorem d_N_opening_53 : decode b_N_opening 53 = .ok (.aload_n 0, 1) := by decide +kernel
theorem d_N_opening_54 : decode b_N_opening 54 = .ok (.iload_n 3, 1) := by decide +kernel
theorem d_N_opening_55 : decode b_N_opening 55 = .ok (.invokevirtual 174, 3) := by decide +kernel
theorem d_N_opening_58 : decode b_N_opening 58 = .ok (.ifCond .eq 10, 3) := by decide +kernel
theorem d_N_opening_61 : decode b_N_opening 61 = .ok (.iload_n 2, 1) := by decide +kernel
theorem d_N_opening_62 : decode b_N_opening 62 = .ok (.ifCond .eq 6, 3) := by decide +kernel
theorem d_N_opening_65 : decode b_N_opening 65 = .ok (.bipush (-4), 2) := by decide +kernel
theorem d_N_opening_67 : decode b_N_opening 67 = .ok (.ireturn, 1) := by decide +kernel
theorem d_N_opening_68 : decode b_N_opening 68 = .ok (.aload_n 0, 1) := by decide +kernel
theorem d_N_opening_69 : decode b_N_opening 69 = .ok (.getfield 57, 3) := by decide +kernel
theorem d_N_opening_72 : decode b_N_opening 72 = .ok (.iload_n 1, 1) := by decide +kernel
theorem d_N_opening_73 : decode b_N_opening 73 = .ok (.iaload, 1) := by decide +kernel
theorem d_N_opening_74 : decode b_N_opening 74 = .ok (.ifCond .eq 10, 3) := by decide +kernel
theorem d_N_opening_77 : decode b_N_opening 77 = .ok (.iload_n 2, 1) := by decide +kernel
theorem d_N_opening_78 : decode b_N_opening 78 = .ok (.ifCond .eq 6, 3) := by decide +kernel
theorem d_N_opening_81 : decode b_N_opening 81 = .ok (.bipush (-9), 2) := by decide +kernel
theorem d_N_opening_83 : decode b_N_opening 83 = .ok (.ireturn, 1) := by decide +kernel
theorem d_N_opening_84 : decode b_N_opening 84 = .ok (.iload_n 2, 1) := by decide +kernel
theorem d_N_opening_85 : decode b_N_opening 85 = .ok (.bipush 16, 2) := by decide +kernel
theorem d_N_opening_87 : decode b_N_opening 87 = .ok (.iand, 1) := by decide +kernel
theorem d_N_opening_88 : decode b_N_opening 88 = .ok (.ifCond .eq 7, 3) := by decide +kernel
theorem d_N_opening_91 : decode b_N_opening 91 = .ok (.iconst 1, 1) := by decide +kernel
theorem d_N_opening_92 : decode b_N_opening 92 = .ok (.goto 4, 3) := by decide +kernel
theorem d_N_opening_95 : decode b_N_opening 95 = .ok (.iconst 0, 1) := by decide +kernel
theorem d_N_opening_96 : decode b_N_opening 96 = .ok (.istore 4, 2) := by decide +kernel
theorem d_N_opening_98 : decode b_N_opening 98 = .ok (.aload_n 0, 1) := by decide +kernel
theorem d_N_opening_99 : decode b_N_opening 99 = .ok (.iload_n 2, 1) := by decide +kernel
theorem d_N_opening_100 : decode b_N_opening 100 = .ok (.invokevirtual 187, 3) := by decide +kernel
theorem d_N_opening_103 : decode b_N_opening 103 = .ok (.ifCond .eq 18, 3) := by decide +kernel
theorem d_N_opening_106 : decode b_N_opening 106 = .ok (.aload_n 0, 1) := by decide +kernel
theorem d_N_opening_107 : decode b_N_opening 107 = .ok (.aload_n 0, 1) := by decide +kernel
theorem d_N_opening_108 : decode b_N_opening 108 = .ok (.getfield 54, 3) := by decide +kernel
theorem d_N_opening_111 : decode b_N_opening 111 = .ok (.iload_n 1, 1) := by decide +kernel
theorem d_N_opening_112 : decode b_N_opening 112 = .ok (.iaload, 1) := by decide +kernel
theorem d_N_opening_113 : decode b_N_opening 113 = .ok (.iload_n 3, 1) := by decide +kernel
theorem d_N_opening_114 : decode b_N_opening 114 = .ok (.iconst 4, 1) := by decide +kernel
theorem d_N_opening_115 : decode b_N_opening 115 = .ok (.invokevirtual 177, 3) := by decide +kernel
theorem d_N_opening_118 : decode b_N_opening 118 = .ok (.ifCond .eq 31, 3) := by decide +kernel
theorem d_N_opening_121 : decode b_N_opening 121 = .ok (.aload_n 0, 1) := by decide +kernel
theorem d_N_opening_122 : decode b_N_opening 122 = .ok (.iload_n 2, 1) := by decide +kernel
theorem d_N_opening_123 : decode b_N_opening 123 = .ok (.invokevirtual 190, 3) := by decide +kernel
theorem d_N_opening_126 : decode b_N_opening 126 = .ok (.ifCond .ne 8, 3) := by decide +kernel
theorem d_N_opening_129 : decode b_N_opening 129 = .ok (.iload 4, 2) := by decide +kernel
theorem d_N_opening_131 : decode b_N_opening 131 = .ok (.ifCond .eq 21, 3) := by decide +kernel
theorem d_N_opening_134 : decode b_N_opening 134 = .ok (.aload_n 0, 1) := by decide +kernel
theorem d_N_opening_135 : decode b_N_opening 135 = .ok (.aload_n 0, 1) := by decide +kernel
theorem d_N_opening_136 : decode b_N_opening 136 = .ok (.getfield 54, 3) := by decide +kernel
theorem d_N_opening_139 : decode b_N_opening 139 = .ok (.iload_n 1, 1) := by decide +kernel
theorem d_N_opening_140 : decode b_N_opening 140 = .ok (.iaload, 1) := by decide +kernel
theorem d_N_opening_141 : decode b_N_opening 141 = .ok (.iload_n 3, 1) := by decide +kernel
theorem d_N_opening_142 : decode b_N_opening 142 = .ok (.iconst 2, 1) := by decide +kernel
theorem d_N_opening_143 : decode b_N_opening 143 = .ok (.invokevirtual 177, 3) := by decide +kernel
theorem d_N_opening_146 : decode b_N_opening 146 = .ok (.ifCond .ne 6, 3) := by decide +kernel
theorem d_N_opening_149 : decode b_N_opening 149 = .ok (.bipush (-5), 2) := by decide +kernel
theorem d_N_opening_151 : decode b_N_opening 151 = .ok (.ireturn, 1) := by decide +kernel
theorem d_N_opening_152 : decode b_N_opening 152 = .ok (.iload_n 2, 1) := by decide +kernel
theorem d_N_opening_153 : decode b_N_opening 153 = .ok (.bipush 64, 2) := by decide +kernel
theorem d_N_opening_155 : decode b_N_opening 155 = .ok (.iand, 1) := by decide +kernel
theorem d_N_opening_156 : decode b_N_opening 156 = .ok (.ifCond .eq 34, 3) := by decide +kernel
theorem d_N_opening_159 : decode b_N_opening 159 = .ok (.aload_n 0, 1) := by decide +kernel
theorem d_N_opening_160 : decode b_N_opening 160 = .ok (.getfield 20, 3) := by decide +kernel
theorem d_N_opening_163 : decode b_N_opening 163 = .ok (.iload_n 3, 1) := by decide +kernel
theorem d_N_opening_164 : decode b_N_opening 164 = .ok (.iaload, 1) := by decide +kernel
theorem d_N_opening_165 : decode b_N_opening 165 = .ok (.ifCond .lt 22, 3) := by decide +kernel
theorem d_N_opening_168 : decode b_N_opening 168 = .ok (.aload_n 0, 1) := by decide +kernel
theorem d_N_opening_169 : decode b_N_opening 169 = .ok (.aload_n 0, 1) := by decide +kernel
theorem d_N_opening_170 : decode b_N_opening 170 = .ok (.getfield 54, 3) := by decide +kernel
theorem d_N_opening_173 : decode b_N_opening 173 = .ok (.iload_n 1, 1) := by decide +kernel
theorem d_N_opening_174 : decode b_N_opening 174 = .ok (.iaload, 1) := by decide +kernel
theorem d_N_opening_175 : decode b_N_opening 175 = .ok (.aload_n 0, 1) := by decide +kernel
theorem d_N_opening_176 : decode b_N_opening 176 = .ok (.iload_n 3, 1) := by decide +kernel
theorem d_N_opening_177 : decode b_N_opening 177 = .ok (.invokevirtual 154, 3) := by decide +kernel
theorem d_N_opening_180 : decode b_N_opening 180 = .ok (.iconst 2, 1) := by decide +kernel
theorem d_N_opening_181 : decode b_N_opening 181 = .ok (.invokevirtual 177, 3) := by decide +kernel
theorem d_N_opening_184 : decode b_N_opening 184 = .ok (.ifCond .ne 6, 3) := by decide +kernel
theorem d_N_opening_187 : decode b_N_opening 187 = .ok (.bipush (-5), 2) := by decide +kernel
theorem d_N_opening_189 : decode b_N_opening 189 = .ok (.ireturn, 1) := by decide +kernel
theorem d_N_opening_190 : decode b_N_opening 190 = .ok (.aload_n 0, 1) := by decide +kernel
theorem d_N_opening_191 : decode b_N_opening 191 = .ok (.getfield 35, 3) := by decide +kernel
theorem d_N_opening_194 : decode b_N_opening 194 = .ok (.iload_n 3, 1) := by decide +kernel
theorem d_N_opening_195 : decode b_N_opening 195 = .ok (.iaload, 1) := by decide +kernel
theorem d_N_opening_196 : decode b_N_opening 196 = .ok (.sipush 1024, 3) := by decide +kernel
theorem d_N_opening_199 : decode b_N_opening 199 = .ok (.iand, 1) := by decide +kernel
theorem d_N_opening_200 : decode b_N_opening 200 = .ok (.ifCond .eq 25, 3) := by decide +kernel
theorem d_N_opening_203 : decode b_N_opening 203 = .ok (.aload_n 0, 1) := by decide +kernel
theorem d_N_opening_204 : decode b_N_opening 204 = .ok (.aload_n 0, 1) := by decide +kernel
theorem d_N_opening_205 : decode b_N_opening 205 = .ok (.getfield 57, 3) := by decide +kernel
theorem d_N_opening_208 : decode b_N_opening 208 = .ok (.iload_n 1, 1) := by decide +kernel
theorem d_N_opening_209 : decode b_N_opening 209 = .ok (.iaload, 1) := by decide +kernel
theorem d_N_opening_210 : decode b_N_opening 210 = .ok (.aload_n 0, 1) := by decide +kernel
theorem d_N_opening_211 : decode b_N_opening 211 = .ok (.getfield 60, 3) := by decide +kernel
theorem d_N_opening_214 : decode b_N_opening 214 = .ok (.iload_n 1, 1) := by decide +kernel
theorem d_N_opening_215 : decode b_N_opening 215 = .ok (.iaload, 1) := by decide +kernel
theorem d_N_opening_216 : decode b_N_opening 216 = .ok (.invokevirtual 193, 3) := by decide +kernel
theorem d_N_opening_219 : decode b_N_opening 219 = .ok (.ifCond .eq 6, 3) := by decide +kernel
theorem d_N_opening_222 : decode b_N_opening 222 = .ok (.bipush (-10), 2) := by decide +kernel
theorem d_N_opening_224 : decode b_N_opening 224 = .ok (.ireturn, 1) := by decide +kernel
theorem d_N_opening_225 : decode b_N_opening 225 = .ok (.iload 4, 2) := by decide +kernel
theorem d_N_opening_227 : decode b_N_opening 227 = .ok (.ifCond .eq 20, 3) := by decide +kernel
theorem d_N_opening_230 : decode b_N_opening 230 = .ok (.aload_n 0, 1) := by decide +kernel
theorem d_N_opening_231 : decode b_N_opening 231 = .ok (.getfield 35, 3) := by decide +kernel
theorem d_N_opening_234 : decode b_N_opening 234 = .ok (.iload_n 3, 1) := by decide +kernel
theorem d_N_opening_235 : decode b_N_opening 235 = .ok (.iaload, 1) := by decide +kernel
theorem d_N_opening_236 : decode b_N_opening 236 = .ok (.sipush 512, 3) := by decide +kernel
theorem d_N_opening_239 : decode b_N_opening 239 = .ok (.iand, 1) := by decide +kernel
theorem d_N_opening_240 : decode b_N_opening 240 = .ok (.ifCond .ne 7, 3) := by decide +kernel
theorem d_N_opening_243 : decode b_N_opening 243 = .ok (.iconst 1, 1) := by decide +kernel
theorem d_N_opening_244 : decode b_N_opening 244 = .ok (.goto 4, 3) := by decide +kernel
theorem d_N_opening_247 : decode b_N_opening 247 = .ok (.iconst 0, 1) := by decide +kernel
theorem d_N_opening_248 : decode b_N_opening 248 = .ok (.istore 5, 2) := by decide +kernel
theorem d_N_opening_250 : decode b_N_opening 250 = .ok (.iload 5, 2) := by decide +kernel
theorem d_N_opening_252 : decode b_N_opening 252 = .ok (.ifCond .eq 18, 3) := by decide +kernel
theorem d_N_opening_255 : decode b_N_opening 255 = .ok (.aload_n 0, 1) := by decide +kernel
theorem d_N_opening_256 : decode b_N_opening 256 = .ok (.aload_n 0, 1) := by decide +kernel
theorem d_N_opening_257 : decode b_N_opening 257 = .ok (.iload_n 3, 1) := by decide +kernel
theorem d_N_opening_258 : decode b_N_opening 258 = .ok (.invokevirtual 196, 3) := by decide +kernel
theorem d_N_opening_261 : decode b_N_opening 261 = .ok (.invokevirtual 199, 3) := by decide +kernel
theorem d_N_opening_264 : decode b_N_opening 264 = .ok (.ifCond .ne 6, 3) := by decide +kernel
theorem d_N_opening_267 : decode b_N_opening 267 = .ok (.bipush (-11), 2) := by decide +kernel
theorem d_N_opening_269 : decode b_N_opening 269 = .ok (.ireturn, 1) := by decide +kernel
theorem d_N_opening_270 : decode b_N_opening 270 = .ok (.iload 5, 2) := by decide +kernel
theorem d_N_opening_272 : decode b_N_opening 272 = .ok (.ifCond .eq 25, 3) := by decide +kernel
theorem d_N_opening_275 : decode b_N_opening 275 = .ok (.aload_n 0, 1) := by decide +kernel
theorem d_N_opening_276 : decode b_N_opening 276 = .ok (.iload_n 3, 1) := by decide +kernel
theorem d_N_opening_277 : decode b_N_opening 277 = .ok (.invokevirtual 202, 3) := by decide +kernel
theorem d_N_opening_280 : decode b_N_opening 280 = .ok (.aload_n 0, 1) := by decide +kernel
theorem d_N_opening_281 : decode b_N_opening 281 = .ok (.getfield 38, 3) := by decide +kernel
theorem d_N_opening_284 : decode b_N_opening 284 = .ok (.iload_n 3, 1) := by decide +kernel
theorem d_N_opening_285 : decode b_N_opening 285 = .ok (.iconst 0, 1) := by decide +kernel
theorem d_N_opening_286 : decode b_N_opening 286 = .ok (.iastore, 1) := by decide +kernel
theorem d_N_opening_287 : decode b_N_opening 287 = .ok (.aload_n 0, 1) := by decide +kernel
theorem d_N_opening_288 : decode b_N_opening 288 = .ok (.getfield 32, 3) := by decide +kernel
theorem d_N_opening_291 : decode b_N_opening 291 = .ok (.iload_n 3, 1) := by decide +kernel
theorem d_N_opening_292 : decode b_N_opening 292 = .ok (.dup2, 1) := by decide +kernel
theorem d_N_opening_293 : decode b_N_opening 293 = .ok (.iaload, 1) := by decide +kernel
theorem d_N_opening_294 : decode b_N_opening 294 = .ok (.iconst 1, 1) := by decide +kernel
theorem d_N_opening_295 : decode b_N_opening 295 = .ok (.iadd, 1) := by decide +kernel
theorem d_N_opening_296 : decode b_N_opening 296 = .ok (.iastore, 1) := by decide +kernel
theorem d_N_opening_297 : decode b_N_opening 297 = .ok (.aload_n 0, 1) := by decide +kernel
theorem d_N_opening_298 : decode b_N_opening 298 = .ok (.getfield 63, 3) := by decide +kernel
theorem d_N_opening_301 : decode b_N_opening 301 = .ok (.iload_n 1, 1) := by decide +kernel
theorem d_N_opening_302 : decode b_N_opening 302 = .ok (.iload_n 2, 1) := by decide +kernel
theorem d_N_opening_303 : decode b_N_opening 303 = .ok (.iastore, 1) := by decide +kernel
theorem d_N_opening_304 : decode b_N_opening 304 = .ok (.aload_n 0, 1) := by decide +kernel
theorem d_N_opening_305 : decode b_N_opening 305 = .ok (.getfield 66, 3) := by decide +kernel
theorem d_N_opening_308 : decode b_N_opening 308 = .ok (.iload_n 1, 1) := by decide +kernel
theorem d_N_opening_309 : decode b_N_opening 309 = .ok (.iconst 0, 1) := by decide +kernel
theorem d_N_opening_310 : decode b_N_opening 310 = .ok (.iastore, 1) := by decide +kernel
theorem d_N_opening_311 : decode b_N_opening 311 = .ok (.aload_n 0, 1) := by decide +kernel
theorem d_N_opening_312 : decode b_N_opening 312 = .ok (.aload_n 0, 1) := by decide +kernel
theorem d_N_opening_313 : decode b_N_opening 313 = .ok (.getfield 17, 3) := by decide +kernel
theorem d_N_opening_316 : decode b_N_opening 316 = .ok (.iload_n 3, 1) := by decide +kernel
theorem d_N_opening_317 : decode b_N_opening 317 = .ok (.iaload, 1) := by decide +kernel
theorem d_N_opening_318 : decode b_N_opening 318 = .ok (.invokevirtual 170, 3) := by decide +kernel
theorem d_N_opening_321 : decode b_N_opening 321 = .ok (.aload_n 0, 1) := by decide +kernel
theorem d_N_opening_322 : decode b_N_opening 322 = .ok (.aload_n 0, 1) := by decide +kernel
theorem d_N_opening_323 : decode b_N_opening 323 = .ok (.getfield 32, 3) := by decide +kernel
theorem d_N_opening_326 : decode b_N_opening 326 = .ok (.iload_n 3, 1) := by decide +kernel
theorem d_N_opening_327 : decode b_N_opening 327 = .ok (.iaload, 1) := by decide +kernel
theorem d_N_opening_328 : decode b_N_opening 328 = .ok (.invokevirtual 170, 3) := by decide +kernel
theorem d_N_opening_331 : decode b_N_opening 331 = .ok (.iconst 0, 1) := by decide +kernel
theorem d_N_opening_332 : decode b_N_opening 332 = .ok (.ireturn, 1) := by decide +kernel
set_option maxRecDepth 20000 in
set_option maxHeartbeats 2000000 in
theorem ct_N_opening (E : mm_En) (C : Nat → Nat → Int32) {f t s : Nat} (hw : nw_P C s) (hu : nu_P C f t) (hr : C 204 26 = nI 0) : mm_MT E K_N_opening [.ref 204, .int (nI f)] (hp_H C) (mm_D (some (.int (nO_R C f t s).1)) (nO_R C f t s).2) := by
  obtain ⟨hm, hp, hg, hl, es, s4, hroot⟩ := hw
  obtain ⟨hf, ht, et, hus⟩ := hu
  obtain ⟨m, em⟩ : ∃ m, m = C 228 0 := ⟨_, rfl⟩
  refine mm_mtL (by decide) (by rfl) (Nat.le_of_ble_eq_true rfl) rfl ?_
  refine ev_aload_n (pc := 0) d_N_opening_0 rfl rfl (by first | rfl | exact mm_rk_rf _) ?_
  refine ev_gR (pc := 1) sh_N (by rfl) fl_N_87 d_N_opening_1 ?_
  refine ev_iconst (pc := 4) (v := nI 0) d_N_opening_4 rfl ?_
  refine ev_rIN (pc := 5) sh_N_n (by omega) (by decide) d_N_opening_5 ?_
  rw [← em]
  refine ev_istore_n (pc := 6) d_N_opening_6 rfl (Nat.le_of_ble_eq_true rfl) rfl ?_
  try dsimp only [List.set]
  refine ev_aload_n (pc := 7) d_N_opening_7 rfl rfl (by first | rfl | exact mm_rk_rf _) ?_
  refine ev_gR (pc := 8) sh_N (by rfl) fl_N_54 d_N_opening_8 ?_
  refine ev_iload_n (pc := 11) d_N_opening_11 rfl rfl ?_
  refine ev_rIN (pc := 12) sh_N_user (by omega) (by decide) d_N_opening_12 ?_
  refine ev_if_ge (pc := 13) (tgt := 18) d_N_opening_13 (by decide) (fun ha => ?_) (fun ha => ?_)
  rotate_left
  · have ha' : C 217 f < 0 := Int32.not_le.mp ha
    rw [nO_R, if_pos ha']
    refine ev_iconst (pc := 16) (v := -1) d_N_opening_16 rfl ?_
    exact ev_iret (pc := 17) d_N_opening_17 rfl (Nat.zero_le _) (Nat.zero_le _) ⟨rfl, rfl⟩
  have ha' : ¬ C 217 f < 0 := Int32.not_lt.mpr ha
  obtain ⟨u4, eu⟩ := hus ha'
  obtain ⟨u, eu0⟩ : ∃ u, u = nus C f := ⟨_, rfl⟩
  have eu1 : C 217 f = nI u := by rw [eu0]; exact eu
  have hu4 : u < 4 := by rw [eu0]; exact u4
  rw [nO_R, if_neg ha', ← eu0, ← em]
  refine ev_aload_n (pc := 18) d_N_opening_18 rfl rfl (by first | rfl | exact mm_rk_rf _) ?_
  refine ev_gR (pc := 19) sh_N (by rfl) fl_N_63 d_N_opening_19 ?_
  refine ev_iload_n (pc := 22) d_N_opening_22 rfl rfl ?_
  refine ev_rIN (pc := 23) sh_N_openMode (by omega) (by decide) d_N_opening_23 ?_
  refine ev_if_lt (pc := 24) (tgt := 30) d_N_opening_24 (by decide) (fun hb => ?_) (fun hb => ?_)
  rotate_left
  · rw [if_pos hb]
    refine ev_bipush (pc := 27) (v := -8) d_N_opening_27 (by decide) ?_
    exact ev_iret (pc := 29) d_N_opening_29 rfl (Nat.zero_le _) (Nat.zero_le _) ⟨rfl, rfl⟩
  rw [if_neg (fun z => z hb)]
  refine ev_aload_n (pc := 30) d_N_opening_30 rfl rfl (by first | rfl | exact mm_rk_rf _) ?_
  refine ev_iload_n (pc := 31) d_N_opening_31 rfl rfl ?_
  refine ev_cV (pc := 32) (ct_N_nodeOf E C hm hf ht et) cl_N_167 jv_N_nodeOf ⟨(Nat.le_of_ble_eq_true rfl), (Nat.le_of_ble_eq_true rfl)⟩ rfl sh_N rfl (Nat.le_of_ble_eq_true rfl) d_N_opening_32 ⟨Nat.zero_le _, Nat.zero_le _⟩ ?_
  cases hn : nc_i C t (C 219 f) with
  | none =>
    rw [show oI none = -1 from rfl]
    refine ev_istore_n (pc := 35) d_N_opening_35 rfl (Nat.le_of_ble_eq_true rfl) rfl ?_
    try dsimp only [List.set]
    refine ev_iload_n (pc := 36) d_N_opening_36 rfl rfl ?_
    refine ev_if_ge (pc := 37) (tgt := 43) d_N_opening_37 (by decide) (fun hb => ?_) (fun hb => ?_)
    · exact absurd hb (by decide)
    refine ev_bipush (pc := 40) (v := -13) d_N_opening_40 (by decide) ?_
    exact ev_iret (pc := 42) d_N_opening_42 rfl (Nat.zero_le _) (Nat.zero_le _) ⟨rfl, rfl⟩
  | some k =>
    rw [show oI (some k) = nI k from rfl]
    obtain ⟨v1, v2, v3, v4⟩ := nc_v ht hm hn
    simp only []
    refine ev_istore_n (pc := 35) d_N_opening_35 rfl (Nat.le_of_ble_eq_true rfl) rfl ?_
    try dsimp only [List.set]
    refine ev_iload_n (pc := 36) d_N_opening_36 rfl rfl ?_
    refine ev_if_ge (pc := 37) (tgt := 43) d_N_opening_37 (by decide) (fun hb => ?_) (fun hb => ?_)
    rotate_left
    · exact absurd (nI_pos' (by omega)) hb
    obtain ⟨R, eR⟩ : ∃ R, R = (if ¬ nh_open C f u k m = 0 then (nh_open C f u k m, C) else if ¬ (m &&& 16) = 0 ∧ (C 213 k &&& 512) = 0 then (if nb_n C s + nn_n C s k ≤ 64 then (0, nO_fin (nO_cut C s k) f k m) else (-11, C)) else (0, nO_fin C f k m)) := ⟨_, rfl⟩
    rw [← eR]
    have hR0 : ∀ h, nh_open C f u k m = h → ¬ h = 0 → R = (h, C) := by
      intro h h1 h2
      rw [eR, h1, if_pos h2]
    refine ev_iload_n (pc := 43) d_N_opening_43 rfl rfl ?_
    refine ev_cS (pc := 44) (ct_N_isOpenMode E C m) cl_N_184 js_N_isOpenMode ⟨(Nat.le_of_ble_eq_true rfl), (Nat.le_of_ble_eq_true rfl)⟩ rfl rfl (Nat.le_of_ble_eq_true rfl) d_N_opening_44 ⟨Nat.zero_le _, Nat.zero_le _⟩ ?_
    refine ev_if_ne (pc := 47) (tgt := 53) d_N_opening_47 (by decide) (fun h1 => ?_) (fun h1 => ?_)
    rotate_left
    · rw [b2_0] at h1
      rw [hR0 (-7) (by rw [nh_open, if_pos h1]) (by decide)]
      refine ev_bipush (pc := 50) (v := -7) d_N_opening_50 (by decide) ?_
      exact ev_iret (pc := 52) d_N_opening_52 rfl (Nat.zero_le _) (Nat.zero_le _) ⟨rfl, rfl⟩
    rw [b2_0, Classical.not_not] at h1
    have hh1 : nh_open C f u k m = (if ¬ (C 213 k &&& 2048) = 0 ∧ ¬ m = 0 then -4 else if ¬ C 218 f = 0 ∧ ¬ m = 0 then -9 else it_P (nm_may C u k m) (it_P (¬ (C 213 k &&& 1024) = 0 ∧ nb_a C (C 218 f) (C 219 f)) (-10) 0) (-5)) := by
      rw [nh_open, if_neg (fun z => z h1)]
    -- the end, over a heap D
    have t297 : ∀ (D : Nat → Nat → Int32) (c4 c5 : Int32), D 204 26 = nI 0 → ev_At E K_N_opening 297 [some (.ref 204), some (.int (nI f)), some (.int m), some (.int (nI k)), some (.int c4), some (.int c5)] [] (hp_H D) 0 0 (mm_D (some (.int 0)) (nO_fin D f k m)) := by
      intro D c4 c5 hr0
      refine ev_aload_n (pc := 297) d_N_opening_297 rfl rfl (by first | rfl | exact mm_rk_rf _) ?_
      refine ev_gR (pc := 298) sh_N (by rfl) fl_N_63 d_N_opening_298 ?_
      refine ev_iload_n (pc := 301) d_N_opening_301 rfl rfl ?_
      refine ev_iload_n (pc := 302) d_N_opening_302 rfl rfl ?_
      refine ev_wIN (pc := 303) sh_N_openMode (by omega) (by decide) d_N_opening_303 ?_
      refine ev_aload_n (pc := 304) d_N_opening_304 rfl rfl (by first | rfl | exact mm_rk_rf _) ?_
      refine ev_gR (pc := 305) sh_N (by rfl) fl_N_66 d_N_opening_305 ?_
      refine ev_iload_n (pc := 308) d_N_opening_308 rfl rfl ?_
      refine ev_iconst (pc := 309) (v := 0) d_N_opening_309 rfl ?_
      refine ev_wIN (pc := 310) sh_N_ended (by omega) (by decide) d_N_opening_310 ?_
      refine ev_aload_n (pc := 311) d_N_opening_311 rfl rfl (by first | rfl | exact mm_rk_rf _) ?_
      refine ev_aload_n (pc := 312) d_N_opening_312 rfl rfl (by first | rfl | exact mm_rk_rf _) ?_
      refine ev_gR (pc := 313) sh_N (by rfl) fl_N_17 d_N_opening_313 ?_
      refine ev_iload_n (pc := 316) d_N_opening_316 rfl rfl ?_
      refine ev_rIN (pc := 317) sh_N_path (by omega) (by decide) d_N_opening_317 ?_
      refine ev_cVv (pc := 318) (ct_N_tell E _ (r := 0) (by rw [cs_ne _ _ (by omega), cs_ne _ _ (by omega)]; exact hr0) (by decide) _) cl_N_170 jv_N_tell ⟨(Nat.le_of_ble_eq_true rfl), (Nat.le_of_ble_eq_true rfl)⟩ rfl sh_N rfl (Nat.le_of_ble_eq_true rfl) d_N_opening_318 ⟨Nat.zero_le _, Nat.zero_le _⟩ ?_
      refine ev_aload_n (pc := 321) d_N_opening_321 rfl rfl (by first | rfl | exact mm_rk_rf _) ?_
      refine ev_aload_n (pc := 322) d_N_opening_322 rfl rfl (by first | rfl | exact mm_rk_rf _) ?_
      refine ev_gR (pc := 323) sh_N (by rfl) fl_N_32 d_N_opening_323 ?_
      refine ev_iload_n (pc := 326) d_N_opening_326 rfl rfl ?_
      refine ev_rIN (pc := 327) sh_N_version (by omega) (by decide) d_N_opening_327 ?_
      rw [nt_ne (by decide) (by decide)]
      refine ev_cVv (pc := 328) (ct_N_tell E _ (nt_k _ _ _) (by decide) _) cl_N_170 jv_N_tell ⟨(Nat.le_of_ble_eq_true rfl), (Nat.le_of_ble_eq_true rfl)⟩ rfl sh_N rfl (Nat.le_of_ble_eq_true rfl) d_N_opening_328 ⟨Nat.zero_le _, Nat.zero_le _⟩ ?_
      refine ev_iconst (pc := 331) (v := 0) d_N_opening_331 rfl ?_
      exact ev_iret (pc := 332) d_N_opening_332 rfl (Nat.zero_le _) (Nat.zero_le _) ⟨rfl, rfl⟩
    have t225 : nh_open C f u k m = 0 → ∀ c4 : Int32, (c4 = 0 ↔ (m &&& 16) = 0) → ev_At E K_N_opening 225 [some (.ref 204), some (.int (nI f)), some (.int m), some (.int (nI k)), some (.int c4), none] [] (hp_H C) 0 0 (mm_D (some (.int R.1)) R.2) := by
      intro h0 c4 hc4
      have eR1 : R = (if ¬ (m &&& 16) = 0 ∧ (C 213 k &&& 512) = 0 then (if nb_n C s + nn_n C s k ≤ 64 then (0, nO_fin (nO_cut C s k) f k m) else (-11, C)) else (0, nO_fin C f k m)) := by
        rw [eR, if_neg (fun z => z h0)]
      have no : ¬ (¬ (m &&& 16) = 0 ∧ (C 213 k &&& 512) = 0) → ev_At E K_N_opening 247 [some (.ref 204), some (.int (nI f)), some (.int m), some (.int (nI k)), some (.int c4), none] [] (hp_H C) 0 0 (mm_D (some (.int R.1)) R.2) := by
        intro hno
        rw [eR1, if_neg hno]
        refine ev_iconst (pc := 247) (v := 0) d_N_opening_247 rfl ?_
        refine ev_istore (pc := 248) d_N_opening_248 (Nat.le_of_ble_eq_true rfl) rfl ?_
        try dsimp only [List.set]
        refine ev_iload (pc := 250) d_N_opening_250 rfl ?_
        refine ev_if_eq (pc := 252) (tgt := 270) d_N_opening_252 (by decide) (fun hx => ?_) (fun hx => ?_)
        rotate_left
        · exact absurd rfl hx
        refine ev_iload (pc := 270) d_N_opening_270 rfl ?_
        refine ev_if_eq (pc := 272) (tgt := 297) d_N_opening_272 (by decide) (fun hx => ?_) (fun hx => ?_)
        rotate_left
        · exact absurd rfl hx
        exact t297 C c4 0 hr
      refine ev_iload (pc := 225) d_N_opening_225 rfl ?_
      refine ev_if_eq (pc := 227) (tgt := 247) d_N_opening_227 (by decide) (fun h5 => ?_) (fun h5 => ?_)
      · exact no (fun z => z.1 (hc4.mp h5))
      refine ev_aload_n (pc := 230) d_N_opening_230 rfl rfl (by first | rfl | exact mm_rk_rf _) ?_
      refine ev_gR (pc := 231) sh_N (by rfl) fl_N_35 d_N_opening_231 ?_
      refine ev_iload_n (pc := 234) d_N_opening_234 rfl rfl ?_
      refine ev_rIN (pc := 235) sh_N_mode (by omega) (by decide) d_N_opening_235 ?_
      refine ev_sipush (pc := 236) (v := 512) d_N_opening_236 (by decide) ?_
      refine ev_iand (pc := 239) d_N_opening_239 ?_
      refine ev_if_ne (pc := 240) (tgt := 247) d_N_opening_240 (by decide) (fun h6 => ?_) (fun h6 => ?_)
      · exact no (fun z => h6 z.2)
      have h56 : ¬ (m &&& 16) = 0 ∧ (C 213 k &&& 512) = 0 := ⟨fun z => h5 (hc4.mpr z), h6⟩
      rw [eR1, if_pos h56]
      refine ev_iconst (pc := 243) (v := 1) d_N_opening_243 rfl ?_
      refine ev_goto (pc := 244) (tgt := 248) d_N_opening_244 (by decide) ?_
      refine ev_istore (pc := 248) d_N_opening_248 (Nat.le_of_ble_eq_true rfl) rfl ?_
      try dsimp only [List.set]
      refine ev_iload (pc := 250) d_N_opening_250 rfl ?_
      refine ev_if_eq (pc := 252) (tgt := 270) d_N_opening_252 (by decide) (fun hx => ?_) (fun hx => ?_)
      · exact absurd hx (by decide)
      have hnn : nn_n C s k ≤ 21 := by
        have h1 := n1_le (no_P C s (C 215 k))
        have h2 := nn_le C s 20 k
        unfold nn_n
        omega
      refine ev_aload_n (pc := 255) d_N_opening_255 rfl rfl (by first | rfl | exact mm_rk_rf _) ?_
      refine ev_aload_n (pc := 256) d_N_opening_256 rfl rfl (by first | rfl | exact mm_rk_rf _) ?_
      refine ev_iload_n (pc := 257) d_N_opening_257 rfl rfl ?_
      refine ev_cV (pc := 258) (ct_N_needed E C hm hp es s4 v3) cl_N_196 jv_N_needed ⟨(Nat.le_of_ble_eq_true rfl), (Nat.le_of_ble_eq_true rfl)⟩ rfl sh_N rfl (Nat.le_of_ble_eq_true rfl) d_N_opening_258 ⟨Nat.zero_le _, Nat.zero_le _⟩ ?_
      refine ev_cV (pc := 261) (ct_N_fits E C hm es s4 (by omega)) cl_N_199 jv_N_fits ⟨(Nat.le_of_ble_eq_true rfl), (Nat.le_of_ble_eq_true rfl)⟩ rfl sh_N rfl (Nat.le_of_ble_eq_true rfl) d_N_opening_261 ⟨Nat.zero_le _, Nat.zero_le _⟩ ?_
      refine ev_if_ne (pc := 264) (tgt := 270) d_N_opening_264 (by decide) (fun h7 => ?_) (fun h7 => ?_)
      rotate_left
      · rw [b2_0] at h7
        rw [if_neg h7]
        refine ev_bipush (pc := 267) (v := -11) d_N_opening_267 (by decide) ?_
        exact ev_iret (pc := 269) d_N_opening_269 rfl (Nat.zero_le _) (Nat.zero_le _) ⟨rfl, rfl⟩
      rw [b2_0, Classical.not_not] at h7
      rw [if_pos h7]
      refine ev_iload (pc := 270) d_N_opening_270 rfl ?_
      refine ev_if_eq (pc := 272) (tgt := 297) d_N_opening_272 (by decide) (fun hx => ?_) (fun hx => ?_)
      · exact absurd hx (by decide)
      refine ev_aload_n (pc := 275) d_N_opening_275 rfl rfl (by first | rfl | exact mm_rk_rf _) ?_
      refine ev_iload_n (pc := 276) d_N_opening_276 rfl rfl ?_
      refine ev_cVv (pc := 277) (ct_N_change E C hm hp es s4 v3) cl_N_202 jv_N_change ⟨(Nat.le_of_ble_eq_true rfl), (Nat.le_of_ble_eq_true rfl)⟩ rfl sh_N rfl (Nat.le_of_ble_eq_true rfl) d_N_opening_277 ⟨Nat.zero_le _, Nat.zero_le _⟩ ?_
      refine ev_aload_n (pc := 280) d_N_opening_280 rfl rfl (by first | rfl | exact mm_rk_rf _) ?_
      refine ev_gR (pc := 281) sh_N (by rfl) fl_N_38 d_N_opening_281 ?_
      refine ev_iload_n (pc := 284) d_N_opening_284 rfl rfl ?_
      refine ev_iconst (pc := 285) (v := 0) d_N_opening_285 rfl ?_
      refine ev_wIN (pc := 286) sh_N_length (by omega) (by decide) d_N_opening_286 ?_
      refine ev_aload_n (pc := 287) d_N_opening_287 rfl rfl (by first | rfl | exact mm_rk_rf _) ?_
      refine ev_gR (pc := 288) sh_N (by rfl) fl_N_32 d_N_opening_288 ?_
      refine ev_iload_n (pc := 291) d_N_opening_291 rfl rfl ?_
      refine ev_dup2 (pc := 292) d_N_opening_292 (by rfl) (by rfl) ?_
      refine ev_rIN (pc := 293) sh_N_version (by omega) (by decide) d_N_opening_293 ?_
      rw [cs_ne _ _ (by omega), nx_Cc C s k (by decide) (by decide)]
      refine ev_iconst (pc := 294) (v := 1) d_N_opening_294 rfl ?_
      refine ev_iadd (pc := 295) d_N_opening_295 ?_
      refine ev_wIN (pc := 296) sh_N_version (by omega) (by decide) d_N_opening_296 ?_
      exact t297 (nO_cut C s k) c4 1 (by unfold nO_cut; rw [cs_ne _ _ (by omega), cs_ne _ _ (by omega), nx_C4 C s k (by decide)]; exact hr)
    have t190 : nm_may C u k m → nh_open C f u k m = it_P (nm_may C u k m) (it_P (¬ (C 213 k &&& 1024) = 0 ∧ nb_a C (C 218 f) (C 219 f)) (-10) 0) (-5) → ∀ c4 : Int32, (c4 = 0 ↔ (m &&& 16) = 0) → ev_At E K_N_opening 190 [some (.ref 204), some (.int (nI f)), some (.int m), some (.int (nI k)), some (.int c4), none] [] (hp_H C) 0 0 (mm_D (some (.int R.1)) R.2) := by
      intro hy hh c4 hc4
      rw [it_t hy] at hh
      refine ev_aload_n (pc := 190) d_N_opening_190 rfl rfl (by first | rfl | exact mm_rk_rf _) ?_
      refine ev_gR (pc := 191) sh_N (by rfl) fl_N_35 d_N_opening_191 ?_
      refine ev_iload_n (pc := 194) d_N_opening_194 rfl rfl ?_
      refine ev_rIN (pc := 195) sh_N_mode (by omega) (by decide) d_N_opening_195 ?_
      refine ev_sipush (pc := 196) (v := 1024) d_N_opening_196 (by decide) ?_
      refine ev_iand (pc := 199) d_N_opening_199 ?_
      refine ev_if_eq (pc := 200) (tgt := 225) d_N_opening_200 (by decide) (fun h8 => ?_) (fun h8 => ?_)
      · exact t225 (by rw [hh, it_f (fun z => z.1 h8)]) c4 hc4
      refine ev_aload_n (pc := 203) d_N_opening_203 rfl rfl (by first | rfl | exact mm_rk_rf _) ?_
      refine ev_aload_n (pc := 204) d_N_opening_204 rfl rfl (by first | rfl | exact mm_rk_rf _) ?_
      refine ev_gR (pc := 205) sh_N (by rfl) fl_N_57 d_N_opening_205 ?_
      refine ev_iload_n (pc := 208) d_N_opening_208 rfl rfl ?_
      refine ev_rIN (pc := 209) sh_N_tree (by omega) (by decide) d_N_opening_209 ?_
      refine ev_aload_n (pc := 210) d_N_opening_210 rfl rfl (by first | rfl | exact mm_rk_rf _) ?_
      refine ev_gR (pc := 211) sh_N (by rfl) fl_N_60 d_N_opening_211 ?_
      refine ev_iload_n (pc := 214) d_N_opening_214 rfl rfl ?_
      refine ev_rIN (pc := 215) sh_N_at (by omega) (by decide) d_N_opening_215 ?_
      refine ev_cV (pc := 216) (ct_N_isBusy E C _ _) cl_N_193 jv_N_isBusy ⟨(Nat.le_of_ble_eq_true rfl), (Nat.le_of_ble_eq_true rfl)⟩ rfl sh_N rfl (Nat.le_of_ble_eq_true rfl) d_N_opening_216 ⟨Nat.zero_le _, Nat.zero_le _⟩ ?_
      refine ev_if_eq (pc := 219) (tgt := 225) d_N_opening_219 (by decide) (fun h9 => ?_) (fun h9 => ?_)
      · rw [b3_0] at h9
        exact t225 (by rw [hh, it_f (fun z => h9 z.2)]) c4 hc4
      rw [b3_0, Classical.not_not] at h9
      rw [hR0 (-10) (by rw [hh, it_t ⟨h8, h9⟩]) (by decide)]
      refine ev_bipush (pc := 222) (v := -10) d_N_opening_222 (by decide) ?_
      exact ev_iret (pc := 224) d_N_opening_224 rfl (Nat.zero_le _) (Nat.zero_le _) ⟨rfl, rfl⟩
    have bad : ¬ nm_may C u k m → nh_open C f u k m = it_P (nm_may C u k m) (it_P (¬ (C 213 k &&& 1024) = 0 ∧ nb_a C (C 218 f) (C 219 f)) (-10) 0) (-5) → R = (-5, C) := by
      intro hy hh
      rw [it_f hy] at hh
      exact hR0 (-5) hh (by decide)
    have t152 : ((m &&& 3) = 1 ∨ nY C u k 4) → (((m &&& 3) ≤ 0 ∧ (m &&& 16) = 0) ∨ nY C u k 2) → nh_open C f u k m = it_P (nm_may C u k m) (it_P (¬ (C 213 k &&& 1024) = 0 ∧ nb_a C (C 218 f) (C 219 f)) (-10) 0) (-5) → ∀ c4 : Int32, (c4 = 0 ↔ (m &&& 16) = 0) → ev_At E K_N_opening 152 [some (.ref 204), some (.int (nI f)), some (.int m), some (.int (nI k)), some (.int c4), none] [] (hp_H C) 0 0 (mm_D (some (.int R.1)) R.2) := by
      intro g1 g2 hh c4 hc4
      refine ev_iload_n (pc := 152) d_N_opening_152 rfl rfl ?_
      refine ev_bipush (pc := 153) (v := 64) d_N_opening_153 (by decide) ?_
      refine ev_iand (pc := 155) d_N_opening_155 ?_
      refine ev_if_eq (pc := 156) (tgt := 190) d_N_opening_156 (by decide) (fun h8 => ?_) (fun h8 => ?_)
      · exact t190 ⟨g1, g2, Or.inl h8⟩ hh c4 hc4
      refine ev_aload_n (pc := 159) d_N_opening_159 rfl rfl (by first | rfl | exact mm_rk_rf _) ?_
      refine ev_gR (pc := 160) sh_N (by rfl) fl_N_20 d_N_opening_160 ?_
      refine ev_iload_n (pc := 163) d_N_opening_163 rfl rfl ?_
      refine ev_rIN (pc := 164) sh_N_above (by omega) (by decide) d_N_opening_164 ?_
      refine ev_if_lt (pc := 165) (tgt := 187) d_N_opening_165 (by decide) (fun h9 => ?_) (fun h9 => ?_)
      · rw [bad (fun z => z.2.2.elim h8 (fun y => y.1 h9)) hh]
        refine ev_bipush (pc := 187) (v := -5) d_N_opening_187 (by decide) ?_
        exact ev_iret (pc := 189) d_N_opening_189 rfl (Nat.zero_le _) (Nat.zero_le _) ⟨rfl, rfl⟩
      obtain ⟨p1, p2, p3, p4⟩ := pa_np hm hp v3 h9
      have p5 := p2.1
      refine ev_aload_n (pc := 168) d_N_opening_168 rfl rfl (by first | rfl | exact mm_rk_rf _) ?_
      refine ev_aload_n (pc := 169) d_N_opening_169 rfl rfl (by first | rfl | exact mm_rk_rf _) ?_
      refine ev_gR (pc := 170) sh_N (by rfl) fl_N_54 d_N_opening_170 ?_
      refine ev_iload_n (pc := 173) d_N_opening_173 rfl rfl ?_
      refine ev_rIN (pc := 174) sh_N_user (by omega) (by decide) d_N_opening_174 ?_
      rw [eu1]
      refine ev_aload_n (pc := 175) d_N_opening_175 rfl rfl (by first | rfl | exact mm_rk_rf _) ?_
      refine ev_iload_n (pc := 176) d_N_opening_176 rfl rfl ?_
      refine ev_cV (pc := 177) (ct_N_parent E C hm v1) cl_N_154 jv_N_parent ⟨(Nat.le_of_ble_eq_true rfl), (Nat.le_of_ble_eq_true rfl)⟩ rfl sh_N rfl (Nat.le_of_ble_eq_true rfl) d_N_opening_177 ⟨Nat.zero_le _, Nat.zero_le _⟩ ?_
      rw [p1, show oI (some (np C k)) = nI (np C k) from rfl]
      refine ev_iconst (pc := 180) (v := 2) d_N_opening_180 rfl ?_
      refine ev_cV (pc := 181) (ct_N_has E C hg hu4 p5 2) cl_N_177 jv_N_has ⟨(Nat.le_of_ble_eq_true rfl), (Nat.le_of_ble_eq_true rfl)⟩ rfl sh_N rfl (Nat.le_of_ble_eq_true rfl) d_N_opening_181 ⟨Nat.zero_le _, Nat.zero_le _⟩ ?_
      refine ev_if_ne (pc := 184) (tgt := 190) d_N_opening_184 (by decide) (fun h10 => ?_) (fun h10 => ?_)
      · rw [b2_0, Classical.not_not] at h10
        exact t190 ⟨g1, g2, Or.inr ⟨h9, h10⟩⟩ hh c4 hc4
      · rw [b2_0] at h10
        rw [bad (fun z => z.2.2.elim h8 (fun y => h10 y.2)) hh]
        refine ev_bipush (pc := 187) (v := -5) d_N_opening_187 (by decide) ?_
        exact ev_iret (pc := 189) d_N_opening_189 rfl (Nat.zero_le _) (Nat.zero_le _) ⟨rfl, rfl⟩
    have t121 : ((m &&& 3) = 1 ∨ nY C u k 4) → nh_open C f u k m = it_P (nm_may C u k m) (it_P (¬ (C 213 k &&& 1024) = 0 ∧ nb_a C (C 218 f) (C 219 f)) (-10) 0) (-5) → ∀ c4 : Int32, (c4 = 0 ↔ (m &&& 16) = 0) → ev_At E K_N_opening 121 [some (.ref 204), some (.int (nI f)), some (.int m), some (.int (nI k)), some (.int c4), none] [] (hp_H C) 0 0 (mm_D (some (.int R.1)) R.2) := by
      intro g1 hh c4 hc4
      have t134 : ¬ ((m &&& 3) ≤ 0 ∧ (m &&& 16) = 0) → ev_At E K_N_opening 134 [some (.ref 204), some (.int (nI f)), some (.int m), some (.int (nI k)), some (.int c4), none] [] (hp_H C) 0 0 (mm_D (some (.int R.1)) R.2) := by
        intro hno
        refine ev_aload_n (pc := 134) d_N_opening_134 rfl rfl (by first | rfl | exact mm_rk_rf _) ?_
        refine ev_aload_n (pc := 135) d_N_opening_135 rfl rfl (by first | rfl | exact mm_rk_rf _) ?_
        refine ev_gR (pc := 136) sh_N (by rfl) fl_N_54 d_N_opening_136 ?_
        refine ev_iload_n (pc := 139) d_N_opening_139 rfl rfl ?_
        refine ev_rIN (pc := 140) sh_N_user (by omega) (by decide) d_N_opening_140 ?_
        rw [eu1]
        refine ev_iload_n (pc := 141) d_N_opening_141 rfl rfl ?_
        refine ev_iconst (pc := 142) (v := 2) d_N_opening_142 rfl ?_
        refine ev_cV (pc := 143) (ct_N_has E C hg hu4 v1 2) cl_N_177 jv_N_has ⟨(Nat.le_of_ble_eq_true rfl), (Nat.le_of_ble_eq_true rfl)⟩ rfl sh_N rfl (Nat.le_of_ble_eq_true rfl) d_N_opening_143 ⟨Nat.zero_le _, Nat.zero_le _⟩ ?_
        refine ev_if_ne (pc := 146) (tgt := 152) d_N_opening_146 (by decide) (fun h10 => ?_) (fun h10 => ?_)
        · rw [b2_0, Classical.not_not] at h10
          exact t152 g1 (Or.inr h10) hh c4 hc4
        · rw [b2_0] at h10
          rw [bad (fun z => z.2.1.elim hno h10) hh]
          refine ev_bipush (pc := 149) (v := -5) d_N_opening_149 (by decide) ?_
          exact ev_iret (pc := 151) d_N_opening_151 rfl (Nat.zero_le _) (Nat.zero_le _) ⟨rfl, rfl⟩
      refine ev_aload_n (pc := 121) d_N_opening_121 rfl rfl (by first | rfl | exact mm_rk_rf _) ?_
      refine ev_iload_n (pc := 122) d_N_opening_122 rfl rfl ?_
      refine ev_cV (pc := 123) (ct_N_writes E C m) cl_N_190 jv_N_writes ⟨(Nat.le_of_ble_eq_true rfl), (Nat.le_of_ble_eq_true rfl)⟩ rfl sh_N rfl (Nat.le_of_ble_eq_true rfl) d_N_opening_123 ⟨Nat.zero_le _, Nat.zero_le _⟩ ?_
      refine ev_if_ne (pc := 126) (tgt := 134) d_N_opening_126 (by decide) (fun h8 => ?_) (fun h8 => ?_)
      · rw [b2_0, Classical.not_not] at h8
        exact t134 (fun z => h8 z.1)
      rw [b2_0, Classical.not_not] at h8
      refine ev_iload (pc := 129) d_N_opening_129 rfl ?_
      refine ev_if_eq (pc := 131) (tgt := 152) d_N_opening_131 (by decide) (fun h9 => ?_) (fun h9 => ?_)
      · exact t152 g1 (Or.inl ⟨h8, hc4.mp h9⟩) hh c4 hc4
      · exact t134 (fun z => h9 (hc4.mpr z.2))
    have t84 : nh_open C f u k m = it_P (nm_may C u k m) (it_P (¬ (C 213 k &&& 1024) = 0 ∧ nb_a C (C 218 f) (C 219 f)) (-10) 0) (-5) → ev_At E K_N_opening 84 [some (.ref 204), some (.int (nI f)), some (.int m), some (.int (nI k)), none, none] [] (hp_H C) 0 0 (mm_D (some (.int R.1)) R.2) := by
      intro hh
      have t96 : ∀ c4 : Int32, (c4 = 0 ↔ (m &&& 16) = 0) → ev_At E K_N_opening 96 [some (.ref 204), some (.int (nI f)), some (.int m), some (.int (nI k)), none, none] [.int c4] (hp_H C) 0 0 (mm_D (some (.int R.1)) R.2) := by
        intro c4 hc4
        refine ev_istore (pc := 96) d_N_opening_96 (Nat.le_of_ble_eq_true rfl) rfl ?_
        try dsimp only [List.set]
        refine ev_aload_n (pc := 98) d_N_opening_98 rfl rfl (by first | rfl | exact mm_rk_rf _) ?_
        refine ev_iload_n (pc := 99) d_N_opening_99 rfl rfl ?_
        refine ev_cV (pc := 100) (ct_N_reads E C m) cl_N_187 jv_N_reads ⟨(Nat.le_of_ble_eq_true rfl), (Nat.le_of_ble_eq_true rfl)⟩ rfl sh_N rfl (Nat.le_of_ble_eq_true rfl) d_N_opening_100 ⟨Nat.zero_le _, Nat.zero_le _⟩ ?_
        refine ev_if_eq (pc := 103) (tgt := 121) d_N_opening_103 (by decide) (fun h8 => ?_) (fun h8 => ?_)
        · rw [b2_0, Classical.not_not] at h8
          exact t121 (Or.inl h8) hh c4 hc4
        rw [b2_0, Classical.not_not] at h8
        refine ev_aload_n (pc := 106) d_N_opening_106 rfl rfl (by first | rfl | exact mm_rk_rf _) ?_
        refine ev_aload_n (pc := 107) d_N_opening_107 rfl rfl (by first | rfl | exact mm_rk_rf _) ?_
        refine ev_gR (pc := 108) sh_N (by rfl) fl_N_54 d_N_opening_108 ?_
        refine ev_iload_n (pc := 111) d_N_opening_111 rfl rfl ?_
        refine ev_rIN (pc := 112) sh_N_user (by omega) (by decide) d_N_opening_112 ?_
        rw [eu1]
        refine ev_iload_n (pc := 113) d_N_opening_113 rfl rfl ?_
        refine ev_iconst (pc := 114) (v := 4) d_N_opening_114 rfl ?_
        refine ev_cV (pc := 115) (ct_N_has E C hg hu4 v1 4) cl_N_177 jv_N_has ⟨(Nat.le_of_ble_eq_true rfl), (Nat.le_of_ble_eq_true rfl)⟩ rfl sh_N rfl (Nat.le_of_ble_eq_true rfl) d_N_opening_115 ⟨Nat.zero_le _, Nat.zero_le _⟩ ?_
        refine ev_if_eq (pc := 118) (tgt := 149) d_N_opening_118 (by decide) (fun h10 => ?_) (fun h10 => ?_)
        · rw [b2_0] at h10
          rw [bad (fun z => z.1.elim h8 h10) hh]
          refine ev_bipush (pc := 149) (v := -5) d_N_opening_149 (by decide) ?_
          exact ev_iret (pc := 151) d_N_opening_151 rfl (Nat.zero_le _) (Nat.zero_le _) ⟨rfl, rfl⟩
        · rw [b2_0, Classical.not_not] at h10
          exact t121 (Or.inr h10) hh c4 hc4
      refine ev_iload_n (pc := 84) d_N_opening_84 rfl rfl ?_
      refine ev_bipush (pc := 85) (v := 16) d_N_opening_85 (by decide) ?_
      refine ev_iand (pc := 87) d_N_opening_87 ?_
      refine ev_if_eq (pc := 88) (tgt := 95) d_N_opening_88 (by decide) (fun h8 => ?_) (fun h8 => ?_)
      · refine ev_iconst (pc := 95) (v := 0) d_N_opening_95 rfl ?_
        exact t96 0 ⟨fun _ => h8, fun _ => rfl⟩
      · refine ev_iconst (pc := 91) (v := 1) d_N_opening_91 rfl ?_
        refine ev_goto (pc := 92) (tgt := 96) d_N_opening_92 (by decide) ?_
        exact t96 1 ⟨fun z => absurd z (by decide), fun z => absurd z h8⟩
    have t68 : ¬ (¬ (C 213 k &&& 2048) = 0 ∧ ¬ m = 0) → ev_At E K_N_opening 68 [some (.ref 204), some (.int (nI f)), some (.int m), some (.int (nI k)), none, none] [] (hp_H C) 0 0 (mm_D (some (.int R.1)) R.2) := by
      intro hno
      rw [if_neg hno] at hh1
      refine ev_aload_n (pc := 68) d_N_opening_68 rfl rfl (by first | rfl | exact mm_rk_rf _) ?_
      refine ev_gR (pc := 69) sh_N (by rfl) fl_N_57 d_N_opening_69 ?_
      refine ev_iload_n (pc := 72) d_N_opening_72 rfl rfl ?_
      refine ev_rIN (pc := 73) sh_N_tree (by omega) (by decide) d_N_opening_73 ?_
      refine ev_if_eq (pc := 74) (tgt := 84) d_N_opening_74 (by decide) (fun h8 => ?_) (fun h8 => ?_)
      · exact t84 (by rw [hh1, if_neg (fun z => z.1 h8)])
      refine ev_iload_n (pc := 77) d_N_opening_77 rfl rfl ?_
      refine ev_if_eq (pc := 78) (tgt := 84) d_N_opening_78 (by decide) (fun h9 => ?_) (fun h9 => ?_)
      · exact t84 (by rw [hh1, if_neg (fun z => z.2 h9)])
      rw [hR0 (-9) (by rw [hh1, if_pos ⟨h8, h9⟩]) (by decide)]
      refine ev_bipush (pc := 81) (v := -9) d_N_opening_81 (by decide) ?_
      exact ev_iret (pc := 83) d_N_opening_83 rfl (Nat.zero_le _) (Nat.zero_le _) ⟨rfl, rfl⟩
    refine ev_aload_n (pc := 53) d_N_opening_53 rfl rfl (by first | rfl | exact mm_rk_rf _) ?_
    refine ev_iload_n (pc := 54) d_N_opening_54 rfl rfl ?_
    refine ev_cV (pc := 55) (ct_N_isDirectory E C v1) cl_N_174 jv_N_isDirectory ⟨(Nat.le_of_ble_eq_true rfl), (Nat.le_of_ble_eq_true rfl)⟩ rfl sh_N rfl (Nat.le_of_ble_eq_true rfl) d_N_opening_55 ⟨Nat.zero_le _, Nat.zero_le _⟩ ?_
    refine ev_if_eq (pc := 58) (tgt := 68) d_N_opening_58 (by decide) (fun h2 => ?_) (fun h2 => ?_)
    · rw [b2_0, Classical.not_not] at h2
      exact t68 (fun z => z.1 h2)
    rw [b2_0, Classical.not_not] at h2
    refine ev_iload_n (pc := 61) d_N_opening_61 rfl rfl ?_
    refine ev_if_eq (pc := 62) (tgt := 68) d_N_opening_62 (by decide) (fun h3 => ?_) (fun h3 => ?_)
    · exact t68 (fun z => z.2 h3)
    rw [hR0 (-4) (by rw [hh1, if_pos ⟨h2, h3⟩]) (by decide)]
    refine ev_bipush (pc := 65) (v := -4) d_N_opening_65 (by decide) ?_
    exact ev_iret (pc := 67) d_N_opening_67 rfl (Nat.zero_le _) (Nat.zero_le _) ⟨rfl, rfl⟩
