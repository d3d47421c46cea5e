/-! The reference: walking. -/
def nh_step (C : Nat → Nat → Int32) (u h : Nat) (o : Option Nat) : Int32 := if (C 213 h &&& 2048) = 0 then -4 else if nY C u h 1 then (if o = none then -3 else 0) else -5
def nG_n (C : Nat → Nat → Int32) (h : Nat) (x : Int32) : Option Nat := if x = 0 then np_i C h else nh_i C h x
def nG_t (C : Nat → Nat → Int32) (f g : Nat) (p : Int32) : Nat → Nat → Int32 := cs_C (cs_C (cs_C (cs_C C 217 g (C 217 f)) 218 g (C 218 f)) 219 g p) 220 g (-1)
def nG_f (C : Nat → Nat → Int32) (f g u gv : Nat) : Nat → Nat → Nat → Int32 × (Nat → Nat → Int32)
  | 0, _, h => (nI (gv - 1), nt_m (nG_t C f g (C 207 h)) h 0)
  | d + 1, i, h => if ¬ nh_step C u h (nG_n C h (C 228 i)) = 0 then (if i = 1 then (nh_step C u h (nG_n C h (C 228 i)), C) else (nI (i - 1), nt_m C h 0)) else nG_f C f g u gv d (i + 1) ((nG_n C h (C 228 i)).getD h)
def nG_R (C : Nat → Nat → Int32) (f t g gv : Nat) : Int32 × (Nat → Nat → Int32) := if C 217 f < 0 then (-1, C) else if ¬ C 220 f < 0 then (-8, C) else if ¬ g = f ∧ ¬ C 217 g < 0 then (-2, C) else (match nc_i C t (C 219 f) with
  | none => (-13, C)
  | some k => nG_f C f g (nus C f) gv (gv - 1) 1 k)
theorem nh_v {C : Nat → Nat → Int32} (hm : nm_ok C) {k : Nat} (hk : k < 120) {x : Int32} {j : Nat} (h : nh_i C k x = some j) : nv C j ∧ j / 20 = k / 20 ∧ ¬ j % 20 = 0 ∧ C 208 j = C 207 k ∧ C 209 j = x := by
  obtain ⟨h1, h2, h3⟩ := fx_f_some _ _ _ _ h
  have h4 := (hm (k / 20) (by omega)).1
  have h5 : j / 20 = k / 20 := by omega
  have h6 : C 208 j = C 207 k ∧ C 209 j = x := by simpa using h3
  refine ⟨⟨by omega, ?_⟩, h5, by omega, h6⟩
  rw [h5]
  omega
theorem d_N_walk_0 : decode b_N_walk 0 = .ok (.iload_n 1, 1) := by decide +kernel
theorem d_N_walk_1 : decode b_N_walk 1 = .ok (.bipush 6, 2) := by decide +kernel
theorem d_N_walk_3 : decode b_N_walk 3 = .ok (.idiv, 1) := by decide +kernel
theorem d_N_walk_4 : decode b_N_walk 4 = .ok (.bipush 6, 2) := by decide +kernel
theorem d_N_walk_6 : decode b_N_walk 6 = .ok (.imul, 1) := by decide +kernel
theorem d_N_walk_7 : decode b_N_walk 7 = .ok (.aload_n 0, 1) := by decide +kernel
theorem d_N_walk_8 : decode b_N_walk 8 = .ok (.getfield 87, 3) := by decide +kernel
theorem d_N_walk_11 : decode b_N_walk 11 = .ok (.iconst 0, 1) := by decide +kernel
theorem d_N_walk_12 : decode b_N_walk 12 = .ok (.iaload, 1) := by decide +kernel
theorem d_N_walk_13 : decode b_N_walk 13 = .ok (.iadd, 1) := by decide +kernel
theorem d_N_walk_14 : decode b_N_walk 14 = .ok (.istore_n 2, 1) := by decide +kernel
theorem d_N_walk_15 : decode b_N_walk 15 = .ok (.aload_n 0, 1) := by decide +kernel
theorem d_N_walk_16 : decode b_N_walk 16 = .ok (.getfield 87, 3) := by decide +kernel
theorem d_N_walk_19 : decode b_N_walk 19 = .ok (.iconst 0, 1) := by decide +kernel
theorem d_N_walk_20 : decode b_N_walk 20 = .ok (.iaload, 1) := by decide +kernel
theorem d_N_walk_21 : decode b_N_walk 21 = .ok (.ifCond .lt 13, 3) := by decide +kernel
theorem d_N_walk_24 : decode b_N_walk 24 = .ok (.aload_n 0, 1) := by decide +kernel
theorem d_N_walk_25 : decode b_N_walk 25 = .ok (.getfield 87, 3) := by decide +kernel
theorem d_N_walk_28 : decode b_N_walk 28 = .ok (.iconst 0, 1) := by decide +kernel
theorem d_N_walk_29 : decode b_N_walk 29 = .ok (.iaload, 1) := by decide +kernel
theorem d_N_walk_30 : decode b_N_walk 30 = .ok (.iconst 5, 1) := by decide +kernel
theorem d_N_walk_31 : decode b_N_walk 31 = .ok (.if_icmp .le 6, 3) := by decide +kernel
theorem d_N_walk_34 : decode b_N_walk 34 = .ok (.bipush (-7), 2) := by decide +kernel
theorem d_N_walk_36 : decode b_N_walk 36 = .ok (.ireturn, 1) := by decide +kernel
theorem d_N_walk_37 : decode b_N_walk 37 = .ok (.aload_n 0, 1) := by decide +kernel
theorem d_N_walk_38 : decode b_N_walk 38 = .ok (.getfield 54, 3) := by decide +kernel
theorem d_N_walk_41 : decode b_N_walk 41 = .ok (.iload_n 1, 1) := by decide +kernel
theorem d_N_walk_42 : decode b_N_walk 42 = .ok (.iaload, 1) := by decide +kernel
theorem d_N_walk_43 : decode b_N_walk 43 = .ok (.ifCond .ge 5, 3) := by decide +kernel
theorem d_N_walk_46 : decode b_N_walk 46 = .ok (.iconst (-1), 1) := by decide +kernel
theorem d_N_walk_47 : decode b_N_walk 47 = .ok (.ireturn, 1) := by decide +kernel
theorem d_N_walk_48 : decode b_N_walk 48 = .ok (.aload_n 0, 1) := by decide +kernel
theorem d_N_walk_49 : decode b_N_walk 49 = .ok (.getfield 63, 3) := by decide +kernel
theorem d_N_walk_52 : decode b_N_walk 52 = .ok (.iload_n 1, 1) := by decide +kernel
theorem d_N_walk_53 : decode b_N_walk 53 = .ok (.iaload, 1) := by decide +kernel
theorem d_N_walk_54 : decode b_N_walk 54 = .ok (.ifCond .lt 6, 3) := by decide +kernel
theorem d_N_walk_57 : decode b_N_walk 57 = .ok (.bipush (-8), 2) := by decide +kernel
theorem d_N_walk_59 : decode b_N_walk 59 = .ok (.ireturn, 1) := by decide +kernel
theorem d_N_walk_60 : decode b_N_walk 60 = .ok (.iload_n 2, 1) := by decide +kernel
theorem d_N_walk_61 : decode b_N_walk 61 = .ok (.iload_n 1, 1) := by decide +kernel
theorem d_N_walk_62 : decode b_N_walk 62 = .ok (.if_icmp .eq 15, 3) := by decide +kernel
theorem d_N_walk_65 : decode b_N_walk 65 = .ok (.aload_n 0, 1) := by decide +kernel
theorem d_N_walk_66 : decode b_N_walk 66 = .ok (.getfield 54, 3) := by decide +kernel
theorem d_N_walk_69 : decode b_N_walk 69 = .ok (.iload_n 2, 1) := by decide +kernel
theorem d_N_walk_70 : decode b_N_walk 70 = .ok (.iaload, 1) := by decide +kernel
theorem d_N_walk_71 : decode b_N_walk 71 = .ok (.ifCond .lt 6, 3) := by decide +kernel
theorem d_N_walk_74 : decode b_N_walk 74 = .ok (.bipush (-2), 2) := by decide +kernel
theorem d_N_walk_76 : decode b_N_walk 76 = .ok (.ireturn, 1) := by decide +kernel
theorem d_N_walk_77 : decode b_N_walk 77 = .ok (.aload_n 0, 1) := by decide +kernel
theorem d_N_walk_78 : decode b_N_walk 78 = .ok (.iload_n 1, 1) := by decide +kernel
theorem d_N_walk_79 : decode b_N_walk 79 = .ok (.invokevirtual 167, 3) := by decide +kernel
theorem d_N_walk_82 : decode b_N_walk 82 = .ok (.istore_n 3, 1) := by decide +kernel
theorem d_N_walk_83 : decode b_N_walk 83 = .ok (.iload_n 3, 1) := by decide +kernel
theorem d_N_walk_84 : decode b_N_walk 84 = .ok (.ifCond .ge 6, 3) := by decide +kernel
theorem d_N_walk_87 : decode b_N_walk 87 = .ok (.bipush (-13), 2) := by decide +kernel
theorem d_N_walk_89 : decode b_N_walk 89 = .ok (.ireturn, 1) := by decide +kernel
theorem d_N_walk_90 : decode b_N_walk 90 = .ok (.iconst 0, 1) := by decide +kernel
theorem d_N_walk_91 : decode b_N_walk 91 = .ok (.istore 4, 2) := by decide +kernel
theorem d_N_walk_93 : decode b_N_walk 93 = .ok (.iconst 0, 1) := by decide +kernel
theorem d_N_walk_94 : decode b_N_walk 94 = .ok (.istore 5, 2) := by decide +kernel
theorem d_N_walk_96 : decode b_N_walk 96 = .ok (.iconst 1, 1) := by decide +kernel
theorem d_N_walk_97 : decode b_N_walk 97 = .ok (.istore 6, 2) := by decide +kernel
theorem d_N_walk_99 : decode b_N_walk 99 = .ok (.iload 6, 2) := by decide +kernel
theorem d_N_walk_101 : decode b_N_walk 101 = .ok (.aload_n 0, 1) := by decide +kernel
theorem d_N_walk_102 : decode b_N_walk 102 = .ok (.getfield 107, 3) := by decide +kernel
theorem d_N_walk_105 : decode b_N_walk 105 = .ok (.if_icmp .ge 111, 3) := by decide +kernel
theorem d_N_walk_108 : decode b_N_walk 108 = .ok (.iload 5, 2) := by decide +kernel
theorem d_N_walk_110 : decode b_N_walk 110 = .ok (.ifCond .ne 106, 3) := by decide +kernel
theorem d_N_walk_113 : decode b_N_walk 113 = .ok (.iconst (-1), 1) := by decide +kernel
theorem d_N_walk_114 : decode b_N_walk 114 = .ok (.istore 7, 2) := by decide +kernel
theorem d_N_walk_116 : decode b_N_walk 116 = .ok (.aload_n 0, 1) := by decide +kernel
theorem d_N_walk_117 : decode b_N_walk 117 = .ok (.iload_n 3, 1) := by decide +kernel
theorem d_N_walk_118 : decode b_N_walk 118 = .ok (.invokevirtual 174, 3) := by decide +kernel
theorem d_N_walk_121 : decode b_N_walk 121 = .ok (.ifCond .ne 10, 3) := by decide +kernel
theorem d_N_walk_124 : decode b_N_walk 124 = .ok (.bipush (-4), 2) := by decide +kernel
theorem d_N_walk_126 : decode b_N_walk 126 = .ok (.istore 5, 2) := by decide +kernel
theorem d_N_walk_128 : decode b_N_walk 128 = .ok (.goto 57, 3) := by decide +kernel
theorem d_N_walk_131 : decode b_N_walk 131 = .ok (.aload_n 0, 1) := by decide +kernel
theorem d_N_walk_132 : decode b_N_walk 132 = .ok (.aload_n 0, 1) := by decide +kernel
theorem d_N_walk_133 : decode b_N_walk 133 = .ok (.getfield 54, 3) := by decide +kernel
theorem d_N_walk_136 : decode b_N_walk 136 = .ok (.iload_n 1, 1) := by decide +kernel
theorem d_N_walk_137 : decode b_N_walk 137 = .ok (.iaload, 1) := by decide +kernel
theorem d_N_walk_138 : decode b_N_walk 138 = .ok (.iload_n 3, 1) := by decide +kernel
theorem d_N_walk_139 : decode b_N_walk 139 = .ok (.iconst 1, 1) := by decide +kernel
theorem d_N_walk_140 : decode b_N_walk 140 = .ok (.invokevirtual 177, 3) := by decide +kernel
theorem d_N_walk_143 : decode b_N_walk 143 = .ok (.ifCond .ne 10, 3) := by decide +kernel
theorem d_N_walk_146 : decode b_N_walk 146 = .ok (.bipush (-5), 2) := by decide +kernel
theorem d_N_walk_148 : decode b_N_walk 148 = .ok (.istore 5, 2) := by decide +kernel
theorem d_N_walk_150 : decode b_N_walk 150 = .ok (.goto 35, 3) := by decide +kernel
theorem d_N_walk_153 : decode b_N_walk 153 = .ok (.aload_n 0, 1) := by decide +kernel
theorem d_N_walk_154 : decode b_N_walk 154 = .ok (.getfield 87, 3) := by decide +kernel
theorem d_N_walk_157 : decode b_N_walk 157 = .ok (.iload 6, 2) := by decide +kernel
theorem d_N_walk_159 : decode b_N_walk 159 = .ok (.iaload, 1) := by decide +kernel
theorem d_N_walk_160 : decode b_N_walk 160 = .ok (.ifCond .ne 11, 3) := by decide +kernel
theorem d_N_walk_163 : decode b_N_walk 163 = .ok (.aload_n 0, 1) := by decide +kernel
theorem d_N_walk_164 : decode b_N_walk 164 = .ok (.iload_n 3, 1) := by decide +kernel
theorem d_N_walk_165 : decode b_N_walk 165 = .ok (.invokevirtual 154, 3) := by decide +kernel
theorem d_N_walk_168 : decode b_N_walk 168 = .ok (.goto 15, 3) := by decide +kernel
theorem d_N_walk_171 : decode b_N_walk 171 = .ok (.aload_n 0, 1) := by decide +kernel
theorem d_N_walk_172 : decode b_N_walk 172 = .ok (.iload_n 3, 1) := by decide +kernel
theorem d_N_walk_173 : decode b_N_walk 173 = .ok (.aload_n 0, 1) := by decide +kernel
theorem d_N_walk_174 : decode b_N_walk 174 = .ok (.getfield 87, 3) := by decide +kernel
theorem d_N_walk_177 : decode b_N_walk 177 = .ok (.iload 6, 2) := by decide +kernel
theorem d_N_walk_179 : decode b_N_walk 179 = .ok (.iaload, 1) := by decide +kernel
theorem d_N_walk_180 : decode b_N_walk 180 = .ok (.invokevirtual 181, 3) := by decide +kernel
theorem d_N_walk_183 : decode b_N_walk 183 = .ok (.istore 7, 2) := by decide +kernel
theorem d_N_walk_185 : decode b_N_walk 185 = .ok (.iload 5, 2) := by decide +kernel
theorem d_N_walk_187 : decode b_N_walk 187 = .ok (.ifCond .ne 12, 3) := by decide +kernel
theorem d_N_walk_190 : decode b_N_walk 190 = .ok (.iload 7, 2) := by decide +kernel
theorem d_N_walk_192 : decode b_N_walk 192 = .ok (.ifCond .ge 7, 3) := by decide +kernel
theorem d_N_walk_195 : decode b_N_walk 195 = .ok (.bipush (-3), 2) := by decide +kernel
theorem d_N_walk_197 : decode b_N_walk 197 = .ok (.istore 5, 2) := by decide +kernel
theorem d_N_walk_199 : decode b_N_walk 199 = .ok (.iload 5, 2) := by decide +kernel
theorem d_N_walk_201 : decode b_N_walk 201 = .ok (.ifCond .ne 9, 3) := by decide +kernel
theorem d_N_walk_204 : decode b_N_walk 204 = .ok (.iload 7, 2) := by decide +kernel
theorem d_N_walk_206 : decode b_N_walk 206 = .ok (.istore_n 3, 1) := by decide +kernel
theorem d_N_walk_207 : decode b_N_walk 207 = .ok (.iinc 4 1, 3) := by decide +kernel
theorem d_N_walk_210 : decode b_N_walk 210 = .ok (.iinc 6 1, 3) := by decide +kernel
theorem d_N_walk_213 : decode b_N_walk 213 = .ok (.goto (-114), 3) := by decide +kernel
theorem d_N_walk_216 : decode b_N_walk 216 = .ok (.iload 5, 2) := by decide +kernel
theorem d_N_walk_218 : decode b_N_walk 218 = .ok (.ifCond .eq 11, 3) := by decide +kernel
theorem d_N_walk_221 : decode b_N_walk 221 = .ok (.iload 4, 2) := by decide +kernel
theorem d_N_walk_223 : decode b_N_walk 223 = .ok (.ifCond .ne 6, 3) := by decide +kernel
theorem d_N_walk_226 : decode b_N_walk 226 = .ok (.iload 5, 2) := by decide +kernel
theorem d_N_walk_228 : decode b_N_walk 228 = .ok (.ireturn, 1) := by decide +kernel
theorem d_N_walk_229 : decode b_N_walk 229 = .ok (.iload 5, 2) := by decide +kernel
theorem d_N_walk_231 : decode b_N_walk 231 = .ok (.ifCond .ne 46, 3) := by decide +kernel
theorem d_N_walk_234 : decode b_N_walk 234 = .ok (.aload_n 0, 1) := by decide +kernel
theorem d_N_walk_235 : decode b_N_walk 235 = .ok (.getfield 54, 3) := by decide +kernel
theorem d_N_walk_238 : decode b_N_walk 238 = .ok (.iload_n 2, 1) := by decide +kernel
theorem d_N_walk_239 : decode b_N_walk 239 = .ok (.aload_n 0, 1) := by decide +kernel
theorem d_N_walk_240 : decode b_N_walk 240 = .ok (.getfield 54, 3) := by decide +kernel
theorem d_N_walk_243 : decode b_N_walk 243 = .ok (.iload_n 1, 1) := by decide +kernel
theorem d_N_walk_244 : decode b_N_walk 244 = .ok (.iaload, 1) := by decide +kernel
theorem d_N_walk_245 : decode b_N_walk 245 = .ok (.iastore, 1) := by decide +kernel
theorem d_N_walk_246 : decode b_N_walk 246 = .ok (.aload_n 0, 1) := by decide +kernel
theorem d_N_walk_247 : decode b_N_walk 247 = .ok (.getfield 57, 3) := by decide +kernel
theorem d_N_walk_250 : decode b_N_walk 250 = .ok (.iload_n 2, 1) := by decide +kernel
theorem d_N_walk_251 : decode b_N_walk 251 = .ok (.aload_n 0, 1) := by decide +kernel
theorem d_N_walk_252 : decode b_N_walk 252 = .ok (.getfield 57, 3) := by decide +kernel
theorem d_N_walk_255 : decode b_N_walk 255 = .ok (.iload_n 1, 1) := by decide +kernel
theorem d_N_walk_256 : decode b_N_walk 256 = .ok (.iaload, 1) := by decide +kernel
theorem d_N_walk_257 : decode b_N_walk 257 = .ok (.iastore, 1) := by decide +kernel
theorem d_N_walk_258 : decode b_N_walk 258 = .ok (.aload_n 0, 1) := by decide +kernel
theorem d_N_walk_259 : decode b_N_walk 259 = .ok (.getfield 60, 3) := by decide +kernel
theorem d_N_walk_262 : decode b_N_walk 262 = .ok (.iload_n 2, 1) := by decide +kernel
theorem d_N_walk_263 : decode b_N_walk 263 = .ok (.aload_n 0, 1) := by decide +kernel
theorem d_N_walk_264 : decode b_N_walk 264 = .ok (.getfield 17, 3) := by decide +kernel
theorem d_N_walk_267 : decode b_N_walk 267 = .ok (.iload_n 3, 1) := by decide +kernel
theorem d_N_walk_268 : decode b_N_walk 268 = .ok (.iaload, 1) := by decide +kernel
theorem d_N_walk_269 : decode b_N_walk 269 = .ok (.iastore, 1) := by decide +kernel
theorem d_N_walk_270 : decode b_N_walk 270 = .ok (.aload_n 0, 1) := by decide +kernel
theorem d_N_walk_271 : decode b_N_walk 271 = .ok (.getfield 63, 3) := by decide +kernel
theorem d_N_walk_274 : decode b_N_walk 274 = .ok (.iload_n 2, 1) := by decide +kernel
theorem d_N_walk_275 : decode b_N_walk 275 = .ok (.iconst (-1), 1) := by decide +kernel
theorem d_N_walk_276 : decode b_N_walk 276 = .ok (.iastore, 1) := by decide +kernel
theorem d_N_walk_277 : decode b_N_walk 277 = .ok (.aload_n 0, 1) := by decide +kernel
theorem d_N_walk_278 : decode b_N_walk 278 = .ok (.aload_n 0, 1) := by decide +kernel
theorem d_N_walk_279 : decode b_N_walk 279 = .ok (.getfield 17, 3) := by decide +kernel
theorem d_N_walk_282 : decode b_N_walk 282 = .ok (.iload_n 3, 1) := by decide +kernel
theorem d_N_walk_283 : decode b_N_walk 283 = .ok (.iaload, 1) := by decide +kernel
theorem d_N_walk_284 : decode b_N_walk 284 = .ok (.invokevirtual 170, 3) := by decide +kernel
theorem d_N_walk_287 : decode b_N_walk 287 = .ok (.aload_n 0, 1) := by decide +kernel
theorem d_N_walk_288 : decode b_N_walk 288 = .ok (.aload_n 0, 1) := by decide +kernel
theorem d_N_walk_289 : decode b_N_walk 289 = .ok (.getfield 32, 3) := by decide +kernel
theorem d_N_walk_292 : decode b_N_walk 292 = .ok (.iload_n 3, 1) := by decide +kernel
theorem d_N_walk_293 : decode b_N_walk 293 = .ok (.iaload, 1) := by decide +kernel
theorem d_N_walk_294 : decode b_N_walk 294 = .ok (.invokevirtual 170, 3) := by decide +kernel
theorem d_N_walk_297 : decode b_N_walk 297 = .ok (.aload_n 0, 1) := by decide +kernel
theorem d_N_walk_298 : decode b_N_walk 298 = .ok (.aload_n 0, 1) := by decide +kernel
theorem d_N_walk_299 : decode b_N_walk 299 = .ok (.getfield 35, 3) := by decide +kernel
theorem d_N_walk_302 : decode b_N_walk 302 = .ok (.iload_n 3, 1) := by decide +kernel
theorem d_N_walk_303 : decode b_N_walk 303 = .ok (.iaload, 1) := by decide +kernel
theorem d_N_walk_304 : decode b_N_walk 304 = .ok (.invokevirtual 170, 3) := by decide +kernel
theorem d_N_walk_307 : decode b_N_walk 307 = .ok (.iload 4, 2) := by decide +kernel
theorem d_N_walk_309 : decode b_N_walk 309 = .ok (.ireturn, 1) := by decide +kernel
set_option maxRecDepth 20000 in
theorem ct_N_walkN (E : mm_En) (C : Nat → Nat → Int32) {f : Nat} (hf : f < 12) (hx : C 228 0 < 0 ∨ 6 ≤ C 228 0) : mm_MT E K_N_walk [.ref 204, .int (nI f)] (hp_H C) (mm_D (some (.int (-7))) C) := by
  refine mm_mtL (by decide) (by rfl) (Nat.le_of_ble_eq_true rfl) rfl ?_
  refine ev_iload_n (pc := 0) d_N_walk_0 rfl rfl ?_
  refine ev_bipush (pc := 1) (v := nI 6) d_N_walk_1 (by decide) ?_
  refine ev_idivN (pc := 3) d_N_walk_3 (by omega) (by decide) ?_
  refine ev_bipush (pc := 4) (v := nI 6) d_N_walk_4 (by decide) ?_
  first | refine ev_imulN (pc := 6) d_N_walk_6 ?_ | refine ev_imul (pc := 6) d_N_walk_6 ?_
  refine ev_aload_n (pc := 7) d_N_walk_7 rfl rfl (by first | rfl | exact mm_rk_rf _) ?_
  refine ev_gR (pc := 8) sh_N (by rfl) fl_N_87 d_N_walk_8 ?_
  refine ev_iconst (pc := 11) (v := nI 0) d_N_walk_11 rfl ?_
  refine ev_rIN (pc := 12) sh_N_n (by omega) (by decide) d_N_walk_12 ?_
  first | refine ev_iaddN (pc := 13) d_N_walk_13 ?_ | refine ev_iadd (pc := 13) d_N_walk_13 ?_
  refine ev_istore_n (pc := 14) d_N_walk_14 rfl (Nat.le_of_ble_eq_true rfl) rfl ?_
  try dsimp only [List.set]
  refine ev_aload_n (pc := 15) d_N_walk_15 rfl rfl (by first | rfl | exact mm_rk_rf _) ?_
  refine ev_gR (pc := 16) sh_N (by rfl) fl_N_87 d_N_walk_16 ?_
  refine ev_iconst (pc := 19) (v := nI 0) d_N_walk_19 rfl ?_
  refine ev_rIN (pc := 20) sh_N_n (by omega) (by decide) d_N_walk_20 ?_
  refine ev_if_lt (pc := 21) (tgt := 34) d_N_walk_21 (by decide) (fun h1 => ?_) (fun h1 => ?_)
  · refine ev_bipush (pc := 34) (v := -7) d_N_walk_34 (by decide) ?_
    exact ev_iret (pc := 36) d_N_walk_36 rfl (Nat.zero_le _) (Nat.zero_le _) ⟨rfl, rfl⟩
  refine ev_aload_n (pc := 24) d_N_walk_24 rfl rfl (by first | rfl | exact mm_rk_rf _) ?_
  refine ev_gR (pc := 25) sh_N (by rfl) fl_N_87 d_N_walk_25 ?_
  refine ev_iconst (pc := 28) (v := nI 0) d_N_walk_28 rfl ?_
  refine ev_rIN (pc := 29) sh_N_n (by omega) (by decide) d_N_walk_29 ?_
  refine ev_iconst (pc := 30) (v := 5) d_N_walk_30 rfl ?_
  refine ev_icmp_le (pc := 31) (tgt := 37) d_N_walk_31 (by decide) (fun h2 => ?_) (fun h2 => ?_)
  rotate_left
  · refine ev_bipush (pc := 34) (v := -7) d_N_walk_34 (by decide) ?_
    exact ev_iret (pc := 36) d_N_walk_36 rfl (Nat.zero_le _) (Nat.zero_le _) ⟨rfl, rfl⟩
  exact (nx_gt (n := 5) hx (by decide) h1 (Int32.not_lt.mpr h2)).elim
set_option maxRecDepth 20000 in
set_option maxHeartbeats 2000000 in
theorem ct_N_walk (E : mm_En) (C : Nat → Nat → Int32) {f t s j gv : Nat} (hw : nw_P C s) (hu : nu_P C f t) (hr : C 204 26 = nI 0) (hj : j < 6) (ej : C 228 0 = nI j) (hgv : C 204 29 = nI gv) (gv1 : 1 ≤ gv) (gv4 : gv ≤ 4) : mm_MT E K_N_walk [.ref 204, .int (nI f)] (hp_H C) (mm_D (some (.int (nG_R C f t (f / 6 * 6 + j) gv).1)) (nG_R C f t (f / 6 * 6 + j) gv).2) := by
  obtain ⟨hm, hp, hg, hl, es, s4, hroot⟩ := hw
  obtain ⟨hf, ht, et, hus⟩ := hu
  obtain ⟨g, eg⟩ : ∃ g, g = f / 6 * 6 + j := ⟨_, rfl⟩
  have hg12 : g < 12 := by omega
  refine mm_mtL (by decide) (by rfl) (Nat.le_of_ble_eq_true rfl) rfl ?_
  refine ev_iload_n (pc := 0) d_N_walk_0 rfl rfl ?_
  refine ev_bipush (pc := 1) (v := nI 6) d_N_walk_1 (by decide) ?_
  refine ev_idivN (pc := 3) d_N_walk_3 (by omega) (by decide) ?_
  refine ev_bipush (pc := 4) (v := nI 6) d_N_walk_4 (by decide) ?_
  first | refine ev_imulN (pc := 6) d_N_walk_6 ?_ | refine ev_imul (pc := 6) d_N_walk_6 ?_
  refine ev_aload_n (pc := 7) d_N_walk_7 rfl rfl (by first | rfl | exact mm_rk_rf _) ?_
  refine ev_gR (pc := 8) sh_N (by rfl) fl_N_87 d_N_walk_8 ?_
  refine ev_iconst (pc := 11) (v := nI 0) d_N_walk_11 rfl ?_
  refine ev_rIN (pc := 12) sh_N_n (by omega) (by decide) d_N_walk_12 ?_
  rw [ej]
  first | refine ev_iaddN (pc := 13) d_N_walk_13 ?_ | refine ev_iadd (pc := 13) d_N_walk_13 ?_
  rw [← eg]
  refine ev_istore_n (pc := 14) d_N_walk_14 rfl (Nat.le_of_ble_eq_true rfl) rfl ?_
  try dsimp only [List.set]
  refine ev_aload_n (pc := 15) d_N_walk_15 rfl rfl (by first | rfl | exact mm_rk_rf _) ?_
  refine ev_gR (pc := 16) sh_N (by rfl) fl_N_87 d_N_walk_16 ?_
  refine ev_iconst (pc := 19) (v := nI 0) d_N_walk_19 rfl ?_
  refine ev_rIN (pc := 20) sh_N_n (by omega) (by decide) d_N_walk_20 ?_
  rw [ej]
  refine ev_if_lt (pc := 21) (tgt := 34) d_N_walk_21 (by decide) (fun h1 => ?_) (fun h1 => ?_)
  · exact absurd h1 (nI_pos (by omega))
  refine ev_aload_n (pc := 24) d_N_walk_24 rfl rfl (by first | rfl | exact mm_rk_rf _) ?_
  refine ev_gR (pc := 25) sh_N (by rfl) fl_N_87 d_N_walk_25 ?_
  refine ev_iconst (pc := 28) (v := nI 0) d_N_walk_28 rfl ?_
  refine ev_rIN (pc := 29) sh_N_n (by omega) (by decide) d_N_walk_29 ?_
  rw [ej]
  refine ev_iconst (pc := 30) (v := 5) d_N_walk_30 rfl ?_
  refine ev_icmp_le (pc := 31) (tgt := 37) d_N_walk_31 (by decide) (fun h2 => ?_) (fun h2 => ?_)
  rotate_left
  · exact absurd (nI_le (a := j) (b := 5) (by omega) (by decide)) h2
  refine ev_aload_n (pc := 37) d_N_walk_37 rfl rfl (by first | rfl | exact mm_rk_rf _) ?_
  refine ev_gR (pc := 38) sh_N (by rfl) fl_N_54 d_N_walk_38 ?_
  refine ev_iload_n (pc := 41) d_N_walk_41 rfl rfl ?_
  refine ev_rIN (pc := 42) sh_N_user (by omega) (by decide) d_N_walk_42 ?_
  refine ev_if_ge (pc := 43) (tgt := 48) d_N_walk_43 (by decide) (fun ha => ?_) (fun ha => ?_)
  rotate_left
  · have ha' : C 217 f < 0 := Int32.not_le.mp ha
    rw [nG_R, if_pos ha']
    refine ev_iconst (pc := 46) (v := -1) d_N_walk_46 rfl ?_
    exact ev_iret (pc := 47) d_N_walk_47 rfl (Nat.zero_le _) (Nat.zero_le _) ⟨rfl, rfl⟩
  have ha' : ¬ C 217 f < 0 := Int32.not_lt.mpr ha
  obtain ⟨u4, eu⟩ := hus ha'
  obtain ⟨u, eu0⟩ : ∃ u, u = nus C f := ⟨_, rfl⟩
  have eu1 : C 217 f = nI u := by rw [eu0]; exact eu
  have hu4 : u < 4 := by rw [eu0]; exact u4
  rw [nG_R, if_neg ha', ← eu0]
  refine ev_aload_n (pc := 48) d_N_walk_48 rfl rfl (by first | rfl | exact mm_rk_rf _) ?_
  refine ev_gR (pc := 49) sh_N (by rfl) fl_N_63 d_N_walk_49 ?_
  refine ev_iload_n (pc := 52) d_N_walk_52 rfl rfl ?_
  refine ev_rIN (pc := 53) sh_N_openMode (by omega) (by decide) d_N_walk_53 ?_
  refine ev_if_lt (pc := 54) (tgt := 60) d_N_walk_54 (by decide) (fun hb => ?_) (fun hb => ?_)
  rotate_left
  · rw [if_pos hb]
    refine ev_bipush (pc := 57) (v := -8) d_N_walk_57 (by decide) ?_
    exact ev_iret (pc := 59) d_N_walk_59 rfl (Nat.zero_le _) (Nat.zero_le _) ⟨rfl, rfl⟩
  rw [if_neg (fun z => z hb)]
  have t77 : ¬ (¬ g = f ∧ ¬ C 217 g < 0) → ev_At E K_N_walk 77 [some (.ref 204), some (.int (nI f)), some (.int (nI g)), none, none, none, none, none] [] (hp_H C) 0 0 (mm_D (some (.int (match nc_i C t (C 219 f) with
      | none => ((-13 : Int32), C)
      | some k => nG_f C f g u gv (gv - 1) 1 k).1)) (match nc_i C t (C 219 f) with
      | none => ((-13 : Int32), C)
      | some k => nG_f C f g u gv (gv - 1) 1 k).2) := by
    intro hno
    refine ev_aload_n (pc := 77) d_N_walk_77 rfl rfl (by first | rfl | exact mm_rk_rf _) ?_
    refine ev_iload_n (pc := 78) d_N_walk_78 rfl rfl ?_
    refine ev_cV (pc := 79) (ct_N_nodeOf E C hm hf ht et) cl_N_167 jv_N_nodeOf ⟨(Nat.le_of_ble_eq_true rfl), (Nat.le_of_ble_eq_true rfl)⟩ rfl sh_N rfl (Nat.le_of_ble_eq_true rfl) d_N_walk_79 ⟨Nat.zero_le _, Nat.zero_le _⟩ ?_
    cases hn : nc_i C t (C 219 f) with
    | none =>
      rw [show oI none = -1 from rfl]
      refine ev_istore_n (pc := 82) d_N_walk_82 rfl (Nat.le_of_ble_eq_true rfl) rfl ?_
      try dsimp only [List.set]
      refine ev_iload_n (pc := 83) d_N_walk_83 rfl rfl ?_
      refine ev_if_ge (pc := 84) (tgt := 90) d_N_walk_84 (by decide) (fun hb => ?_) (fun hb => ?_)
      · exact absurd hb (by decide)
      refine ev_bipush (pc := 87) (v := -13) d_N_walk_87 (by decide) ?_
      exact ev_iret (pc := 89) d_N_walk_89 rfl (Nat.zero_le _) (Nat.zero_le _) ⟨rfl, rfl⟩
    | some k =>
      rw [show oI (some k) = nI k from rfl]
      obtain ⟨v1, v2, v3, v4⟩ := nc_v ht hm hn
      simp only []
      refine ev_istore_n (pc := 82) d_N_walk_82 rfl (Nat.le_of_ble_eq_true rfl) rfl ?_
      try dsimp only [List.set]
      refine ev_iload_n (pc := 83) d_N_walk_83 rfl rfl ?_
      refine ev_if_ge (pc := 84) (tgt := 90) d_N_walk_84 (by decide) (fun hb => ?_) (fun hb => ?_)
      rotate_left
      · exact absurd (nI_pos' (by omega)) hb
      have t277 : ∀ (D : Nat → Nat → Int32) (h w : Nat) (L5 L6 L7 : Option Value), h < 120 → D 204 26 = nI 0 → ev_At E K_N_walk 277 [some (.ref 204), some (.int (nI f)), some (.int (nI g)), some (.int (nI h)), some (.int (nI w)), L5, L6, L7] [] (hp_H D) 0 0 (mm_D (some (.int (nI w))) (nt_m D h 0)) := by
        intro D h w L5 L6 L7 hh hr0
        refine ev_aload_n (pc := 277) d_N_walk_277 rfl rfl (by first | rfl | exact mm_rk_rf _) ?_
        refine ev_aload_n (pc := 278) d_N_walk_278 rfl rfl (by first | rfl | exact mm_rk_rf _) ?_
        refine ev_gR (pc := 279) sh_N (by rfl) fl_N_17 d_N_walk_279 ?_
        refine ev_iload_n (pc := 282) d_N_walk_282 rfl rfl ?_
        refine ev_rIN (pc := 283) sh_N_path (by omega) (by decide) d_N_walk_283 ?_
        refine ev_cVv (pc := 284) (ct_N_tell E _ hr0 (by decide) _) cl_N_170 jv_N_tell ⟨(Nat.le_of_ble_eq_true rfl), (Nat.le_of_ble_eq_true rfl)⟩ rfl sh_N rfl (Nat.le_of_ble_eq_true rfl) d_N_walk_284 ⟨Nat.zero_le _, Nat.zero_le _⟩ ?_
        refine ev_aload_n (pc := 287) d_N_walk_287 rfl rfl (by first | rfl | exact mm_rk_rf _) ?_
        refine ev_aload_n (pc := 288) d_N_walk_288 rfl rfl (by first | rfl | exact mm_rk_rf _) ?_
        refine ev_gR (pc := 289) sh_N (by rfl) fl_N_32 d_N_walk_289 ?_
        refine ev_iload_n (pc := 292) d_N_walk_292 rfl rfl ?_
        refine ev_rIN (pc := 293) sh_N_version (by omega) (by decide) d_N_walk_293 ?_
        rw [nt_ne (by decide) (by decide)]
        refine ev_cVv (pc := 294) (ct_N_tell E _ (nt_k _ _ _) (by decide) _) cl_N_170 jv_N_tell ⟨(Nat.le_of_ble_eq_true rfl), (Nat.le_of_ble_eq_true rfl)⟩ rfl sh_N rfl (Nat.le_of_ble_eq_true rfl) d_N_walk_294 ⟨Nat.zero_le _, Nat.zero_le _⟩ ?_
        refine ev_aload_n (pc := 297) d_N_walk_297 rfl rfl (by first | rfl | exact mm_rk_rf _) ?_
        refine ev_aload_n (pc := 298) d_N_walk_298 rfl rfl (by first | rfl | exact mm_rk_rf _) ?_
        refine ev_gR (pc := 299) sh_N (by rfl) fl_N_35 d_N_walk_299 ?_
        refine ev_iload_n (pc := 302) d_N_walk_302 rfl rfl ?_
        refine ev_rIN (pc := 303) sh_N_mode (by omega) (by decide) d_N_walk_303 ?_
        rw [nt_ne (by decide) (by decide), nt_ne (by decide) (by decide)]
        refine ev_cVv (pc := 304) (ct_N_tell E _ (nt_k _ _ _) (by decide) _) cl_N_170 jv_N_tell ⟨(Nat.le_of_ble_eq_true rfl), (Nat.le_of_ble_eq_true rfl)⟩ rfl sh_N rfl (Nat.le_of_ble_eq_true rfl) d_N_walk_304 ⟨Nat.zero_le _, Nat.zero_le _⟩ ?_
        refine ev_iload (pc := 307) d_N_walk_307 rfl ?_
        exact ev_iret (pc := 309) d_N_walk_309 rfl (Nat.zero_le _) (Nat.zero_le _) ⟨rfl, rfl⟩
      have bad : ∀ (h i : Nat) (b : Int32) (L6 L7 : Option Value), h < 120 → 1 ≤ i → i ≤ 4 → ¬ b = 0 → ev_At E K_N_walk 216 [some (.ref 204), some (.int (nI f)), some (.int (nI g)), some (.int (nI h)), some (.int (nI (i - 1))), some (.int b), L6, L7] [] (hp_H C) 0 0 (mm_D (some (.int (if i = 1 then (b, C) else (nI (i - 1), nt_m C h 0)).1)) (if i = 1 then (b, C) else (nI (i - 1), nt_m C h 0)).2) := by
        intro h i b L6 L7 hh hi1 hi4 hb0
        refine ev_iload (pc := 216) d_N_walk_216 rfl ?_
        refine ev_if_eq (pc := 218) (tgt := 229) d_N_walk_218 (by decide) (fun hx => ?_) (fun hx => ?_)
        · exact absurd hx hb0
        refine ev_iload (pc := 221) d_N_walk_221 rfl ?_
        refine ev_if_ne (pc := 223) (tgt := 229) d_N_walk_223 (by decide) (fun hy => ?_) (fun hy => ?_)
        · have hy' : ¬ i = 1 := fun z => hy (by rw [z]; rfl)
          rw [if_neg hy']
          refine ev_iload (pc := 229) d_N_walk_229 rfl ?_
          refine ev_if_ne (pc := 231) (tgt := 277) d_N_walk_231 (by decide) (fun hz => ?_) (fun hz => ?_)
          · exact t277 C h (i - 1) _ _ _ hh hr
          · exact absurd hz hb0
        · have hy' : i = 1 := by
            have z' : nI (i - 1) = nI 0 := hy
            rw [nI_eq (by omega) (by decide)] at z'
            omega
          rw [if_pos hy']
          refine ev_iload (pc := 226) d_N_walk_226 rfl ?_
          exact ev_iret (pc := 228) d_N_walk_228 rfl (Nat.zero_le _) (Nat.zero_le _) ⟨rfl, rfl⟩
      have loop : ∀ d i h : Nat, i + d = gv → 1 ≤ i → nv C h → ∀ L7 : Option Value, ev_At E K_N_walk 99 [some (.ref 204), some (.int (nI f)), some (.int (nI g)), some (.int (nI h)), some (.int (nI (i - 1))), some (.int 0), some (.int (nI i)), L7] [] (hp_H C) 0 0 (mm_D (some (.int (nG_f C f g u gv d i h).1)) (nG_f C f g u gv d i h).2) := by
        intro d
        induction d with
        | zero =>
          intro i h hi hi1 hh L7
          have ei : i = gv := by omega
          subst ei
          have hh1 := hh.1
          refine ev_iload (pc := 99) d_N_walk_99 rfl ?_
          refine ev_aload_n (pc := 101) d_N_walk_101 rfl rfl (by first | rfl | exact mm_rk_rf _) ?_
          refine ev_gI (pc := 102) sh_N (by rfl) fl_N_107 d_N_walk_102 ?_
          rw [hgv]
          refine ev_icmp_ge (pc := 105) (tgt := 216) d_N_walk_105 (by decide) (fun hx => ?_) (fun hx => ?_)
          rotate_left
          · exact absurd (Int32.le_refl _) hx
          refine ev_iload (pc := 216) d_N_walk_216 rfl ?_
          refine ev_if_eq (pc := 218) (tgt := 229) d_N_walk_218 (by decide) (fun hy => ?_) (fun hy => ?_)
          rotate_left
          · exact absurd rfl hy
          refine ev_iload (pc := 229) d_N_walk_229 rfl ?_
          refine ev_if_ne (pc := 231) (tgt := 277) d_N_walk_231 (by decide) (fun hz => ?_) (fun hz => ?_)
          · exact absurd rfl hz
          refine ev_aload_n (pc := 234) d_N_walk_234 rfl rfl (by first | rfl | exact mm_rk_rf _) ?_
          refine ev_gR (pc := 235) sh_N (by rfl) fl_N_54 d_N_walk_235 ?_
          refine ev_iload_n (pc := 238) d_N_walk_238 rfl rfl ?_
          refine ev_aload_n (pc := 239) d_N_walk_239 rfl rfl (by first | rfl | exact mm_rk_rf _) ?_
          refine ev_gR (pc := 240) sh_N (by rfl) fl_N_54 d_N_walk_240 ?_
          refine ev_iload_n (pc := 243) d_N_walk_243 rfl rfl ?_
          refine ev_rIN (pc := 244) sh_N_user (by omega) (by decide) d_N_walk_244 ?_
          refine ev_wIN (pc := 245) sh_N_user (by omega) (by decide) d_N_walk_245 ?_
          refine ev_aload_n (pc := 246) d_N_walk_246 rfl rfl (by first | rfl | exact mm_rk_rf _) ?_
          refine ev_gR (pc := 247) sh_N (by rfl) fl_N_57 d_N_walk_247 ?_
          refine ev_iload_n (pc := 250) d_N_walk_250 rfl rfl ?_
          refine ev_aload_n (pc := 251) d_N_walk_251 rfl rfl (by first | rfl | exact mm_rk_rf _) ?_
          refine ev_gR (pc := 252) sh_N (by rfl) fl_N_57 d_N_walk_252 ?_
          refine ev_iload_n (pc := 255) d_N_walk_255 rfl rfl ?_
          refine ev_rIN (pc := 256) sh_N_tree (by omega) (by decide) d_N_walk_256 ?_
          rw [cs_ne _ _ (by omega)]
          refine ev_wIN (pc := 257) sh_N_tree (by omega) (by decide) d_N_walk_257 ?_
          refine ev_aload_n (pc := 258) d_N_walk_258 rfl rfl (by first | rfl | exact mm_rk_rf _) ?_
          refine ev_gR (pc := 259) sh_N (by rfl) fl_N_60 d_N_walk_259 ?_
          refine ev_iload_n (pc := 262) d_N_walk_262 rfl rfl ?_
          refine ev_aload_n (pc := 263) d_N_walk_263 rfl rfl (by first | rfl | exact mm_rk_rf _) ?_
          refine ev_gR (pc := 264) sh_N (by rfl) fl_N_17 d_N_walk_264 ?_
          refine ev_iload_n (pc := 267) d_N_walk_267 rfl rfl ?_
          refine ev_rIN (pc := 268) sh_N_path (by omega) (by decide) d_N_walk_268 ?_
          refine ev_wIN (pc := 269) sh_N_at (by omega) (by decide) d_N_walk_269 ?_
          refine ev_aload_n (pc := 270) d_N_walk_270 rfl rfl (by first | rfl | exact mm_rk_rf _) ?_
          refine ev_gR (pc := 271) sh_N (by rfl) fl_N_63 d_N_walk_271 ?_
          refine ev_iload_n (pc := 274) d_N_walk_274 rfl rfl ?_
          refine ev_iconst (pc := 275) (v := -1) d_N_walk_275 rfl ?_
          refine ev_wIN (pc := 276) sh_N_openMode (by omega) (by decide) d_N_walk_276 ?_
          refine ev_eq rfl rfl rfl (show _ = hp_H (nG_t C f g (C 207 h)) from rfl) rfl rfl ?_
          simp only [nG_f]
          refine t277 _ h (i - 1) _ _ _ hh1 ?_
          unfold nG_t
          rw [cs_ne _ _ (by omega), cs_ne _ _ (by omega), cs_ne _ _ (by omega), cs_ne _ _ (by omega)]
          exact hr
        | succ d ih =>
          intro i h hi hi1 hh L7
          have hh1 := hh.1
          obtain ⟨o, eo⟩ : ∃ o, o = nG_n C h (C 228 i) := ⟨_, rfl⟩
          have out : ∀ (b : Int32) (L7 : Option Value), nh_step C u h o = b → ¬ b = 0 → ev_At E K_N_walk 210 [some (.ref 204), some (.int (nI f)), some (.int (nI g)), some (.int (nI h)), some (.int (nI (i - 1))), some (.int b), some (.int (nI i)), L7] [] (hp_H C) 0 0 (mm_D (some (.int (nG_f C f g u gv (d + 1) i h).1)) (nG_f C f g u gv (d + 1) i h).2) := by
            intro b L7' hb1 hb0
            simp only [nG_f]
            rw [← eo, hb1, if_pos hb0]
            have h9 := bad h i b (some (.int (nI (i + 1)))) L7' hh1 hi1 (by omega) hb0
            refine ev_iinc (pc := 210) d_N_walk_210 (Nat.le_of_ble_eq_true rfl) rfl (nx_inc _) rfl ?_
            try dsimp only [List.set]
            refine ev_goto (pc := 213) (tgt := 99) d_N_walk_213 (by decide) ?_
            refine ev_iload (pc := 99) d_N_walk_99 rfl ?_
            refine ev_aload_n (pc := 101) d_N_walk_101 rfl rfl (by first | rfl | exact mm_rk_rf _) ?_
            refine ev_gI (pc := 102) sh_N (by rfl) fl_N_107 d_N_walk_102 ?_
            rw [hgv]
            refine ev_icmp_ge (pc := 105) (tgt := 216) d_N_walk_105 (by decide) (fun hx => ?_) (fun hx => ?_)
            · exact h9
            refine ev_iload (pc := 108) d_N_walk_108 rfl ?_
            refine ev_if_ne (pc := 110) (tgt := 216) d_N_walk_110 (by decide) (fun hy => ?_) (fun hy => ?_)
            · exact h9
            · exact absurd hy hb0
          refine ev_iload (pc := 99) d_N_walk_99 rfl ?_
          refine ev_aload_n (pc := 101) d_N_walk_101 rfl rfl (by first | rfl | exact mm_rk_rf _) ?_
          refine ev_gI (pc := 102) sh_N (by rfl) fl_N_107 d_N_walk_102 ?_
          rw [hgv]
          refine ev_icmp_ge (pc := 105) (tgt := 216) d_N_walk_105 (by decide) (fun hx => ?_) (fun hx => ?_)
          · exact absurd hx (nI_ge (by omega) (by omega))
          refine ev_iload (pc := 108) d_N_walk_108 rfl ?_
          refine ev_if_ne (pc := 110) (tgt := 216) d_N_walk_110 (by decide) (fun hy => ?_) (fun hy => ?_)
          · exact absurd rfl hy
          refine ev_iconst (pc := 113) (v := -1) d_N_walk_113 rfl ?_
          refine ev_istore (pc := 114) d_N_walk_114 (Nat.le_of_ble_eq_true rfl) rfl ?_
          try dsimp only [List.set]
          refine ev_aload_n (pc := 116) d_N_walk_116 rfl rfl (by first | rfl | exact mm_rk_rf _) ?_
          refine ev_iload_n (pc := 117) d_N_walk_117 rfl rfl ?_
          refine ev_cV (pc := 118) (ct_N_isDirectory E C hh1) cl_N_174 jv_N_isDirectory ⟨(Nat.le_of_ble_eq_true rfl), (Nat.le_of_ble_eq_true rfl)⟩ rfl sh_N rfl (Nat.le_of_ble_eq_true rfl) d_N_walk_118 ⟨Nat.zero_le _, Nat.zero_le _⟩ ?_
          refine ev_if_ne (pc := 121) (tgt := 131) d_N_walk_121 (by decide) (fun h3 => ?_) (fun h3 => ?_)
          rotate_left
          · rw [b2_0, Classical.not_not] at h3
            refine ev_bipush (pc := 124) (v := -4) d_N_walk_124 (by decide) ?_
            refine ev_istore (pc := 126) d_N_walk_126 (Nat.le_of_ble_eq_true rfl) rfl ?_
            try dsimp only [List.set]
            refine ev_goto (pc := 128) (tgt := 185) d_N_walk_128 (by decide) ?_
            refine ev_iload (pc := 185) d_N_walk_185 rfl ?_
            refine ev_if_ne (pc := 187) (tgt := 199) d_N_walk_187 (by decide) (fun hz => ?_) (fun hz => ?_)
            rotate_left
            · exact absurd hz (by decide)
            refine ev_iload (pc := 199) d_N_walk_199 rfl ?_
            refine ev_if_ne (pc := 201) (tgt := 210) d_N_walk_201 (by decide) (fun hz => ?_) (fun hz => ?_)
            rotate_left
            · exact absurd hz (by decide)
            exact out (-4) _ (by rw [nh_step, if_pos h3]) (by decide)
          rw [b2_0, Classical.not_not] at h3
          refine ev_aload_n (pc := 131) d_N_walk_131 rfl rfl (by first | rfl | exact mm_rk_rf _) ?_
          refine ev_aload_n (pc := 132) d_N_walk_132 rfl rfl (by first | rfl | exact mm_rk_rf _) ?_
          refine ev_gR (pc := 133) sh_N (by rfl) fl_N_54 d_N_walk_133 ?_
          refine ev_iload_n (pc := 136) d_N_walk_136 rfl rfl ?_
          refine ev_rIN (pc := 137) sh_N_user (by omega) (by decide) d_N_walk_137 ?_
          rw [eu1]
          refine ev_iload_n (pc := 138) d_N_walk_138 rfl rfl ?_
          refine ev_iconst (pc := 139) (v := 1) d_N_walk_139 rfl ?_
          refine ev_cV (pc := 140) (ct_N_has E C hg hu4 hh1 1) cl_N_177 jv_N_has ⟨(Nat.le_of_ble_eq_true rfl), (Nat.le_of_ble_eq_true rfl)⟩ rfl sh_N rfl (Nat.le_of_ble_eq_true rfl) d_N_walk_140 ⟨Nat.zero_le _, Nat.zero_le _⟩ ?_
          refine ev_if_ne (pc := 143) (tgt := 153) d_N_walk_143 (by decide) (fun h4 => ?_) (fun h4 => ?_)
          rotate_left
          · rw [b2_0] at h4
            refine ev_bipush (pc := 146) (v := -5) d_N_walk_146 (by decide) ?_
            refine ev_istore (pc := 148) d_N_walk_148 (Nat.le_of_ble_eq_true rfl) rfl ?_
            try dsimp only [List.set]
            refine ev_goto (pc := 150) (tgt := 185) d_N_walk_150 (by decide) ?_
            refine ev_iload (pc := 185) d_N_walk_185 rfl ?_
            refine ev_if_ne (pc := 187) (tgt := 199) d_N_walk_187 (by decide) (fun hz => ?_) (fun hz => ?_)
            rotate_left
            · exact absurd hz (by decide)
            refine ev_iload (pc := 199) d_N_walk_199 rfl ?_
            refine ev_if_ne (pc := 201) (tgt := 210) d_N_walk_201 (by decide) (fun hz => ?_) (fun hz => ?_)
            rotate_left
            · exact absurd hz (by decide)
            exact out (-5) _ (by rw [nh_step, if_neg h3, if_neg h4]) (by decide)
          rw [b2_0, Classical.not_not] at h4
          have t183 : ev_At E K_N_walk 183 [some (.ref 204), some (.int (nI f)), some (.int (nI g)), some (.int (nI h)), some (.int (nI (i - 1))), some (.int 0), some (.int (nI i)), some (.int (-1))] [.int (oI o)] (hp_H C) 0 0 (mm_D (some (.int (nG_f C f g u gv (d + 1) i h).1)) (nG_f C f g u gv (d + 1) i h).2) := by
            cases ho : o with
            | none =>
              rw [show oI none = -1 from rfl]
              refine ev_istore (pc := 183) d_N_walk_183 (Nat.le_of_ble_eq_true rfl) rfl ?_
              try dsimp only [List.set]
              refine ev_iload (pc := 185) d_N_walk_185 rfl ?_
              refine ev_if_ne (pc := 187) (tgt := 199) d_N_walk_187 (by decide) (fun hz => ?_) (fun hz => ?_)
              · exact absurd rfl hz
              refine ev_iload (pc := 190) d_N_walk_190 rfl ?_
              refine ev_if_ge (pc := 192) (tgt := 199) d_N_walk_192 (by decide) (fun hz => ?_) (fun hz => ?_)
              · exact absurd hz (by decide)
              refine ev_bipush (pc := 195) (v := -3) d_N_walk_195 (by decide) ?_
              refine ev_istore (pc := 197) d_N_walk_197 (Nat.le_of_ble_eq_true rfl) rfl ?_
              try dsimp only [List.set]
              refine ev_iload (pc := 199) d_N_walk_199 rfl ?_
              refine ev_if_ne (pc := 201) (tgt := 210) d_N_walk_201 (by decide) (fun hz => ?_) (fun hz => ?_)
              rotate_left
              · exact absurd hz (by decide)
              exact out (-3) _ (by rw [nh_step, if_neg h3, if_pos h4, if_pos ho]) (by decide)
            | some h' =>
              rw [show oI (some h') = nI h' from rfl]
              have hv' : nv C h' := by
                rw [eo] at ho
                unfold nG_n at ho
                split at ho
                · unfold np_i at ho
                  split at ho
                  · cases ho
                    exact hh
                  · exact (nc_v (by omega) hm ho).2.2.1
                · exact (nh_v hm hh1 ho).1
              have hv1 := hv'.1
              refine ev_istore (pc := 183) d_N_walk_183 (Nat.le_of_ble_eq_true rfl) rfl ?_
              try dsimp only [List.set]
              refine ev_iload (pc := 185) d_N_walk_185 rfl ?_
              refine ev_if_ne (pc := 187) (tgt := 199) d_N_walk_187 (by decide) (fun hz => ?_) (fun hz => ?_)
              · exact absurd rfl hz
              refine ev_iload (pc := 190) d_N_walk_190 rfl ?_
              refine ev_if_ge (pc := 192) (tgt := 199) d_N_walk_192 (by decide) (fun hz => ?_) (fun hz => ?_)
              rotate_left
              · exact absurd (nI_pos' (by omega)) hz
              refine ev_iload (pc := 199) d_N_walk_199 rfl ?_
              refine ev_if_ne (pc := 201) (tgt := 210) d_N_walk_201 (by decide) (fun hz => ?_) (fun hz => ?_)
              · exact absurd rfl hz
              refine ev_iload (pc := 204) d_N_walk_204 rfl ?_
              refine ev_istore_n (pc := 206) d_N_walk_206 rfl (Nat.le_of_ble_eq_true rfl) rfl ?_
              try dsimp only [List.set]
              refine ev_iinc (pc := 207) d_N_walk_207 (Nat.le_of_ble_eq_true rfl) rfl (nx_inc _) rfl ?_
              try dsimp only [List.set]
              refine ev_iinc (pc := 210) d_N_walk_210 (Nat.le_of_ble_eq_true rfl) rfl (nx_inc _) rfl ?_
              try dsimp only [List.set]
              refine ev_goto (pc := 213) (tgt := 99) d_N_walk_213 (by decide) ?_
              simp only [nG_f]
              have hst : nh_step C u h (some h') = 0 := by rw [nh_step, if_neg h3, if_pos h4, if_neg (fun z => by cases z)]
              rw [← eo, ho, if_neg (fun z => z hst), show (some h').getD h = h' from rfl]
              have h9 := ih (i + 1) h' (by omega) (by omega) hv' (some (.int (nI h')))
              rw [show i + 1 - 1 = i - 1 + 1 by omega] at h9
              exact h9
          refine ev_aload_n (pc := 153) d_N_walk_153 rfl rfl (by first | rfl | exact mm_rk_rf _) ?_
          refine ev_gR (pc := 154) sh_N (by rfl) fl_N_87 d_N_walk_154 ?_
          refine ev_iload (pc := 157) d_N_walk_157 rfl ?_
          refine ev_rIN (pc := 159) sh_N_n (by omega) (by decide) d_N_walk_159 ?_
          refine ev_if_ne (pc := 160) (tgt := 171) d_N_walk_160 (by decide) (fun h5 => ?_) (fun h5 => ?_)
          · refine ev_aload_n (pc := 171) d_N_walk_171 rfl rfl (by first | rfl | exact mm_rk_rf _) ?_
            refine ev_iload_n (pc := 172) d_N_walk_172 rfl rfl ?_
            refine ev_aload_n (pc := 173) d_N_walk_173 rfl rfl (by first | rfl | exact mm_rk_rf _) ?_
            refine ev_gR (pc := 174) sh_N (by rfl) fl_N_87 d_N_walk_174 ?_
            refine ev_iload (pc := 177) d_N_walk_177 rfl ?_
            refine ev_rIN (pc := 179) sh_N_n (by omega) (by decide) d_N_walk_179 ?_
            refine ev_cV (pc := 180) (ct_N_child E C hm hh1 _) cl_N_181 jv_N_child ⟨(Nat.le_of_ble_eq_true rfl), (Nat.le_of_ble_eq_true rfl)⟩ rfl sh_N rfl (Nat.le_of_ble_eq_true rfl) d_N_walk_180 ⟨Nat.zero_le _, Nat.zero_le _⟩ ?_
            rw [show nh_i C h (C 228 i) = o by rw [eo, nG_n, if_neg h5]]
            exact t183
          · refine ev_aload_n (pc := 163) d_N_walk_163 rfl rfl (by first | rfl | exact mm_rk_rf _) ?_
            refine ev_iload_n (pc := 164) d_N_walk_164 rfl rfl ?_
            refine ev_cV (pc := 165) (ct_N_parent E C hm hh1) cl_N_154 jv_N_parent ⟨(Nat.le_of_ble_eq_true rfl), (Nat.le_of_ble_eq_true rfl)⟩ rfl sh_N rfl (Nat.le_of_ble_eq_true rfl) d_N_walk_165 ⟨Nat.zero_le _, Nat.zero_le _⟩ ?_
            rw [show np_i C h = o by rw [eo, nG_n, if_pos h5]]
            refine ev_goto (pc := 168) (tgt := 183) d_N_walk_168 (by decide) ?_
            exact t183
      refine ev_iconst (pc := 90) (v := 0) d_N_walk_90 rfl ?_
      refine ev_istore (pc := 91) d_N_walk_91 (Nat.le_of_ble_eq_true rfl) rfl ?_
      try dsimp only [List.set]
      refine ev_iconst (pc := 93) (v := 0) d_N_walk_93 rfl ?_
      refine ev_istore (pc := 94) d_N_walk_94 (Nat.le_of_ble_eq_true rfl) rfl ?_
      try dsimp only [List.set]
      refine ev_iconst (pc := 96) (v := 1) d_N_walk_96 rfl ?_
      refine ev_istore (pc := 97) d_N_walk_97 (Nat.le_of_ble_eq_true rfl) rfl ?_
      try dsimp only [List.set]
      exact loop (gv - 1) 1 k (by omega) (by omega) v3 none
  refine ev_iload_n (pc := 60) d_N_walk_60 rfl rfl ?_
  refine ev_iload_n (pc := 61) d_N_walk_61 rfl rfl ?_
  refine ev_icmp_eq (pc := 62) (tgt := 77) d_N_walk_62 (by decide) (fun hc => ?_) (fun hc => ?_)
  · have hc' : g = f := (nI_eq (by omega) (by omega)).mp hc
    rw [if_neg (fun z => z.1 hc')]
    exact t77 (fun z => z.1 hc')
  have hc' : ¬ g = f := fun z => hc (by rw [z])
  refine ev_aload_n (pc := 65) d_N_walk_65 rfl rfl (by first | rfl | exact mm_rk_rf _) ?_
  refine ev_gR (pc := 66) sh_N (by rfl) fl_N_54 d_N_walk_66 ?_
  refine ev_iload_n (pc := 69) d_N_walk_69 rfl rfl ?_
  refine ev_rIN (pc := 70) sh_N_user (by omega) (by decide) d_N_walk_70 ?_
  refine ev_if_lt (pc := 71) (tgt := 77) d_N_walk_71 (by decide) (fun hd => ?_) (fun hd => ?_)
  · rw [if_neg (fun z => z.2 hd)]
    exact t77 (fun z => z.2 hd)
  rw [if_pos ⟨hc', hd⟩]
  refine ev_bipush (pc := 74) (v := -2) d_N_walk_74 (by decide) ?_
  exact ev_iret (pc := 76) d_N_walk_76 rfl (Nat.zero_le _) (Nat.zero_le _) ⟨rfl, rfl⟩
