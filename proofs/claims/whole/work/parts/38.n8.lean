/-! The reference: creating. -/
noncomputable def nh_cr (C : Nat → Nat → Int32) (f u k : Nat) (x md om : Int32) : Int32 :=
  if (C 213 k &&& 2048) = 0 then -4 else if ¬ C 218 f = 0 then -9 else if ¬ ((¬ x < 1 ∧ ¬ 99 < x) ∧ ¬ md < 0 ∧ ¬ 4095 < md ∧ ((om &&& -84) = 0 ∧ ¬ 3 ≤ (om &&& 3)) ∧ ((md &&& 2048) = 0 ∨ om = 0)) then -7 else if nY C u k 2 then (if nh_i C k x = none then 0 else -6) else -5
def nE_m (C : Nat → Nat → Int32) (k : Nat) (md : Int32) : Int32 := md &&& (((if (md &&& 2048) = 0 then 438 else 511) &&& (C 213 k ^^^ (-1))) ^^^ (-1))
/-- a new node c of the directory k; C: the heap behind the change -/
def nE_N (C : Nat → Nat → Int32) (f k c : Nat) (x md : Int32) : Nat → Nat → Int32 := cs_C (cs_C (cs_C (cs_C (cs_C (cs_C (cs_C (cs_C (cs_C (cs_C (cs_C (cs_C (cs_C C 212 k (C 212 k + 1)) 206 0 (nI (c + 1))) 207 c (C 204 12)) 204 12 (C 204 12 + 1)) 208 c (C 207 k)) 209 c x) 210 c (C 217 f)) 211 c (C 211 k)) 212 c 0) 213 c (nE_m C k md)) 214 c 0) 215 c (C 204 13)) 204 13 (C 204 13 + 1)
def nE_F (C : Nat → Nat → Int32) (f : Nat) (p om : Int32) : Nat → Nat → Int32 := nt_C (nt_C (cs_C (cs_C (cs_C C 219 f p) 220 f om) 221 f 0) 0 p) 1 0
noncomputable def nE_C (C : Nat → Nat → Int32) (f k s : Nat) (x md om : Int32) : Nat → Nat → Int32 := nE_F (nE_N (nx_C C s k) f k (nm C 0) x md) f (C 204 12) om
noncomputable def nE_R (C : Nat → Nat → Int32) (f t s : Nat) : Int32 × (Nat → Nat → Int32) := if C 217 f < 0 then (-1, C) else if ¬ C 220 f < 0 then (-8, C) else (match nc_i C t (C 219 f) with
  | none => (-13, C)
  | some k => if ¬ nh_cr C f (nus C f) k (C 228 0) (C 228 1) (C 228 2) = 0 then (nh_cr C f (nus C f) k (C 228 0) (C 228 1) (C 228 2), C) else if ¬ nk_n C k = 8 ∧ ¬ nd_n C 20 k = 6 ∧ ¬ nm C 0 = 20 ∧ nb_n C s + (nn_n C s k + 1) ≤ 64 then (0, nE_C C f k s (C 228 0) (C 228 1) (C 228 2)) else (-11, C))
theorem nd_le (C : Nat → Nat → Int32) : ∀ n k, nd_n C n k ≤ n := by
  intro n
  induction n with
  | zero => intro k; exact Nat.le_refl _
  | succ n ih =>
    intro k
    have h1 := ih (np C k)
    simp only [nd_n]
    split <;> omega
theorem oI_neg {o : Option Nat} (h : ∀ j, o = some j → j < 2 ^ 31) : oI o < 0 ↔ o = none := by
  cases o with
  | none => exact ⟨fun _ => rfl, fun _ => by decide⟩
  | some j => exact ⟨fun z => absurd z (nI_pos (h j rfl)), fun z => by cases z⟩
theorem nh_lt {C : Nat → Nat → Int32} (hm : nm_ok C) {k : Nat} (hk : k < 120) {x : Int32} {j : Nat} (h : nh_i C k x = some j) : j < 120 := by
  have h1 := fx_f_some _ _ _ _ h
  have h2 := (hm (k / 20) (by omega)).1
  omega
theorem d_N_create_0 : decode b_N_create 0 = .ok (.aload_n 0, 1) := by decide +kernel
theorem d_N_create_1 : decode b_N_create 1 = .ok (.getfield 54, 3) := by decide +kernel
theorem d_N_create_4 : decode b_N_create 4 = .ok (.iload_n 1, 1) := by decide +kernel
theorem d_N_create_5 : decode b_N_create 5 = .ok (.iaload, 1) := by decide +kernel
theorem d_N_create_6 : decode b_N_create 6 = .ok (.ifCond .ge 5, 3) := by decide +kernel
theorem d_N_create_9 : decode b_N_create 9 = .ok (.iconst (-1), 1) := by decide +kernel
theorem d_N_create_10 : decode b_N_create 10 = .ok (.ireturn, 1) := by decide +kernel
theorem d_N_create_11 : decode b_N_create 11 = .ok (.aload_n 0, 1) := by decide +kernel
theorem d_N_create_12 : decode b_N_create 12 = .ok (.getfield 63, 3) := by decide +kernel
theorem d_N_create_15 : decode b_N_create 15 = .ok (.iload_n 1, 1) := by decide +kernel
theorem d_N_create_16 : decode b_N_create 16 = .ok (.iaload, 1) := by decide +kernel
theorem d_N_create_17 : decode b_N_create 17 = .ok (.ifCond .lt 6, 3) := by decide +kernel
theorem d_N_create_20 : decode b_N_create 20 = .ok (.bipush (-8), 2) := by decide +kernel
theorem d_N_create_22 : decode b_N_create 22 = .ok (.ireturn, 1) := by decide +kernel
theorem d_N_create_23 : decode b_N_create 23 = .ok (.aload_n 0, 1) := by decide +kernel
theorem d_N_create_24 : decode b_N_create 24 = .ok (.iload_n 1, 1) := by decide +kernel
theorem d_N_create_25 : decode b_N_create 25 = .ok (.invokevirtual 167, 3) := by decide +kernel
theorem d_N_create_28 : decode b_N_create 28 = .ok (.istore_n 2, 1) := by decide +kernel
theorem d_N_create_29 : decode b_N_create 29 = .ok (.iload_n 2, 1) := by decide +kernel
theorem d_N_create_30 : decode b_N_create 30 = .ok (.ifCond .ge 6, 3) := by decide +kernel
theorem d_N_create_33 : decode b_N_create 33 = .ok (.bipush (-13), 2) := by decide +kernel
theorem d_N_create_35 : decode b_N_create 35 = .ok (.ireturn, 1) := by decide +kernel
theorem d_N_create_36 : decode b_N_create 36 = .ok (.aload_n 0, 1) := by decide +kernel
theorem d_N_create_37 : decode b_N_create 37 = .ok (.iload_n 2, 1) := by decide +kernel
theorem d_N_create_38 : decode b_N_create 38 = .ok (.invokevirtual 174, 3) := by decide +kernel
theorem d_N_create_41 : decode b_N_create 41 = .ok (.ifCond .ne 6, 3) := by decide +kernel
theorem d_N_create_44 : decode b_N_create 44 = .ok (.bipush (-4), 2) := by decide +kernel
theorem d_N_create_46 : decode b_N_create 46 = .ok (.ireturn, 1) := by decide +kernel
theorem d_N_create_47 : decode b_N_create 47 = .ok (.aload_n 0, 1) := by decide +kernel
theorem d_N_create_48 : decode b_N_create 48 = .ok (.getfield 57, 3) := by decide +kernel
theorem d_N_create_51 : decode b_N_create 51 = .ok (.iload_n 1, 1) := by decide +kernel
theorem d_N_create_52 : decode b_N_create 52 = .ok (.iaload, 1) := by decide +kernel
theorem d_N_create_53 : decode b_N_create 53 = .ok (.ifCond .eq 6, 3) := by decide +kernel
theorem d_N_create_56 : decode b_N_create 56 = .ok (.bipush (-9), 2) := by decide +kernel
theorem d_N_create_58 : decode b_N_create 58 = .ok (.ireturn, 1) := by decide +kernel
theorem d_N_create_59 : decode b_N_create 59 = .ok (.aload_n 0, 1) := by decide +kernel
theorem d_N_create_60 : decode b_N_create 60 = .ok (.getfield 87, 3) := by decide +kernel
theorem d_N_create_63 : decode b_N_create 63 = .ok (.iconst 1, 1) := by decide +kernel
theorem d_N_create_64 : decode b_N_create 64 = .ok (.iaload, 1) := by decide +kernel
theorem d_N_create_65 : decode b_N_create 65 = .ok (.sipush 2048, 3) := by decide +kernel
theorem d_N_create_68 : decode b_N_create 68 = .ok (.iand, 1) := by decide +kernel
theorem d_N_create_69 : decode b_N_create 69 = .ok (.ifCond .eq 7, 3) := by decide +kernel
theorem d_N_create_72 : decode b_N_create 72 = .ok (.iconst 1, 1) := by decide +kernel
theorem d_N_create_73 : decode b_N_create 73 = .ok (.goto 4, 3) := by decide +kernel
theorem d_N_create_76 : decode b_N_create 76 = .ok (.iconst 0, 1) := by decide +kernel
theorem d_N_create_77 : decode b_N_create 77 = .ok (.istore_n 3, 1) := by decide +kernel
theorem d_N_create_78 : decode b_N_create 78 = .ok (.aload_n 0, 1) := by decide +kernel
theorem d_N_create_79 : decode b_N_create 79 = .ok (.getfield 87, 3) := by decide +kernel
theorem d_N_create_82 : decode b_N_create 82 = .ok (.iconst 0, 1) := by decide +kernel
theorem d_N_create_83 : decode b_N_create 83 = .ok (.iaload, 1) := by decide +kernel
theorem d_N_create_84 : decode b_N_create 84 = .ok (.iconst 1, 1) := by decide +kernel
theorem d_N_create_85 : decode b_N_create 85 = .ok (.if_icmp .lt 60, 3) := by decide +kernel
theorem d_N_create_88 : decode b_N_create 88 = .ok (.aload_n 0, 1) := by decide +kernel
theorem d_N_create_89 : decode b_N_create 89 = .ok (.getfield 87, 3) := by decide +kernel
theorem d_N_create_92 : decode b_N_create 92 = .ok (.iconst 0, 1) := by decide +kernel
theorem d_N_create_93 : decode b_N_create 93 = .ok (.iaload, 1) := by decide +kernel
theorem d_N_create_94 : decode b_N_create 94 = .ok (.bipush 99, 2) := by decide +kernel
theorem d_N_create_96 : decode b_N_create 96 = .ok (.if_icmp .gt 49, 3) := by decide +kernel
theorem d_N_create_99 : decode b_N_create 99 = .ok (.aload_n 0, 1) := by decide +kernel
theorem d_N_create_100 : decode b_N_create 100 = .ok (.getfield 87, 3) := by decide +kernel
theorem d_N_create_103 : decode b_N_create 103 = .ok (.iconst 1, 1) := by decide +kernel
theorem d_N_create_104 : decode b_N_create 104 = .ok (.iaload, 1) := by decide +kernel
theorem d_N_create_105 : decode b_N_create 105 = .ok (.ifCond .lt 40, 3) := by decide +kernel
theorem d_N_create_108 : decode b_N_create 108 = .ok (.aload_n 0, 1) := by decide +kernel
theorem d_N_create_109 : decode b_N_create 109 = .ok (.getfield 87, 3) := by decide +kernel
theorem d_N_create_112 : decode b_N_create 112 = .ok (.iconst 1, 1) := by decide +kernel
theorem d_N_create_113 : decode b_N_create 113 = .ok (.iaload, 1) := by decide +kernel
theorem d_N_create_114 : decode b_N_create 114 = .ok (.sipush 4095, 3) := by decide +kernel
theorem d_N_create_117 : decode b_N_create 117 = .ok (.if_icmp .gt 28, 3) := by decide +kernel
theorem d_N_create_120 : decode b_N_create 120 = .ok (.aload_n 0, 1) := by decide +kernel
theorem d_N_create_121 : decode b_N_create 121 = .ok (.getfield 87, 3) := by decide +kernel
theorem d_N_create_124 : decode b_N_create 124 = .ok (.iconst 2, 1) := by decide +kernel
theorem d_N_create_125 : decode b_N_create 125 = .ok (.iaload, 1) := by decide +kernel
theorem d_N_create_126 : decode b_N_create 126 = .ok (.invokestatic 184, 3) := by decide +kernel
theorem d_N_create_129 : decode b_N_create 129 = .ok (.ifCond .eq 16, 3) := by decide +kernel
theorem d_N_create_132 : decode b_N_create 132 = .ok (.iload_n 3, 1) := by decide +kernel
theorem d_N_create_133 : decode b_N_create 133 = .ok (.ifCond .eq 15, 3) := by decide +kernel
theorem d_N_create_136 : decode b_N_create 136 = .ok (.aload_n 0, 1) := by decide +kernel
theorem d_N_create_137 : decode b_N_create 137 = .ok (.getfield 87, 3) := by decide +kernel
theorem d_N_create_140 : decode b_N_create 140 = .ok (.iconst 2, 1) := by decide +kernel
theorem d_N_create_141 : decode b_N_create 141 = .ok (.iaload, 1) := by decide +kernel
theorem d_N_create_142 : decode b_N_create 142 = .ok (.ifCond .eq 6, 3) := by decide +kernel
theorem d_N_create_145 : decode b_N_create 145 = .ok (.bipush (-7), 2) := by decide +kernel
theorem d_N_create_147 : decode b_N_create 147 = .ok (.ireturn, 1) := by decide +kernel
theorem d_N_create_148 : decode b_N_create 148 = .ok (.aload_n 0, 1) := by decide +kernel
theorem d_N_create_149 : decode b_N_create 149 = .ok (.aload_n 0, 1) := by decide +kernel
theorem d_N_create_150 : decode b_N_create 150 = .ok (.getfield 54, 3) := by decide +kernel
theorem d_N_create_153 : decode b_N_create 153 = .ok (.iload_n 1, 1) := by decide +kernel
theorem d_N_create_154 : decode b_N_create 154 = .ok (.iaload, 1) := by decide +kernel
theorem d_N_create_155 : decode b_N_create 155 = .ok (.iload_n 2, 1) := by decide +kernel
theorem d_N_create_156 : decode b_N_create 156 = .ok (.iconst 2, 1) := by decide +kernel
theorem d_N_create_157 : decode b_N_create 157 = .ok (.invokevirtual 177, 3) := by decide +kernel
theorem d_N_create_160 : decode b_N_create 160 = .ok (.ifCond .ne 6, 3) := by decide +kernel
theorem d_N_create_163 : decode b_N_create 163 = .ok (.bipush (-5), 2) := by decide +kernel
theorem d_N_create_165 : decode b_N_create 165 = .ok (.ireturn, 1) := by decide +kernel
theorem d_N_create_166 : decode b_N_create 166 = .ok (.aload_n 0, 1) := by decide +kernel
theorem d_N_create_167 : decode b_N_create 167 = .ok (.iload_n 2, 1) := by decide +kernel
theorem d_N_create_168 : decode b_N_create 168 = .ok (.aload_n 0, 1) := by decide +kernel
theorem d_N_create_169 : decode b_N_create 169 = .ok (.getfield 87, 3) := by decide +kernel
theorem d_N_create_172 : decode b_N_create 172 = .ok (.iconst 0, 1) := by decide +kernel
theorem d_N_create_173 : decode b_N_create 173 = .ok (.iaload, 1) := by decide +kernel
theorem d_N_create_174 : decode b_N_create 174 = .ok (.invokevirtual 181, 3) := by decide +kernel
theorem d_N_create_177 : decode b_N_create 177 = .ok (.ifCond .lt 6, 3) := by decide +kernel
theorem d_N_create_180 : decode b_N_create 180 = .ok (.bipush (-6), 2) := by decide +kernel
theorem d_N_create_182 : decode b_N_create 182 = .ok (.ireturn, 1) := by decide +kernel
theorem d_N_create_183 : decode b_N_create 183 = .ok (.aload_n 0, 1) := by decide +kernel
theorem d_N_create_184 : decode b_N_create 184 = .ok (.iload_n 2, 1) := by decide +kernel
theorem d_N_create_185 : decode b_N_create 185 = .ok (.invokevirtual 205, 3) := by decide +kernel
theorem d_N_create_188 : decode b_N_create 188 = .ok (.bipush 8, 2) := by decide +kernel
theorem d_N_create_190 : decode b_N_create 190 = .ok (.if_icmp .eq 38, 3) := by decide +kernel
theorem d_N_create_193 : decode b_N_create 193 = .ok (.aload_n 0, 1) := by decide +kernel
theorem d_N_create_194 : decode b_N_create 194 = .ok (.iload_n 2, 1) := by decide +kernel
theorem d_N_create_195 : decode b_N_create 195 = .ok (.invokevirtual 208, 3) := by decide +kernel
theorem d_N_create_198 : decode b_N_create 198 = .ok (.bipush 6, 2) := by decide +kernel
theorem d_N_create_200 : decode b_N_create 200 = .ok (.if_icmp .eq 28, 3) := by decide +kernel
theorem d_N_create_203 : decode b_N_create 203 = .ok (.aload_n 0, 1) := by decide +kernel
theorem d_N_create_204 : decode b_N_create 204 = .ok (.getfield 13, 3) := by decide +kernel
theorem d_N_create_207 : decode b_N_create 207 = .ok (.iconst 0, 1) := by decide +kernel
theorem d_N_create_208 : decode b_N_create 208 = .ok (.iaload, 1) := by decide +kernel
theorem d_N_create_209 : decode b_N_create 209 = .ok (.bipush 20, 2) := by decide +kernel
theorem d_N_create_211 : decode b_N_create 211 = .ok (.if_icmp .eq 17, 3) := by decide +kernel
theorem d_N_create_214 : decode b_N_create 214 = .ok (.aload_n 0, 1) := by decide +kernel
theorem d_N_create_215 : decode b_N_create 215 = .ok (.aload_n 0, 1) := by decide +kernel
theorem d_N_create_216 : decode b_N_create 216 = .ok (.iload_n 2, 1) := by decide +kernel
theorem d_N_create_217 : decode b_N_create 217 = .ok (.invokevirtual 196, 3) := by decide +kernel
theorem d_N_create_220 : decode b_N_create 220 = .ok (.iconst 1, 1) := by decide +kernel
theorem d_N_create_221 : decode b_N_create 221 = .ok (.iadd, 1) := by decide +kernel
theorem d_N_create_222 : decode b_N_create 222 = .ok (.invokevirtual 199, 3) := by decide +kernel
theorem d_N_create_225 : decode b_N_create 225 = .ok (.ifCond .ne 6, 3) := by decide +kernel
theorem d_N_create_228 : decode b_N_create 228 = .ok (.bipush (-11), 2) := by decide +kernel
theorem d_N_create_230 : decode b_N_create 230 = .ok (.ireturn, 1) := by decide +kernel
theorem d_N_create_231 : decode b_N_create 231 = .ok (.aload_n 0, 1) := by decide +kernel
theorem d_N_create_232 : decode b_N_create 232 = .ok (.iload_n 2, 1) := by decide +kernel
theorem d_N_create_233 : decode b_N_create 233 = .ok (.invokevirtual 202, 3) := by decide +kernel
theorem d_N_create_236 : decode b_N_create 236 = .ok (.aload_n 0, 1) := by decide +kernel
theorem d_N_create_237 : decode b_N_create 237 = .ok (.getfield 32, 3) := by decide +kernel
theorem d_N_create_240 : decode b_N_create 240 = .ok (.iload_n 2, 1) := by decide +kernel
theorem d_N_create_241 : decode b_N_create 241 = .ok (.dup2, 1) := by decide +kernel
theorem d_N_create_242 : decode b_N_create 242 = .ok (.iaload, 1) := by decide +kernel
theorem d_N_create_243 : decode b_N_create 243 = .ok (.iconst 1, 1) := by decide +kernel
theorem d_N_create_244 : decode b_N_create 244 = .ok (.iadd, 1) := by decide +kernel
theorem d_N_create_245 : decode b_N_create 245 = .ok (.iastore, 1) := by decide +kernel
theorem d_N_create_246 : decode b_N_create 246 = .ok (.aload_n 0, 1) := by decide +kernel
theorem d_N_create_247 : decode b_N_create 247 = .ok (.getfield 13, 3) := by decide +kernel
theorem d_N_create_250 : decode b_N_create 250 = .ok (.iconst 0, 1) := by decide +kernel
theorem d_N_create_251 : decode b_N_create 251 = .ok (.iaload, 1) := by decide +kernel
theorem d_N_create_252 : decode b_N_create 252 = .ok (.istore 4, 2) := by decide +kernel
theorem d_N_create_254 : decode b_N_create 254 = .ok (.aload_n 0, 1) := by decide +kernel
theorem d_N_create_255 : decode b_N_create 255 = .ok (.getfield 13, 3) := by decide +kernel
theorem d_N_create_258 : decode b_N_create 258 = .ok (.iconst 0, 1) := by decide +kernel
theorem d_N_create_259 : decode b_N_create 259 = .ok (.dup2, 1) := by decide +kernel
theorem d_N_create_260 : decode b_N_create 260 = .ok (.iaload, 1) := by decide +kernel
theorem d_N_create_261 : decode b_N_create 261 = .ok (.iconst 1, 1) := by decide +kernel
theorem d_N_create_262 : decode b_N_create 262 = .ok (.iadd, 1) := by decide +kernel
theorem d_N_create_263 : decode b_N_create 263 = .ok (.iastore, 1) := by decide +kernel
theorem d_N_create_264 : decode b_N_create 264 = .ok (.aload_n 0, 1) := by decide +kernel
theorem d_N_create_265 : decode b_N_create 265 = .ok (.getfield 17, 3) := by decide +kernel
theorem d_N_create_268 : decode b_N_create 268 = .ok (.iload 4, 2) := by decide +kernel
theorem d_N_create_270 : decode b_N_create 270 = .ok (.aload_n 0, 1) := by decide +kernel
theorem d_N_create_271 : decode b_N_create 271 = .ok (.getfield 47, 3) := by decide +kernel
theorem d_N_create_274 : decode b_N_create 274 = .ok (.iastore, 1) := by decide +kernel
theorem d_N_create_275 : decode b_N_create 275 = .ok (.aload_n 0, 1) := by decide +kernel
theorem d_N_create_276 : decode b_N_create 276 = .ok (.dup, 1) := by decide +kernel
theorem d_N_create_277 : decode b_N_create 277 = .ok (.getfield 47, 3) := by decide +kernel
theorem d_N_create_280 : decode b_N_create 280 = .ok (.iconst 1, 1) := by decide +kernel
theorem d_N_create_281 : decode b_N_create 281 = .ok (.iadd, 1) := by decide +kernel
theorem d_N_create_282 : decode b_N_create 282 = .ok (.putfield 47, 3) := by decide +kernel
theorem d_N_create_285 : decode b_N_create 285 = .ok (.aload_n 0, 1) := by decide +kernel
theorem d_N_create_286 : decode b_N_create 286 = .ok (.getfield 20, 3) := by decide +kernel
theorem d_N_create_289 : decode b_N_create 289 = .ok (.iload 4, 2) := by decide +kernel
theorem d_N_create_291 : decode b_N_create 291 = .ok (.aload_n 0, 1) := by decide +kernel
theorem d_N_create_292 : decode b_N_create 292 = .ok (.getfield 17, 3) := by decide +kernel
theorem d_N_create_295 : decode b_N_create 295 = .ok (.iload_n 2, 1) := by decide +kernel
theorem d_N_create_296 : decode b_N_create 296 = .ok (.iaload, 1) := by decide +kernel
theorem d_N_create_297 : decode b_N_create 297 = .ok (.iastore, 1) := by decide +kernel
theorem d_N_create_298 : decode b_N_create 298 = .ok (.aload_n 0, 1) := by decide +kernel
theorem d_N_create_299 : decode b_N_create 299 = .ok (.getfield 23, 3) := by decide +kernel
theorem d_N_create_302 : decode b_N_create 302 = .ok (.iload 4, 2) := by decide +kernel
theorem d_N_create_304 : decode b_N_create 304 = .ok (.aload_n 0, 1) := by decide +kernel
theorem d_N_create_305 : decode b_N_create 305 = .ok (.getfield 87, 3) := by decide +kernel
theorem d_N_create_308 : decode b_N_create 308 = .ok (.iconst 0, 1) := by decide +kernel
theorem d_N_create_309 : decode b_N_create 309 = .ok (.iaload, 1) := by decide +kernel
theorem d_N_create_310 : decode b_N_create 310 = .ok (.iastore, 1) := by decide +kernel
theorem d_N_create_311 : decode b_N_create 311 = .ok (.aload_n 0, 1) := by decide +kernel
theorem d_N_create_312 : decode b_N_create 312 = .ok (.getfield 26, 3) := by decide +kernel
theorem d_N_create_315 : decode b_N_create 315 = .ok (.iload 4, 2) := by decide +kernel
theorem d_N_create_317 : decode b_N_create 317 = .ok (.aload_n 0, 1) := by decide +kernel
theorem d_N_create_318 : decode b_N_create 318 = .ok (.getfield 54, 3) := by decide +kernel
theorem d_N_create_321 : decode b_N_create 321 = .ok (.iload_n 1, 1) := by decide +kernel
theorem d_N_create_322 : decode b_N_create 322 = .ok (.iaload, 1) := by decide +kernel
theorem d_N_create_323 : decode b_N_create 323 = .ok (.iastore, 1) := by decide +kernel
theorem d_N_create_324 : decode b_N_create 324 = .ok (.aload_n 0, 1) := by decide +kernel
theorem d_N_create_325 : decode b_N_create 325 = .ok (.getfield 29, 3) := by decide +kernel
theorem d_N_create_328 : decode b_N_create 328 = .ok (.iload 4, 2) := by decide +kernel
theorem d_N_create_330 : decode b_N_create 330 = .ok (.aload_n 0, 1) := by decide +kernel
theorem d_N_create_331 : decode b_N_create 331 = .ok (.getfield 29, 3) := by decide +kernel
theorem d_N_create_334 : decode b_N_create 334 = .ok (.iload_n 2, 1) := by decide +kernel
theorem d_N_create_335 : decode b_N_create 335 = .ok (.iaload, 1) := by decide +kernel
theorem d_N_create_336 : decode b_N_create 336 = .ok (.iastore, 1) := by decide +kernel
theorem d_N_create_337 : decode b_N_create 337 = .ok (.aload_n 0, 1) := by decide +kernel
theorem d_N_create_338 : decode b_N_create 338 = .ok (.getfield 32, 3) := by decide +kernel
theorem d_N_create_341 : decode b_N_create 341 = .ok (.iload 4, 2) := by decide +kernel
theorem d_N_create_343 : decode b_N_create 343 = .ok (.iconst 0, 1) := by decide +kernel
theorem d_N_create_344 : decode b_N_create 344 = .ok (.iastore, 1) := by decide +kernel
theorem d_N_create_345 : decode b_N_create 345 = .ok (.aload_n 0, 1) := by decide +kernel
theorem d_N_create_346 : decode b_N_create 346 = .ok (.getfield 35, 3) := by decide +kernel
theorem d_N_create_349 : decode b_N_create 349 = .ok (.iload 4, 2) := by decide +kernel
theorem d_N_create_351 : decode b_N_create 351 = .ok (.aload_n 0, 1) := by decide +kernel
theorem d_N_create_352 : decode b_N_create 352 = .ok (.getfield 87, 3) := by decide +kernel
theorem d_N_create_355 : decode b_N_create 355 = .ok (.iconst 1, 1) := by decide +kernel
theorem d_N_create_356 : decode b_N_create 356 = .ok (.iaload, 1) := by decide +kernel
theorem d_N_create_357 : decode b_N_create 357 = .ok (.iload_n 3, 1) := by decide +kernel
theorem d_N_create_358 : decode b_N_create 358 = .ok (.ifCond .eq 9, 3) := by decide +kernel
theorem d_N_create_361 : decode b_N_create 361 = .ok (.sipush 511, 3) := by decide +kernel
theorem d_N_create_364 : decode b_N_create 364 = .ok (.goto 6, 3) := by decide +kernel
theorem d_N_create_367 : decode b_N_create 367 = .ok (.sipush 438, 3) := by decide +kernel
theorem d_N_create_370 : decode b_N_create 370 = .ok (.aload_n 0, 1) := by decide +kernel
theorem d_N_create_371 : decode b_N_create 371 = .ok (.getfield 35, 3) := by decide +kernel
theorem d_N_create_374 : decode b_N_create 374 = .ok (.iload_n 2, 1) := by decide +kernel
theorem d_N_create_375 : decode b_N_create 375 = .ok (.iaload, 1) := by decide +kernel
theorem d_N_create_376 : decode b_N_create 376 = .ok (.iconst (-1), 1) := by decide +kernel
theorem d_N_create_377 : decode b_N_create 377 = .ok (.ixor, 1) := by decide +kernel
theorem d_N_create_378 : decode b_N_create 378 = .ok (.iand, 1) := by decide +kernel
theorem d_N_create_379 : decode b_N_create 379 = .ok (.iconst (-1), 1) := by decide +kernel
theorem d_N_create_380 : decode b_N_create 380 = .ok (.ixor, 1) := by decide +kernel
theorem d_N_create_381 : decode b_N_create 381 = .ok (.iand, 1) := by decide +kernel
theorem d_N_create_382 : decode b_N_create 382 = .ok (.iastore, 1) := by decide +kernel
theorem d_N_create_383 : decode b_N_create 383 = .ok (.aload_n 0, 1) := by decide +kernel
theorem d_N_create_384 : decode b_N_create 384 = .ok (.getfield 38, 3) := by decide +kernel
theorem d_N_create_387 : decode b_N_create 387 = .ok (.iload 4, 2) := by decide +kernel
theorem d_N_create_389 : decode b_N_create 389 = .ok (.iconst 0, 1) := by decide +kernel
theorem d_N_create_390 : decode b_N_create 390 = .ok (.iastore, 1) := by decide +kernel
theorem d_N_create_391 : decode b_N_create 391 = .ok (.aload_n 0, 1) := by decide +kernel
theorem d_N_create_392 : decode b_N_create 392 = .ok (.getfield 41, 3) := by decide +kernel
theorem d_N_create_395 : decode b_N_create 395 = .ok (.iload 4, 2) := by decide +kernel
theorem d_N_create_397 : decode b_N_create 397 = .ok (.aload_n 0, 1) := by decide +kernel
theorem d_N_create_398 : decode b_N_create 398 = .ok (.getfield 51, 3) := by decide +kernel
theorem d_N_create_401 : decode b_N_create 401 = .ok (.iastore, 1) := by decide +kernel
theorem d_N_create_402 : decode b_N_create 402 = .ok (.aload_n 0, 1) := by decide +kernel
theorem d_N_create_403 : decode b_N_create 403 = .ok (.dup, 1) := by decide +kernel
theorem d_N_create_404 : decode b_N_create 404 = .ok (.getfield 51, 3) := by decide +kernel
theorem d_N_create_407 : decode b_N_create 407 = .ok (.iconst 1, 1) := by decide +kernel
theorem d_N_create_408 : decode b_N_create 408 = .ok (.iadd, 1) := by decide +kernel
theorem d_N_create_409 : decode b_N_create 409 = .ok (.putfield 51, 3) := by decide +kernel
theorem d_N_create_412 : decode b_N_create 412 = .ok (.aload_n 0, 1) := by decide +kernel
theorem d_N_create_413 : decode b_N_create 413 = .ok (.getfield 60, 3) := by decide +kernel
theorem d_N_create_416 : decode b_N_create 416 = .ok (.iload_n 1, 1) := by decide +kernel
theorem d_N_create_417 : decode b_N_create 417 = .ok (.aload_n 0, 1) := by decide +kernel
theorem d_N_create_418 : decode b_N_create 418 = .ok (.getfield 17, 3) := by decide +kernel
theorem d_N_create_421 : decode b_N_create 421 = .ok (.iload 4, 2) := by decide +kernel
theorem d_N_create_423 : decode b_N_create 423 = .ok (.iaload, 1) := by decide +kernel
theorem d_N_create_424 : decode b_N_create 424 = .ok (.iastore, 1) := by decide +kernel
theorem d_N_create_425 : decode b_N_create 425 = .ok (.aload_n 0, 1) := by decide +kernel
theorem d_N_create_426 : decode b_N_create 426 = .ok (.getfield 63, 3) := by decide +kernel
theorem d_N_create_429 : decode b_N_create 429 = .ok (.iload_n 1, 1) := by decide +kernel
theorem d_N_create_430 : decode b_N_create 430 = .ok (.aload_n 0, 1) := by decide +kernel
theorem d_N_create_431 : decode b_N_create 431 = .ok (.getfield 87, 3) := by decide +kernel
theorem d_N_create_434 : decode b_N_create 434 = .ok (.iconst 2, 1) := by decide +kernel
theorem d_N_create_435 : decode b_N_create 435 = .ok (.iaload, 1) := by decide +kernel
theorem d_N_create_436 : decode b_N_create 436 = .ok (.iastore, 1) := by decide +kernel
theorem d_N_create_437 : decode b_N_create 437 = .ok (.aload_n 0, 1) := by decide +kernel
theorem d_N_create_438 : decode b_N_create 438 = .ok (.getfield 66, 3) := by decide +kernel
theorem d_N_create_441 : decode b_N_create 441 = .ok (.iload_n 1, 1) := by decide +kernel
theorem d_N_create_442 : decode b_N_create 442 = .ok (.iconst 0, 1) := by decide +kernel
theorem d_N_create_443 : decode b_N_create 443 = .ok (.iastore, 1) := by decide +kernel
theorem d_N_create_444 : decode b_N_create 444 = .ok (.aload_n 0, 1) := by decide +kernel
theorem d_N_create_445 : decode b_N_create 445 = .ok (.aload_n 0, 1) := by decide +kernel
theorem d_N_create_446 : decode b_N_create 446 = .ok (.getfield 17, 3) := by decide +kernel
theorem d_N_create_449 : decode b_N_create 449 = .ok (.iload 4, 2) := by decide +kernel
theorem d_N_create_451 : decode b_N_create 451 = .ok (.iaload, 1) := by decide +kernel
theorem d_N_create_452 : decode b_N_create 452 = .ok (.invokevirtual 170, 3) := by decide +kernel
theorem d_N_create_455 : decode b_N_create 455 = .ok (.aload_n 0, 1) := by decide +kernel
theorem d_N_create_456 : decode b_N_create 456 = .ok (.iconst 0, 1) := by decide +kernel
theorem d_N_create_457 : decode b_N_create 457 = .ok (.invokevirtual 170, 3) := by decide +kernel
theorem d_N_create_460 : decode b_N_create 460 = .ok (.iconst 0, 1) := by decide +kernel
theorem d_N_create_461 : decode b_N_create 461 = .ok (.ireturn, 1) := by decide +kernel
set_option maxRecDepth 20000 in
set_option maxHeartbeats 4000000 in
theorem ct_N_create (E : mm_En) (C : Nat → Nat → Int32) {f t s : Nat} (hw : nw_P C s) (hu : nu_P C f t) (hr : C 204 26 = nI 0) : mm_MT E K_N_create [.ref 204, .int (nI f)] (hp_H C) (mm_D (some (.int (nE_R C f t s).1)) (nE_R C f t s).2) := by
  obtain ⟨hm, hp, hg, hl, es, s4, hroot⟩ := hw
  obtain ⟨hf, ht, et, hus⟩ := hu
  obtain ⟨x, ex⟩ : ∃ x, x = C 228 0 := ⟨_, rfl⟩
  obtain ⟨md, emd⟩ : ∃ x, x = C 228 1 := ⟨_, rfl⟩
  obtain ⟨om, eom⟩ : ∃ x, x = C 228 2 := ⟨_, rfl⟩
  refine mm_mtL (by decide) (by rfl) (Nat.le_of_ble_eq_true rfl) rfl ?_
  refine ev_aload_n (pc := 0) d_N_create_0 rfl rfl (by first | rfl | exact mm_rk_rf _) ?_
  refine ev_gR (pc := 1) sh_N (by rfl) fl_N_54 d_N_create_1 ?_
  refine ev_iload_n (pc := 4) d_N_create_4 rfl rfl ?_
  refine ev_rIN (pc := 5) sh_N_user (by omega) (by decide) d_N_create_5 ?_
  refine ev_if_ge (pc := 6) (tgt := 11) d_N_create_6 (by decide) (fun ha => ?_) (fun ha => ?_)
  rotate_left
  · have ha' : C 217 f < 0 := Int32.not_le.mp ha
    rw [nE_R, if_pos ha']
    refine ev_iconst (pc := 9) (v := -1) d_N_create_9 rfl ?_
    exact ev_iret (pc := 10) d_N_create_10 rfl (Nat.zero_le _) (Nat.zero_le _) ⟨rfl, rfl⟩
  have ha' : ¬ C 217 f < 0 := Int32.not_lt.mpr ha
  obtain ⟨u4, eu⟩ := hus ha'
  obtain ⟨u, eu0⟩ : ∃ u, u = nus C f := ⟨_, rfl⟩
  have eu1 : C 217 f = nI u := by rw [eu0]; exact eu
  have hu4 : u < 4 := by rw [eu0]; exact u4
  rw [nE_R, if_neg ha', ← eu0, ← ex, ← emd, ← eom]
  refine ev_aload_n (pc := 11) d_N_create_11 rfl rfl (by first | rfl | exact mm_rk_rf _) ?_
  refine ev_gR (pc := 12) sh_N (by rfl) fl_N_63 d_N_create_12 ?_
  refine ev_iload_n (pc := 15) d_N_create_15 rfl rfl ?_
  refine ev_rIN (pc := 16) sh_N_openMode (by omega) (by decide) d_N_create_16 ?_
  refine ev_if_lt (pc := 17) (tgt := 23) d_N_create_17 (by decide) (fun hb => ?_) (fun hb => ?_)
  rotate_left
  · rw [if_pos hb]
    refine ev_bipush (pc := 20) (v := -8) d_N_create_20 (by decide) ?_
    exact ev_iret (pc := 22) d_N_create_22 rfl (Nat.zero_le _) (Nat.zero_le _) ⟨rfl, rfl⟩
  rw [if_neg (fun z => z hb)]
  refine ev_aload_n (pc := 23) d_N_create_23 rfl rfl (by first | rfl | exact mm_rk_rf _) ?_
  refine ev_iload_n (pc := 24) d_N_create_24 rfl rfl ?_
  refine ev_cV (pc := 25) (ct_N_nodeOf E C hm hf ht et) cl_N_167 jv_N_nodeOf ⟨(Nat.le_of_ble_eq_true rfl), (Nat.le_of_ble_eq_true rfl)⟩ rfl sh_N rfl (Nat.le_of_ble_eq_true rfl) d_N_create_25 ⟨Nat.zero_le _, Nat.zero_le _⟩ ?_
  cases hn : nc_i C t (C 219 f) with
  | none =>
    rw [show oI none = -1 from rfl]
    refine ev_istore_n (pc := 28) d_N_create_28 rfl (Nat.le_of_ble_eq_true rfl) rfl ?_
    try dsimp only [List.set]
    refine ev_iload_n (pc := 29) d_N_create_29 rfl rfl ?_
    refine ev_if_ge (pc := 30) (tgt := 36) d_N_create_30 (by decide) (fun hb => ?_) (fun hb => ?_)
    · exact absurd hb (by decide)
    refine ev_bipush (pc := 33) (v := -13) d_N_create_33 (by decide) ?_
    exact ev_iret (pc := 35) d_N_create_35 rfl (Nat.zero_le _) (Nat.zero_le _) ⟨rfl, rfl⟩
  | some k =>
    rw [show oI (some k) = nI k from rfl]
    obtain ⟨v1, v2, v3, v4⟩ := nc_v ht hm hn
    simp only []
    refine ev_istore_n (pc := 28) d_N_create_28 rfl (Nat.le_of_ble_eq_true rfl) rfl ?_
    try dsimp only [List.set]
    refine ev_iload_n (pc := 29) d_N_create_29 rfl rfl ?_
    refine ev_if_ge (pc := 30) (tgt := 36) d_N_create_30 (by decide) (fun hb => ?_) (fun hb => ?_)
    rotate_left
    · exact absurd (nI_pos' (by omega)) hb
    obtain ⟨R, eR⟩ : ∃ R, R = (if ¬ nh_cr C f u k x md om = 0 then (nh_cr C f u k x md om, C) else if ¬ nk_n C k = 8 ∧ ¬ nd_n C 20 k = 6 ∧ ¬ nm C 0 = 20 ∧ nb_n C s + (nn_n C s k + 1) ≤ 64 then (0, nE_C C f k s x md om) else (-11, C)) := ⟨_, rfl⟩
    rw [← eR]
    have hR0 : ∀ h, nh_cr C f u k x md om = h → ¬ h = 0 → R = (h, C) := by
      intro h h1 h2
      rw [eR, h1, if_pos h2]
    refine ev_aload_n (pc := 36) d_N_create_36 rfl rfl (by first | rfl | exact mm_rk_rf _) ?_
    refine ev_iload_n (pc := 37) d_N_create_37 rfl rfl ?_
    refine ev_cV (pc := 38) (ct_N_isDirectory E C v1) cl_N_174 jv_N_isDirectory ⟨(Nat.le_of_ble_eq_true rfl), (Nat.le_of_ble_eq_true rfl)⟩ rfl sh_N rfl (Nat.le_of_ble_eq_true rfl) d_N_create_38 ⟨Nat.zero_le _, Nat.zero_le _⟩ ?_
    refine ev_if_ne (pc := 41) (tgt := 47) d_N_create_41 (by decide) (fun h1 => ?_) (fun h1 => ?_)
    rotate_left
    · rw [b2_0, Classical.not_not] at h1
      rw [hR0 (-4) (by rw [nh_cr, if_pos h1]) (by decide)]
      refine ev_bipush (pc := 44) (v := -4) d_N_create_44 (by decide) ?_
      exact ev_iret (pc := 46) d_N_create_46 rfl (Nat.zero_le _) (Nat.zero_le _) ⟨rfl, rfl⟩
    rw [b2_0, Classical.not_not] at h1
    refine ev_aload_n (pc := 47) d_N_create_47 rfl rfl (by first | rfl | exact mm_rk_rf _) ?_
    refine ev_gR (pc := 48) sh_N (by rfl) fl_N_57 d_N_create_48 ?_
    refine ev_iload_n (pc := 51) d_N_create_51 rfl rfl ?_
    refine ev_rIN (pc := 52) sh_N_tree (by omega) (by decide) d_N_create_52 ?_
    refine ev_if_eq (pc := 53) (tgt := 59) d_N_create_53 (by decide) (fun h2 => ?_) (fun h2 => ?_)
    rotate_left
    · rw [hR0 (-9) (by rw [nh_cr, if_neg h1, if_pos h2]) (by decide)]
      refine ev_bipush (pc := 56) (v := -9) d_N_create_56 (by decide) ?_
      exact ev_iret (pc := 58) d_N_create_58 rfl (Nat.zero_le _) (Nat.zero_le _) ⟨rfl, rfl⟩
    have t0 : t = 0 := by
      have z' : nI t = nI 0 := et.symm.trans h2
      rwa [nI_eq (by omega) (by decide)] at z'
    subst t0
    obtain ⟨G, eG⟩ : ∃ G : Prop, G = ((¬ x < 1 ∧ ¬ 99 < x) ∧ ¬ md < 0 ∧ ¬ 4095 < md ∧ ((om &&& -84) = 0 ∧ ¬ 3 ≤ (om &&& 3)) ∧ ((md &&& 2048) = 0 ∨ om = 0)) := ⟨_, rfl⟩
    have wrong : ¬ G → R = (-7, C) := by
      intro h
      rw [eG] at h
      exact hR0 (-7) (by rw [nh_cr, if_neg h1, if_neg (fun z => z h2), if_pos h]) (by decide)
    have hcr : G → nh_cr C f u k x md om = (if nY C u k 2 then (if nh_i C k x = none then 0 else -6) else -5) := by
      intro h
      rw [eG] at h
      rw [nh_cr, if_neg h1, if_neg (fun z => z h2), if_neg (fun z => z h)]
    obtain ⟨m20, em⟩ := hm 0 (by decide)
    have hv2 : k < nm C 0 := by
      have := v3.2
      rw [v2] at this
      omega
    have full : nh_cr C f u k x md om = 0 → ¬ (¬ nk_n C k = 8 ∧ ¬ nd_n C 20 k = 6 ∧ ¬ nm C 0 = 20 ∧ nb_n C s + (nn_n C s k + 1) ≤ 64) → R = (-11, C) := by
      intro h h2
      rw [eR, if_neg (fun z => z h), if_neg h2]
    have t148 : G → ∀ c3 : Int32, (c3 = 0 ↔ (md &&& 2048) = 0) → ev_At E K_N_create 148 [some (.ref 204), some (.int (nI f)), some (.int (nI k)), some (.int c3), none] [] (hp_H C) 0 0 (mm_D (some (.int R.1)) R.2) := by
      intro hG c3 hc3
      have hh := hcr hG
      refine ev_aload_n (pc := 148) d_N_create_148 rfl rfl (by first | rfl | exact mm_rk_rf _) ?_
      refine ev_aload_n (pc := 149) d_N_create_149 rfl rfl (by first | rfl | exact mm_rk_rf _) ?_
      refine ev_gR (pc := 150) sh_N (by rfl) fl_N_54 d_N_create_150 ?_
      refine ev_iload_n (pc := 153) d_N_create_153 rfl rfl ?_
      refine ev_rIN (pc := 154) sh_N_user (by omega) (by decide) d_N_create_154 ?_
      rw [eu1]
      refine ev_iload_n (pc := 155) d_N_create_155 rfl rfl ?_
      refine ev_iconst (pc := 156) (v := 2) d_N_create_156 rfl ?_
      refine ev_cV (pc := 157) (ct_N_has E C hg hu4 v1 2) cl_N_177 jv_N_has ⟨(Nat.le_of_ble_eq_true rfl), (Nat.le_of_ble_eq_true rfl)⟩ rfl sh_N rfl (Nat.le_of_ble_eq_true rfl) d_N_create_157 ⟨Nat.zero_le _, Nat.zero_le _⟩ ?_
      refine ev_if_ne (pc := 160) (tgt := 166) d_N_create_160 (by decide) (fun h3 => ?_) (fun h3 => ?_)
      rotate_left
      · rw [b2_0] at h3
        rw [hR0 (-5) (by rw [hh, if_neg h3]) (by decide)]
        refine ev_bipush (pc := 163) (v := -5) d_N_create_163 (by decide) ?_
        exact ev_iret (pc := 165) d_N_create_165 rfl (Nat.zero_le _) (Nat.zero_le _) ⟨rfl, rfl⟩
      rw [b2_0, Classical.not_not] at h3
      rw [if_pos h3] at hh
      refine ev_aload_n (pc := 166) d_N_create_166 rfl rfl (by first | rfl | exact mm_rk_rf _) ?_
      refine ev_iload_n (pc := 167) d_N_create_167 rfl rfl ?_
      refine ev_aload_n (pc := 168) d_N_create_168 rfl rfl (by first | rfl | exact mm_rk_rf _) ?_
      refine ev_gR (pc := 169) sh_N (by rfl) fl_N_87 d_N_create_169 ?_
      refine ev_iconst (pc := 172) (v := nI 0) d_N_create_172 rfl ?_
      refine ev_rIN (pc := 173) sh_N_n (by omega) (by decide) d_N_create_173 ?_
      rw [← ex]
      refine ev_cV (pc := 174) (ct_N_child E C hm v1 x) cl_N_181 jv_N_child ⟨(Nat.le_of_ble_eq_true rfl), (Nat.le_of_ble_eq_true rfl)⟩ rfl sh_N rfl (Nat.le_of_ble_eq_true rfl) d_N_create_174 ⟨Nat.zero_le _, Nat.zero_le _⟩ ?_
      refine ev_if_lt (pc := 177) (tgt := 183) d_N_create_177 (by decide) (fun h4 => ?_) (fun h4 => ?_)
      rotate_left
      · rw [oI_neg (fun j hj => Nat.lt_trans (nh_lt hm v1 hj) (by decide))] at h4
        rw [hR0 (-6) (by rw [hh, if_neg h4]) (by decide)]
        refine ev_bipush (pc := 180) (v := -6) d_N_create_180 (by decide) ?_
        exact ev_iret (pc := 182) d_N_create_182 rfl (Nat.zero_le _) (Nat.zero_le _) ⟨rfl, rfl⟩
      rw [oI_neg (fun j hj => Nat.lt_trans (nh_lt hm v1 hj) (by decide))] at h4
      rw [if_pos h4] at hh
      have hkc : nk_n C k ≤ 20 := Nat.le_trans (fx_c_le _ _ _) (by have := (hm (k / 20) (by omega)).1; omega)
      have hkd := nd_le C 20 k
      have hnn : nn_n C s k ≤ 21 := by
        have h1 := n1_le (no_P C s (C 215 k))
        have h2 := nn_le C s 20 k
        unfold nn_n
        omega
      refine ev_aload_n (pc := 183) d_N_create_183 rfl rfl (by first | rfl | exact mm_rk_rf _) ?_
      refine ev_iload_n (pc := 184) d_N_create_184 rfl rfl ?_
      refine ev_cV (pc := 185) (ct_N_children E C hm v1) cl_N_205 jv_N_children ⟨(Nat.le_of_ble_eq_true rfl), (Nat.le_of_ble_eq_true rfl)⟩ rfl sh_N rfl (Nat.le_of_ble_eq_true rfl) d_N_create_185 ⟨Nat.zero_le _, Nat.zero_le _⟩ ?_
      refine ev_bipush (pc := 188) (v := 8) d_N_create_188 (by decide) ?_
      refine ev_icmp_eq (pc := 190) (tgt := 228) d_N_create_190 (by decide) (fun h5 => ?_) (fun h5 => ?_)
      · have h5' : nk_n C k = 8 := (nI_eq (by omega) (by decide)).mp (show nI (nk_n C k) = nI 8 from h5)
        rw [full hh (fun z => z.1 h5')]
        refine ev_bipush (pc := 228) (v := -11) d_N_create_228 (by decide) ?_
        exact ev_iret (pc := 230) d_N_create_230 rfl (Nat.zero_le _) (Nat.zero_le _) ⟨rfl, rfl⟩
      have h5' : ¬ nk_n C k = 8 := fun z => h5 (by rw [z]; rfl)
      refine ev_aload_n (pc := 193) d_N_create_193 rfl rfl (by first | rfl | exact mm_rk_rf _) ?_
      refine ev_iload_n (pc := 194) d_N_create_194 rfl rfl ?_
      refine ev_cV (pc := 195) (ct_N_depth E C hm hp v3) cl_N_208 jv_N_depth ⟨(Nat.le_of_ble_eq_true rfl), (Nat.le_of_ble_eq_true rfl)⟩ rfl sh_N rfl (Nat.le_of_ble_eq_true rfl) d_N_create_195 ⟨Nat.zero_le _, Nat.zero_le _⟩ ?_
      refine ev_bipush (pc := 198) (v := 6) d_N_create_198 (by decide) ?_
      refine ev_icmp_eq (pc := 200) (tgt := 228) d_N_create_200 (by decide) (fun h6 => ?_) (fun h6 => ?_)
      · have h6' : nd_n C 20 k = 6 := (nI_eq (by omega) (by decide)).mp (show nI (nd_n C 20 k) = nI 6 from h6)
        rw [full hh (fun z => z.2.1 h6')]
        refine ev_bipush (pc := 228) (v := -11) d_N_create_228 (by decide) ?_
        exact ev_iret (pc := 230) d_N_create_230 rfl (Nat.zero_le _) (Nat.zero_le _) ⟨rfl, rfl⟩
      have h6' : ¬ nd_n C 20 k = 6 := fun z => h6 (by rw [z]; rfl)
      refine ev_aload_n (pc := 203) d_N_create_203 rfl rfl (by first | rfl | exact mm_rk_rf _) ?_
      refine ev_gR (pc := 204) sh_N (by rfl) fl_N_13 d_N_create_204 ?_
      refine ev_iconst (pc := 207) (v := nI 0) d_N_create_207 rfl ?_
      refine ev_rIN (pc := 208) sh_N_many (by omega) (by decide) d_N_create_208 ?_
      rw [em]
      refine ev_bipush (pc := 209) (v := 20) d_N_create_209 (by decide) ?_
      refine ev_icmp_eq (pc := 211) (tgt := 228) d_N_create_211 (by decide) (fun h7 => ?_) (fun h7 => ?_)
      · have h7' : nm C 0 = 20 := (nI_eq (by omega) (by decide)).mp (show nI (nm C 0) = nI 20 from h7)
        rw [full hh (fun z => z.2.2.1 h7')]
        refine ev_bipush (pc := 228) (v := -11) d_N_create_228 (by decide) ?_
        exact ev_iret (pc := 230) d_N_create_230 rfl (Nat.zero_le _) (Nat.zero_le _) ⟨rfl, rfl⟩
      have h7' : ¬ nm C 0 = 20 := fun z => h7 (by rw [z]; rfl)
      refine ev_aload_n (pc := 214) d_N_create_214 rfl rfl (by first | rfl | exact mm_rk_rf _) ?_
      refine ev_aload_n (pc := 215) d_N_create_215 rfl rfl (by first | rfl | exact mm_rk_rf _) ?_
      refine ev_iload_n (pc := 216) d_N_create_216 rfl rfl ?_
      refine ev_cV (pc := 217) (ct_N_needed E C hm hp es s4 v3) cl_N_196 jv_N_needed ⟨(Nat.le_of_ble_eq_true rfl), (Nat.le_of_ble_eq_true rfl)⟩ rfl sh_N rfl (Nat.le_of_ble_eq_true rfl) d_N_create_217 ⟨Nat.zero_le _, Nat.zero_le _⟩ ?_
      refine ev_iconst (pc := 220) (v := 1) d_N_create_220 rfl ?_
      refine ev_iadd (pc := 221) d_N_create_221 ?_
      rw [nI_1]
      refine ev_cV (pc := 222) (ct_N_fits E C hm es s4 (m := nn_n C s k + 1) (by omega)) cl_N_199 jv_N_fits ⟨(Nat.le_of_ble_eq_true rfl), (Nat.le_of_ble_eq_true rfl)⟩ rfl sh_N rfl (Nat.le_of_ble_eq_true rfl) d_N_create_222 ⟨Nat.zero_le _, Nat.zero_le _⟩ ?_
      refine ev_if_ne (pc := 225) (tgt := 231) d_N_create_225 (by decide) (fun h8 => ?_) (fun h8 => ?_)
      rotate_left
      · rw [b2_0] at h8
        rw [full hh (fun z => h8 z.2.2.2)]
        refine ev_bipush (pc := 228) (v := -11) d_N_create_228 (by decide) ?_
        exact ev_iret (pc := 230) d_N_create_230 rfl (Nat.zero_le _) (Nat.zero_le _) ⟨rfl, rfl⟩
      rw [b2_0, Classical.not_not] at h8
      rw [eR, if_neg (fun z => z hh), if_pos ⟨h5', h6', h7', h8⟩]
      obtain ⟨c, ec⟩ : ∃ c, c = nm C 0 := ⟨_, rfl⟩
      have hc20 : c < 20 := by omega
      have hkc2 : k < c := by omega
      rw [nE_C, ← ec]
      refine ev_aload_n (pc := 231) d_N_create_231 rfl rfl (by first | rfl | exact mm_rk_rf _) ?_
      refine ev_iload_n (pc := 232) d_N_create_232 rfl rfl ?_
      refine ev_cVv (pc := 233) (ct_N_change E C hm hp es s4 v3) cl_N_202 jv_N_change ⟨(Nat.le_of_ble_eq_true rfl), (Nat.le_of_ble_eq_true rfl)⟩ rfl sh_N rfl (Nat.le_of_ble_eq_true rfl) d_N_create_233 ⟨Nat.zero_le _, Nat.zero_le _⟩ ?_
      have n6 : nx_C C s k 206 0 = nI c := by rw [nx_Cc C s k (by decide) (by decide), em, ec]
      have n12 : nx_C C s k 204 12 = C 204 12 := nx_C4 C s k (by decide)
      have n28 : ∀ j, nx_C C s k 228 j = C 228 j := fun j => by rw [nx_Cc C s k (by decide) (by decide)]
      have n26 : nx_C C s k 204 26 = nI 0 := by rw [nx_C4 C s k (by decide)]; exact hr
      generalize nx_C C s k = D at n6 n12 n28 n26 ⊢
      refine ev_aload_n (pc := 236) d_N_create_236 rfl rfl (by first | rfl | exact mm_rk_rf _) ?_
      refine ev_gR (pc := 237) sh_N (by rfl) fl_N_32 d_N_create_237 ?_
      refine ev_iload_n (pc := 240) d_N_create_240 rfl rfl ?_
      refine ev_dup2 (pc := 241) d_N_create_241 (by rfl) (by rfl) ?_
      refine ev_rIN (pc := 242) sh_N_version (by omega) (by decide) d_N_create_242 ?_
      refine ev_iconst (pc := 243) (v := 1) d_N_create_243 rfl ?_
      refine ev_iadd (pc := 244) d_N_create_244 ?_
      refine ev_wIN (pc := 245) sh_N_version (by omega) (by decide) d_N_create_245 ?_
      refine ev_aload_n (pc := 246) d_N_create_246 rfl rfl (by first | rfl | exact mm_rk_rf _) ?_
      refine ev_gR (pc := 247) sh_N (by rfl) fl_N_13 d_N_create_247 ?_
      refine ev_iconst (pc := 250) (v := nI 0) d_N_create_250 rfl ?_
      refine ev_rIN (pc := 251) sh_N_many (by omega) (by decide) d_N_create_251 ?_
      rw [cs_ne _ _ (by omega), n6]
      refine ev_istore (pc := 252) d_N_create_252 (Nat.le_of_ble_eq_true rfl) rfl ?_
      try dsimp only [List.set]
      refine ev_aload_n (pc := 254) d_N_create_254 rfl rfl (by first | rfl | exact mm_rk_rf _) ?_
      refine ev_gR (pc := 255) sh_N (by rfl) fl_N_13 d_N_create_255 ?_
      refine ev_iconst (pc := 258) (v := nI 0) d_N_create_258 rfl ?_
      refine ev_dup2 (pc := 259) d_N_create_259 (by rfl) (by rfl) ?_
      refine ev_rIN (pc := 260) sh_N_many (by omega) (by decide) d_N_create_260 ?_
      rw [cs_ne _ _ (by omega), n6]
      refine ev_iconst (pc := 261) (v := 1) d_N_create_261 rfl ?_
      refine ev_iadd (pc := 262) d_N_create_262 ?_
      rw [nI_1]
      refine ev_wIN (pc := 263) sh_N_many (by omega) (by decide) d_N_create_263 ?_
      refine ev_aload_n (pc := 264) d_N_create_264 rfl rfl (by first | rfl | exact mm_rk_rf _) ?_
      refine ev_gR (pc := 265) sh_N (by rfl) fl_N_17 d_N_create_265 ?_
      refine ev_iload (pc := 268) d_N_create_268 rfl ?_
      refine ev_aload_n (pc := 270) d_N_create_270 rfl rfl (by first | rfl | exact mm_rk_rf _) ?_
      refine ev_gI (pc := 271) sh_N (by rfl) fl_N_47 d_N_create_271 ?_
      rw [cs_ne _ _ (by omega), cs_ne _ _ (by omega)]
      refine ev_wIN (pc := 274) sh_N_path (by omega) (by decide) d_N_create_274 ?_
      refine ev_aload_n (pc := 275) d_N_create_275 rfl rfl (by first | rfl | exact mm_rk_rf _) ?_
      refine ev_dup (pc := 276) d_N_create_276 (by rfl) ?_
      refine ev_gI (pc := 277) sh_N (by rfl) fl_N_47 d_N_create_277 ?_
      rw [cs_ne _ _ (by omega), cs_ne _ _ (by omega), cs_ne _ _ (by omega)]
      refine ev_iconst (pc := 280) (v := 1) d_N_create_280 rfl ?_
      refine ev_iadd (pc := 281) d_N_create_281 ?_
      refine ev_pI (pc := 282) sh_N (by rfl) fl_N_47 fw_9_12 (by rfl) d_N_create_282 ?_
      refine ev_aload_n (pc := 285) d_N_create_285 rfl rfl (by first | rfl | exact mm_rk_rf _) ?_
      refine ev_gR (pc := 286) sh_N (by rfl) fl_N_20 d_N_create_286 ?_
      refine ev_iload (pc := 289) d_N_create_289 rfl ?_
      refine ev_aload_n (pc := 291) d_N_create_291 rfl rfl (by first | rfl | exact mm_rk_rf _) ?_
      refine ev_gR (pc := 292) sh_N (by rfl) fl_N_17 d_N_create_292 ?_
      refine ev_iload_n (pc := 295) d_N_create_295 rfl rfl ?_
      refine ev_rIN (pc := 296) sh_N_path (by omega) (by decide) d_N_create_296 ?_
      rw [cs_ne _ _ (by omega), cs_ne _ _ (by omega), cs_ne _ _ (by omega), cs_ne _ _ (by omega)]
      refine ev_wIN (pc := 297) sh_N_above (by omega) (by decide) d_N_create_297 ?_
      refine ev_aload_n (pc := 298) d_N_create_298 rfl rfl (by first | rfl | exact mm_rk_rf _) ?_
      refine ev_gR (pc := 299) sh_N (by rfl) fl_N_23 d_N_create_299 ?_
      refine ev_iload (pc := 302) d_N_create_302 rfl ?_
      refine ev_aload_n (pc := 304) d_N_create_304 rfl rfl (by first | rfl | exact mm_rk_rf _) ?_
      refine ev_gR (pc := 305) sh_N (by rfl) fl_N_87 d_N_create_305 ?_
      refine ev_iconst (pc := 308) (v := nI 0) d_N_create_308 rfl ?_
      refine ev_rIN (pc := 309) sh_N_n (by omega) (by decide) d_N_create_309 ?_
      rw [cs_ne _ _ (by omega), cs_ne _ _ (by omega), cs_ne _ _ (by omega), cs_ne _ _ (by omega), cs_ne _ _ (by omega)]
      rw [n28, ← ex]
      refine ev_wIN (pc := 310) sh_N_title (by omega) (by decide) d_N_create_310 ?_
      refine ev_aload_n (pc := 311) d_N_create_311 rfl rfl (by first | rfl | exact mm_rk_rf _) ?_
      refine ev_gR (pc := 312) sh_N (by rfl) fl_N_26 d_N_create_312 ?_
      refine ev_iload (pc := 315) d_N_create_315 rfl ?_
      refine ev_aload_n (pc := 317) d_N_create_317 rfl rfl (by first | rfl | exact mm_rk_rf _) ?_
      refine ev_gR (pc := 318) sh_N (by rfl) fl_N_54 d_N_create_318 ?_
      refine ev_iload_n (pc := 321) d_N_create_321 rfl rfl ?_
      refine ev_rIN (pc := 322) sh_N_user (by omega) (by decide) d_N_create_322 ?_
      rw [cs_ne _ _ (by omega), cs_ne _ _ (by omega), cs_ne _ _ (by omega), cs_ne _ _ (by omega), cs_ne _ _ (by omega), cs_ne _ _ (by omega)]
      refine ev_wIN (pc := 323) sh_N_owner (by omega) (by decide) d_N_create_323 ?_
      refine ev_aload_n (pc := 324) d_N_create_324 rfl rfl (by first | rfl | exact mm_rk_rf _) ?_
      refine ev_gR (pc := 325) sh_N (by rfl) fl_N_29 d_N_create_325 ?_
      refine ev_iload (pc := 328) d_N_create_328 rfl ?_
      refine ev_aload_n (pc := 330) d_N_create_330 rfl rfl (by first | rfl | exact mm_rk_rf _) ?_
      refine ev_gR (pc := 331) sh_N (by rfl) fl_N_29 d_N_create_331 ?_
      refine ev_iload_n (pc := 334) d_N_create_334 rfl rfl ?_
      refine ev_rIN (pc := 335) sh_N_group (by omega) (by decide) d_N_create_335 ?_
      rw [cs_ne _ _ (by omega), cs_ne _ _ (by omega), cs_ne _ _ (by omega), cs_ne _ _ (by omega), cs_ne _ _ (by omega), cs_ne _ _ (by omega), cs_ne _ _ (by omega)]
      refine ev_wIN (pc := 336) sh_N_group (by omega) (by decide) d_N_create_336 ?_
      refine ev_aload_n (pc := 337) d_N_create_337 rfl rfl (by first | rfl | exact mm_rk_rf _) ?_
      refine ev_gR (pc := 338) sh_N (by rfl) fl_N_32 d_N_create_338 ?_
      refine ev_iload (pc := 341) d_N_create_341 rfl ?_
      refine ev_iconst (pc := 343) (v := 0) d_N_create_343 rfl ?_
      refine ev_wIN (pc := 344) sh_N_version (by omega) (by decide) d_N_create_344 ?_
      refine ev_aload_n (pc := 345) d_N_create_345 rfl rfl (by first | rfl | exact mm_rk_rf _) ?_
      refine ev_gR (pc := 346) sh_N (by rfl) fl_N_35 d_N_create_346 ?_
      refine ev_iload (pc := 349) d_N_create_349 rfl ?_
      refine ev_aload_n (pc := 351) d_N_create_351 rfl rfl (by first | rfl | exact mm_rk_rf _) ?_
      refine ev_gR (pc := 352) sh_N (by rfl) fl_N_87 d_N_create_352 ?_
      refine ev_iconst (pc := 355) (v := nI 1) d_N_create_355 rfl ?_
      refine ev_rIN (pc := 356) sh_N_n (by omega) (by decide) d_N_create_356 ?_
      rw [cs_ne _ _ (by omega), cs_ne _ _ (by omega), cs_ne _ _ (by omega), cs_ne _ _ (by omega), cs_ne _ _ (by omega), cs_ne _ _ (by omega), cs_ne _ _ (by omega), cs_ne _ _ (by omega), cs_ne _ _ (by omega)]
      rw [n28, ← emd]
      have t370 : ∀ w : Int32, w = (if (md &&& 2048) = 0 then (438 : Int32) else 511) → ev_At E K_N_create 370 [some (.ref 204), some (.int (nI f)), some (.int (nI k)), some (.int c3), some (.int (nI c))] [.int w, .int md, .int (nI c), .ref 213] (hp_H (cs_C (cs_C (cs_C (cs_C (cs_C (cs_C (cs_C (cs_C (cs_C D 212 k (D 212 k + 1)) 206 0 (nI (c + 1))) 207 c (D 204 12)) 204 12 (D 204 12 + 1)) 208 c (D 207 k)) 209 c x) 210 c (D 217 f)) 211 c (D 211 k)) 212 c 0)) 0 0 (mm_D (some (.int (0, nE_F (nE_N D f k c x md) f (C 204 12) om).1)) (0, nE_F (nE_N D f k c x md) f (C 204 12) om).2) := by
        intro w hw
        refine ev_aload_n (pc := 370) d_N_create_370 rfl rfl (by first | rfl | exact mm_rk_rf _) ?_
        refine ev_gR (pc := 371) sh_N (by rfl) fl_N_35 d_N_create_371 ?_
        refine ev_iload_n (pc := 374) d_N_create_374 rfl rfl ?_
        refine ev_rIN (pc := 375) sh_N_mode (by omega) (by decide) d_N_create_375 ?_
        rw [cs_ne _ _ (by omega), cs_ne _ _ (by omega), cs_ne _ _ (by omega), cs_ne _ _ (by omega), cs_ne _ _ (by omega), cs_ne _ _ (by omega), cs_ne _ _ (by omega), cs_ne _ _ (by omega), cs_ne _ _ (by omega)]
        refine ev_iconst (pc := 376) (v := -1) d_N_create_376 rfl ?_
        refine ev_ixor (pc := 377) d_N_create_377 ?_
        refine ev_iand (pc := 378) d_N_create_378 ?_
        refine ev_iconst (pc := 379) (v := -1) d_N_create_379 rfl ?_
        refine ev_ixor (pc := 380) d_N_create_380 ?_
        refine ev_iand (pc := 381) d_N_create_381 ?_
        refine ev_wIN (pc := 382) sh_N_mode (by omega) (by decide) d_N_create_382 ?_
        refine ev_aload_n (pc := 383) d_N_create_383 rfl rfl (by first | rfl | exact mm_rk_rf _) ?_
        refine ev_gR (pc := 384) sh_N (by rfl) fl_N_38 d_N_create_384 ?_
        refine ev_iload (pc := 387) d_N_create_387 rfl ?_
        refine ev_iconst (pc := 389) (v := 0) d_N_create_389 rfl ?_
        refine ev_wIN (pc := 390) sh_N_length (by omega) (by decide) d_N_create_390 ?_
        refine ev_aload_n (pc := 391) d_N_create_391 rfl rfl (by first | rfl | exact mm_rk_rf _) ?_
        refine ev_gR (pc := 392) sh_N (by rfl) fl_N_41 d_N_create_392 ?_
        refine ev_iload (pc := 395) d_N_create_395 rfl ?_
        refine ev_aload_n (pc := 397) d_N_create_397 rfl rfl (by first | rfl | exact mm_rk_rf _) ?_
        refine ev_gI (pc := 398) sh_N (by rfl) fl_N_51 d_N_create_398 ?_
        rw [cs_ne _ _ (by omega), cs_ne _ _ (by omega), cs_ne _ _ (by omega), cs_ne _ _ (by omega), cs_ne _ _ (by omega), cs_ne _ _ (by omega), cs_ne _ _ (by omega), cs_ne _ _ (by omega), cs_ne _ _ (by omega), cs_ne _ _ (by omega), cs_ne _ _ (by omega)]
        refine ev_wIN (pc := 401) sh_N_block (by omega) (by decide) d_N_create_401 ?_
        refine ev_aload_n (pc := 402) d_N_create_402 rfl rfl (by first | rfl | exact mm_rk_rf _) ?_
        refine ev_dup (pc := 403) d_N_create_403 (by rfl) ?_
        refine ev_gI (pc := 404) sh_N (by rfl) fl_N_51 d_N_create_404 ?_
        rw [cs_ne _ _ (by omega), cs_ne _ _ (by omega), cs_ne _ _ (by omega), cs_ne _ _ (by omega), cs_ne _ _ (by omega), cs_ne _ _ (by omega), cs_ne _ _ (by omega), cs_ne _ _ (by omega), cs_ne _ _ (by omega), cs_ne _ _ (by omega), cs_ne _ _ (by omega), cs_ne _ _ (by omega)]
        refine ev_iconst (pc := 407) (v := 1) d_N_create_407 rfl ?_
        refine ev_iadd (pc := 408) d_N_create_408 ?_
        refine ev_pI (pc := 409) sh_N (by rfl) fl_N_51 fw_9_13 (by rfl) d_N_create_409 ?_
        refine ev_eq rfl rfl rfl (show _ = hp_H (nE_N D f k c x md) by rw [hw]; rfl) rfl rfl ?_
        have w7 : nE_N D f k c x md 207 c = C 204 12 := by
          unfold nE_N
          rw [cs_ne _ _ (by omega), cs_ne _ _ (by omega), cs_ne _ _ (by omega), cs_ne _ _ (by omega), cs_ne _ _ (by omega), cs_ne _ _ (by omega), cs_ne _ _ (by omega), cs_ne _ _ (by omega), cs_ne _ _ (by omega), cs_ne _ _ (by omega), cs_at]
          exact n12
        have w28 : nE_N D f k c x md 228 2 = om := by
          unfold nE_N
          rw [cs_ne _ _ (by omega), cs_ne _ _ (by omega), cs_ne _ _ (by omega), cs_ne _ _ (by omega), cs_ne _ _ (by omega), cs_ne _ _ (by omega), cs_ne _ _ (by omega), cs_ne _ _ (by omega), cs_ne _ _ (by omega), cs_ne _ _ (by omega), cs_ne _ _ (by omega), cs_ne _ _ (by omega), cs_ne _ _ (by omega), n28]
          exact eom.symm
        have w26 : nE_N D f k c x md 204 26 = nI 0 := by
          unfold nE_N
          rw [cs_ne _ _ (by omega), cs_ne _ _ (by omega), cs_ne _ _ (by omega), cs_ne _ _ (by omega), cs_ne _ _ (by omega), cs_ne _ _ (by omega), cs_ne _ _ (by omega), cs_ne _ _ (by omega), cs_ne _ _ (by omega), cs_ne _ _ (by omega), cs_ne _ _ (by omega), cs_ne _ _ (by omega), cs_ne _ _ (by omega)]
          exact n26
        generalize nE_N D f k c x md = F at w7 w28 w26 ⊢
        refine ev_aload_n (pc := 412) d_N_create_412 rfl rfl (by first | rfl | exact mm_rk_rf _) ?_
        refine ev_gR (pc := 413) sh_N (by rfl) fl_N_60 d_N_create_413 ?_
        refine ev_iload_n (pc := 416) d_N_create_416 rfl rfl ?_
        refine ev_aload_n (pc := 417) d_N_create_417 rfl rfl (by first | rfl | exact mm_rk_rf _) ?_
        refine ev_gR (pc := 418) sh_N (by rfl) fl_N_17 d_N_create_418 ?_
        refine ev_iload (pc := 421) d_N_create_421 rfl ?_
        refine ev_rIN (pc := 423) sh_N_path (by omega) (by decide) d_N_create_423 ?_
        rw [w7]
        refine ev_wIN (pc := 424) sh_N_at (by omega) (by decide) d_N_create_424 ?_
        refine ev_aload_n (pc := 425) d_N_create_425 rfl rfl (by first | rfl | exact mm_rk_rf _) ?_
        refine ev_gR (pc := 426) sh_N (by rfl) fl_N_63 d_N_create_426 ?_
        refine ev_iload_n (pc := 429) d_N_create_429 rfl rfl ?_
        refine ev_aload_n (pc := 430) d_N_create_430 rfl rfl (by first | rfl | exact mm_rk_rf _) ?_
        refine ev_gR (pc := 431) sh_N (by rfl) fl_N_87 d_N_create_431 ?_
        refine ev_iconst (pc := 434) (v := nI 2) d_N_create_434 rfl ?_
        refine ev_rIN (pc := 435) sh_N_n (by omega) (by decide) d_N_create_435 ?_
        rw [cs_ne _ _ (by omega), w28]
        refine ev_wIN (pc := 436) sh_N_openMode (by omega) (by decide) d_N_create_436 ?_
        refine ev_aload_n (pc := 437) d_N_create_437 rfl rfl (by first | rfl | exact mm_rk_rf _) ?_
        refine ev_gR (pc := 438) sh_N (by rfl) fl_N_66 d_N_create_438 ?_
        refine ev_iload_n (pc := 441) d_N_create_441 rfl rfl ?_
        refine ev_iconst (pc := 442) (v := 0) d_N_create_442 rfl ?_
        refine ev_wIN (pc := 443) sh_N_ended (by omega) (by decide) d_N_create_443 ?_
        refine ev_aload_n (pc := 444) d_N_create_444 rfl rfl (by first | rfl | exact mm_rk_rf _) ?_
        refine ev_aload_n (pc := 445) d_N_create_445 rfl rfl (by first | rfl | exact mm_rk_rf _) ?_
        refine ev_gR (pc := 446) sh_N (by rfl) fl_N_17 d_N_create_446 ?_
        refine ev_iload (pc := 449) d_N_create_449 rfl ?_
        refine ev_rIN (pc := 451) sh_N_path (by omega) (by decide) d_N_create_451 ?_
        rw [cs_ne _ _ (by omega), cs_ne _ _ (by omega), cs_ne _ _ (by omega), w7]
        refine ev_cVv (pc := 452) (ct_N_tell E _ (r := 0) (by rw [cs_ne _ _ (by omega), cs_ne _ _ (by omega), cs_ne _ _ (by omega)]; exact w26) (by decide) _) cl_N_170 jv_N_tell ⟨(Nat.le_of_ble_eq_true rfl), (Nat.le_of_ble_eq_true rfl)⟩ rfl sh_N rfl (Nat.le_of_ble_eq_true rfl) d_N_create_452 ⟨Nat.zero_le _, Nat.zero_le _⟩ ?_
        refine ev_aload_n (pc := 455) d_N_create_455 rfl rfl (by first | rfl | exact mm_rk_rf _) ?_
        refine ev_iconst (pc := 456) (v := 0) d_N_create_456 rfl ?_
        refine ev_cVv (pc := 457) (ct_N_tell E _ (nt_k _ _ _) (by decide) _) cl_N_170 jv_N_tell ⟨(Nat.le_of_ble_eq_true rfl), (Nat.le_of_ble_eq_true rfl)⟩ rfl sh_N rfl (Nat.le_of_ble_eq_true rfl) d_N_create_457 ⟨Nat.zero_le _, Nat.zero_le _⟩ ?_
        refine ev_iconst (pc := 460) (v := 0) d_N_create_460 rfl ?_
        exact ev_iret (pc := 461) d_N_create_461 rfl (Nat.zero_le _) (Nat.zero_le _) ⟨rfl, rfl⟩
      refine ev_iload_n (pc := 357) d_N_create_357 rfl rfl ?_
      refine ev_if_eq (pc := 358) (tgt := 367) d_N_create_358 (by decide) (fun h9 => ?_) (fun h9 => ?_)
      · refine ev_sipush (pc := 367) (v := 438) d_N_create_367 (by decide) ?_
        exact t370 438 (by rw [if_pos (hc3.mp h9)])
      · refine ev_sipush (pc := 361) (v := 511) d_N_create_361 (by decide) ?_
        refine ev_goto (pc := 364) (tgt := 370) d_N_create_364 (by decide) ?_
        exact t370 511 (by rw [if_neg (fun z => h9 (hc3.mpr z))])
    have t78 : ∀ c3 : Int32, (c3 = 0 ↔ (md &&& 2048) = 0) → ev_At E K_N_create 78 [some (.ref 204), some (.int (nI f)), some (.int (nI k)), some (.int c3), none] [] (hp_H C) 0 0 (mm_D (some (.int R.1)) R.2) := by
      intro c3 hc3
      refine ev_aload_n (pc := 78) d_N_create_78 rfl rfl (by first | rfl | exact mm_rk_rf _) ?_
      refine ev_gR (pc := 79) sh_N (by rfl) fl_N_87 d_N_create_79 ?_
      refine ev_iconst (pc := 82) (v := nI 0) d_N_create_82 rfl ?_
      refine ev_rIN (pc := 83) sh_N_n (by omega) (by decide) d_N_create_83 ?_
      rw [← ex]
      refine ev_iconst (pc := 84) (v := 1) d_N_create_84 rfl ?_
      refine ev_icmp_lt (pc := 85) (tgt := 145) d_N_create_85 (by decide) (fun g1 => ?_) (fun g1 => ?_)
      · rw [wrong (fun z => by rw [eG] at z; exact z.1.1 g1)]
        refine ev_bipush (pc := 145) (v := -7) d_N_create_145 (by decide) ?_
        exact ev_iret (pc := 147) d_N_create_147 rfl (Nat.zero_le _) (Nat.zero_le _) ⟨rfl, rfl⟩
      refine ev_aload_n (pc := 88) d_N_create_88 rfl rfl (by first | rfl | exact mm_rk_rf _) ?_
      refine ev_gR (pc := 89) sh_N (by rfl) fl_N_87 d_N_create_89 ?_
      refine ev_iconst (pc := 92) (v := nI 0) d_N_create_92 rfl ?_
      refine ev_rIN (pc := 93) sh_N_n (by omega) (by decide) d_N_create_93 ?_
      rw [← ex]
      refine ev_bipush (pc := 94) (v := 99) d_N_create_94 (by decide) ?_
      refine ev_icmp_gt (pc := 96) (tgt := 145) d_N_create_96 (by decide) (fun g2 => ?_) (fun g2 => ?_)
      · rw [wrong (fun z => by rw [eG] at z; exact z.1.2 g2)]
        refine ev_bipush (pc := 145) (v := -7) d_N_create_145 (by decide) ?_
        exact ev_iret (pc := 147) d_N_create_147 rfl (Nat.zero_le _) (Nat.zero_le _) ⟨rfl, rfl⟩
      refine ev_aload_n (pc := 99) d_N_create_99 rfl rfl (by first | rfl | exact mm_rk_rf _) ?_
      refine ev_gR (pc := 100) sh_N (by rfl) fl_N_87 d_N_create_100 ?_
      refine ev_iconst (pc := 103) (v := nI 1) d_N_create_103 rfl ?_
      refine ev_rIN (pc := 104) sh_N_n (by omega) (by decide) d_N_create_104 ?_
      rw [← emd]
      refine ev_if_lt (pc := 105) (tgt := 145) d_N_create_105 (by decide) (fun g3 => ?_) (fun g3 => ?_)
      · rw [wrong (fun z => by rw [eG] at z; exact z.2.1 g3)]
        refine ev_bipush (pc := 145) (v := -7) d_N_create_145 (by decide) ?_
        exact ev_iret (pc := 147) d_N_create_147 rfl (Nat.zero_le _) (Nat.zero_le _) ⟨rfl, rfl⟩
      refine ev_aload_n (pc := 108) d_N_create_108 rfl rfl (by first | rfl | exact mm_rk_rf _) ?_
      refine ev_gR (pc := 109) sh_N (by rfl) fl_N_87 d_N_create_109 ?_
      refine ev_iconst (pc := 112) (v := nI 1) d_N_create_112 rfl ?_
      refine ev_rIN (pc := 113) sh_N_n (by omega) (by decide) d_N_create_113 ?_
      rw [← emd]
      refine ev_sipush (pc := 114) (v := 4095) d_N_create_114 (by decide) ?_
      refine ev_icmp_gt (pc := 117) (tgt := 145) d_N_create_117 (by decide) (fun g4 => ?_) (fun g4 => ?_)
      · rw [wrong (fun z => by rw [eG] at z; exact z.2.2.1 g4)]
        refine ev_bipush (pc := 145) (v := -7) d_N_create_145 (by decide) ?_
        exact ev_iret (pc := 147) d_N_create_147 rfl (Nat.zero_le _) (Nat.zero_le _) ⟨rfl, rfl⟩
      refine ev_aload_n (pc := 120) d_N_create_120 rfl rfl (by first | rfl | exact mm_rk_rf _) ?_
      refine ev_gR (pc := 121) sh_N (by rfl) fl_N_87 d_N_create_121 ?_
      refine ev_iconst (pc := 124) (v := nI 2) d_N_create_124 rfl ?_
      refine ev_rIN (pc := 125) sh_N_n (by omega) (by decide) d_N_create_125 ?_
      rw [← eom]
      refine ev_cS (pc := 126) (ct_N_isOpenMode E C om) cl_N_184 js_N_isOpenMode ⟨(Nat.le_of_ble_eq_true rfl), (Nat.le_of_ble_eq_true rfl)⟩ rfl rfl (Nat.le_of_ble_eq_true rfl) d_N_create_126 ⟨Nat.zero_le _, Nat.zero_le _⟩ ?_
      refine ev_if_eq (pc := 129) (tgt := 145) d_N_create_129 (by decide) (fun g5 => ?_) (fun g5 => ?_)
      · rw [b2_0] at g5
        rw [wrong (fun z => by rw [eG] at z; exact g5 z.2.2.2.1)]
        refine ev_bipush (pc := 145) (v := -7) d_N_create_145 (by decide) ?_
        exact ev_iret (pc := 147) d_N_create_147 rfl (Nat.zero_le _) (Nat.zero_le _) ⟨rfl, rfl⟩
      rw [b2_0, Classical.not_not] at g5
      refine ev_iload_n (pc := 132) d_N_create_132 rfl rfl ?_
      refine ev_if_eq (pc := 133) (tgt := 148) d_N_create_133 (by decide) (fun g6 => ?_) (fun g6 => ?_)
      · exact t148 (by rw [eG]; exact ⟨⟨g1, g2⟩, g3, g4, g5, Or.inl (hc3.mp g6)⟩) c3 hc3
      refine ev_aload_n (pc := 136) d_N_create_136 rfl rfl (by first | rfl | exact mm_rk_rf _) ?_
      refine ev_gR (pc := 137) sh_N (by rfl) fl_N_87 d_N_create_137 ?_
      refine ev_iconst (pc := 140) (v := nI 2) d_N_create_140 rfl ?_
      refine ev_rIN (pc := 141) sh_N_n (by omega) (by decide) d_N_create_141 ?_
      rw [← eom]
      refine ev_if_eq (pc := 142) (tgt := 148) d_N_create_142 (by decide) (fun g7 => ?_) (fun g7 => ?_)
      · exact t148 (by rw [eG]; exact ⟨⟨g1, g2⟩, g3, g4, g5, Or.inr g7⟩) c3 hc3
      rw [wrong (fun z => by rw [eG] at z; exact z.2.2.2.2.elim (fun y => g6 (hc3.mpr y)) g7)]
      refine ev_bipush (pc := 145) (v := -7) d_N_create_145 (by decide) ?_
      exact ev_iret (pc := 147) d_N_create_147 rfl (Nat.zero_le _) (Nat.zero_le _) ⟨rfl, rfl⟩
    refine ev_aload_n (pc := 59) d_N_create_59 rfl rfl (by first | rfl | exact mm_rk_rf _) ?_
    refine ev_gR (pc := 60) sh_N (by rfl) fl_N_87 d_N_create_60 ?_
    refine ev_iconst (pc := 63) (v := nI 1) d_N_create_63 rfl ?_
    refine ev_rIN (pc := 64) sh_N_n (by omega) (by decide) d_N_create_64 ?_
    rw [← emd]
    refine ev_sipush (pc := 65) (v := 2048) d_N_create_65 (by decide) ?_
    refine ev_iand (pc := 68) d_N_create_68 ?_
    refine ev_if_eq (pc := 69) (tgt := 76) d_N_create_69 (by decide) (fun g0 => ?_) (fun g0 => ?_)
    · refine ev_iconst (pc := 76) (v := 0) d_N_create_76 rfl ?_
      refine ev_istore_n (pc := 77) d_N_create_77 rfl (Nat.le_of_ble_eq_true rfl) rfl ?_
      try dsimp only [List.set]
      exact t78 0 ⟨fun _ => g0, fun _ => rfl⟩
    · refine ev_iconst (pc := 72) (v := 1) d_N_create_72 rfl ?_
      refine ev_goto (pc := 73) (tgt := 77) d_N_create_73 (by decide) ?_
      refine ev_istore_n (pc := 77) d_N_create_77 rfl (Nat.le_of_ble_eq_true rfl) rfl ?_
      try dsimp only [List.set]
      exact t78 1 ⟨fun z => absurd z (by decide), fun z => absurd z g0⟩
