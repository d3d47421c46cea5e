/-! The reference: wstat. -/
abbrev nU_wi (x lo hi : Int32) : Prop := x = -1 ∨ (¬ x < lo ∧ ¬ hi < x)
def nU_can (C : Nat → Nat → Int32) (k : Nat) : Prop := (nU_wi (C 228 0) 1 99 ∧ nU_wi (C 228 1) 0 2047 ∧ nU_wi (C 228 2) 0 16 ∧ nU_wi (C 228 3) 0 3) ∧ (C 228 0 = -1 ∨ ¬ C 208 k < 0) ∧ (C 228 2 = -1 ∨ (C 213 k &&& 2048) = 0)
def nU_d (C : Nat → Nat → Int32) (k : Nat) : Nat := (np_i C k).getD 0
def nU_may (C : Nat → Nat → Int32) (u k : Nat) : Prop := (C 228 0 = -1 ∨ nY C u (nU_d C k) 2) ∧ ((C 228 1 = -1 ∧ C 228 3 = -1) ∨ C 210 k = nI u) ∧ (C 228 2 = -1 ∨ nY C u k 2) ∧ (C 228 3 = -1 ∨ ¬ C 205 (4 * u + (C 228 3).toNatClampNeg) = 0)
abbrev nU_ren (C : Nat → Nat → Int32) (k : Nat) : Prop := ¬ C 228 0 = -1 ∧ ¬ C 228 0 = C 209 k
def nU_1 (C : Nat → Nat → Int32) (P : Prop) [Decidable P] (k d : Nat) (x : Int32) : Nat → Nat → Int32 := if P then cs_C (cs_C C 212 d (C 212 d + 1)) 209 k x else C
def nU_2 (C : Nat → Nat → Int32) (k : Nat) (md g : Int32) : Nat → Nat → Int32 := cs_C (cs_C C 213 k md) 211 k g
def nU_3 (C : Nat → Nat → Int32) (k l : Nat) (x : Int32) : Nat → Nat → Int32 := if x = -1 then C else cs_C (ng_C (cs_C C 212 k (C 212 k + 1)) k l x.toNatClampNeg) 214 k x
def nU_m (C : Nat → Nat → Int32) (k : Nat) : Int32 := if C 228 1 = -1 then C 213 k else (C 213 k &&& 2048) ||| C 228 1
def nU_g (C : Nat → Nat → Int32) (k : Nat) : Int32 := if C 228 3 = -1 then C 211 k else C 228 3
noncomputable def nU_C (C : Nat → Nat → Int32) (s k : Nat) : Nat → Nat → Int32 := nU_3 (nU_2 (nU_1 (nx_C C s k) (nU_ren C k) k (nU_d C k) (C 228 0)) k (nU_m C k) (nU_g C k)) k (C 214 k).toNatClampNeg (C 228 2)
noncomputable def nU_K (C : Nat → Nat → Int32) (s k : Nat) : Int32 × (Nat → Nat → Int32) := if nU_ren C k ∧ ¬ nh_i C (nU_d C k) (C 228 0) = none then (-6, C) else if ¬ nU_ren C k ∧ C 228 1 = -1 ∧ C 228 2 = -1 ∧ C 228 3 = -1 then (0, C) else if nb_n C s + nn_n C s k ≤ 64 then (0, nU_C C s k) else (-11, C)
noncomputable def nU_R (C : Nat → Nat → Int32) (f t s : Nat) : Int32 × (Nat → Nat → Int32) := if C 217 f < 0 then (-1, C) else (match nc_i C t (C 219 f) with
  | none => (-13, C)
  | some k => if ¬ C 218 f = 0 then (-9, C) else it_P (nU_can C k) (it_P (nU_may C (nus C f) k) (nU_K C s k) (-5, C)) (-7, C))
theorem d_N_wstat_0 : decode b_N_wstat 0 = .ok (.aload_n 0, 1) := by decide +kernel
theorem d_N_wstat_1 : decode b_N_wstat 1 = .ok (.getfield 54, 3) := by decide +kernel
theorem d_N_wstat_4 : decode b_N_wstat 4 = .ok (.iload_n 1, 1) := by decide +kernel
theorem d_N_wstat_5 : decode b_N_wstat 5 = .ok (.iaload, 1) := by decide +kernel
theorem d_N_wstat_6 : decode b_N_wstat 6 = .ok (.ifCond .ge 5, 3) := by decide +kernel
theorem d_N_wstat_9 : decode b_N_wstat 9 = .ok (.iconst (-1), 1) := by decide +kernel
theorem d_N_wstat_10 : decode b_N_wstat 10 = .ok (.ireturn, 1) := by decide +kernel
theorem d_N_wstat_11 : decode b_N_wstat 11 = .ok (.aload_n 0, 1) := by decide +kernel
theorem d_N_wstat_12 : decode b_N_wstat 12 = .ok (.iload_n 1, 1) := by decide +kernel
theorem d_N_wstat_13 : decode b_N_wstat 13 = .ok (.invokevirtual 167, 3) := by decide +kernel
theorem d_N_wstat_16 : decode b_N_wstat 16 = .ok (.istore_n 2, 1) := by decide +kernel
theorem d_N_wstat_17 : decode b_N_wstat 17 = .ok (.iload_n 2, 1) := by decide +kernel
theorem d_N_wstat_18 : decode b_N_wstat 18 = .ok (.ifCond .ge 6, 3) := by decide +kernel
theorem d_N_wstat_21 : decode b_N_wstat 21 = .ok (.bipush (-13), 2) := by decide +kernel
theorem d_N_wstat_23 : decode b_N_wstat 23 = .ok (.ireturn, 1) := by decide +kernel
theorem d_N_wstat_24 : decode b_N_wstat 24 = .ok (.aload_n 0, 1) := by decide +kernel
theorem d_N_wstat_25 : decode b_N_wstat 25 = .ok (.getfield 57, 3) := by decide +kernel
theorem d_N_wstat_28 : decode b_N_wstat 28 = .ok (.iload_n 1, 1) := by decide +kernel
theorem d_N_wstat_29 : decode b_N_wstat 29 = .ok (.iaload, 1) := by decide +kernel
theorem d_N_wstat_30 : decode b_N_wstat 30 = .ok (.ifCond .eq 6, 3) := by decide +kernel
theorem d_N_wstat_33 : decode b_N_wstat 33 = .ok (.bipush (-9), 2) := by decide +kernel
theorem d_N_wstat_35 : decode b_N_wstat 35 = .ok (.ireturn, 1) := by decide +kernel
theorem d_N_wstat_36 : decode b_N_wstat 36 = .ok (.aload_n 0, 1) := by decide +kernel
theorem d_N_wstat_37 : decode b_N_wstat 37 = .ok (.getfield 87, 3) := by decide +kernel
theorem d_N_wstat_40 : decode b_N_wstat 40 = .ok (.iconst 0, 1) := by decide +kernel
theorem d_N_wstat_41 : decode b_N_wstat 41 = .ok (.iaload, 1) := by decide +kernel
theorem d_N_wstat_42 : decode b_N_wstat 42 = .ok (.iconst 1, 1) := by decide +kernel
theorem d_N_wstat_43 : decode b_N_wstat 43 = .ok (.bipush 99, 2) := by decide +kernel
theorem d_N_wstat_45 : decode b_N_wstat 45 = .ok (.invokestatic 222, 3) := by decide +kernel
theorem d_N_wstat_48 : decode b_N_wstat 48 = .ok (.ifCond .eq 48, 3) := by decide +kernel
theorem d_N_wstat_51 : decode b_N_wstat 51 = .ok (.aload_n 0, 1) := by decide +kernel
theorem d_N_wstat_52 : decode b_N_wstat 52 = .ok (.getfield 87, 3) := by decide +kernel
theorem d_N_wstat_55 : decode b_N_wstat 55 = .ok (.iconst 1, 1) := by decide +kernel
theorem d_N_wstat_56 : decode b_N_wstat 56 = .ok (.iaload, 1) := by decide +kernel
theorem d_N_wstat_57 : decode b_N_wstat 57 = .ok (.iconst 0, 1) := by decide +kernel
theorem d_N_wstat_58 : decode b_N_wstat 58 = .ok (.sipush 2047, 3) := by decide +kernel
theorem d_N_wstat_61 : decode b_N_wstat 61 = .ok (.invokestatic 222, 3) := by decide +kernel
theorem d_N_wstat_64 : decode b_N_wstat 64 = .ok (.ifCond .eq 32, 3) := by decide +kernel
theorem d_N_wstat_67 : decode b_N_wstat 67 = .ok (.aload_n 0, 1) := by decide +kernel
theorem d_N_wstat_68 : decode b_N_wstat 68 = .ok (.getfield 87, 3) := by decide +kernel
theorem d_N_wstat_71 : decode b_N_wstat 71 = .ok (.iconst 2, 1) := by decide +kernel
theorem d_N_wstat_72 : decode b_N_wstat 72 = .ok (.iaload, 1) := by decide +kernel
theorem d_N_wstat_73 : decode b_N_wstat 73 = .ok (.iconst 0, 1) := by decide +kernel
theorem d_N_wstat_74 : decode b_N_wstat 74 = .ok (.bipush 16, 2) := by decide +kernel
theorem d_N_wstat_76 : decode b_N_wstat 76 = .ok (.invokestatic 222, 3) := by decide +kernel
theorem d_N_wstat_79 : decode b_N_wstat 79 = .ok (.ifCond .eq 17, 3) := by decide +kernel
theorem d_N_wstat_82 : decode b_N_wstat 82 = .ok (.aload_n 0, 1) := by decide +kernel
theorem d_N_wstat_83 : decode b_N_wstat 83 = .ok (.getfield 87, 3) := by decide +kernel
theorem d_N_wstat_86 : decode b_N_wstat 86 = .ok (.iconst 3, 1) := by decide +kernel
theorem d_N_wstat_87 : decode b_N_wstat 87 = .ok (.iaload, 1) := by decide +kernel
theorem d_N_wstat_88 : decode b_N_wstat 88 = .ok (.iconst 0, 1) := by decide +kernel
theorem d_N_wstat_89 : decode b_N_wstat 89 = .ok (.iconst 3, 1) := by decide +kernel
theorem d_N_wstat_90 : decode b_N_wstat 90 = .ok (.invokestatic 222, 3) := by decide +kernel
theorem d_N_wstat_93 : decode b_N_wstat 93 = .ok (.ifCond .ne 6, 3) := by decide +kernel
theorem d_N_wstat_96 : decode b_N_wstat 96 = .ok (.bipush (-7), 2) := by decide +kernel
theorem d_N_wstat_98 : decode b_N_wstat 98 = .ok (.ireturn, 1) := by decide +kernel
theorem d_N_wstat_99 : decode b_N_wstat 99 = .ok (.aload_n 0, 1) := by decide +kernel
theorem d_N_wstat_100 : decode b_N_wstat 100 = .ok (.getfield 87, 3) := by decide +kernel
theorem d_N_wstat_103 : decode b_N_wstat 103 = .ok (.iconst 0, 1) := by decide +kernel
theorem d_N_wstat_104 : decode b_N_wstat 104 = .ok (.iaload, 1) := by decide +kernel
theorem d_N_wstat_105 : decode b_N_wstat 105 = .ok (.iconst (-1), 1) := by decide +kernel
theorem d_N_wstat_106 : decode b_N_wstat 106 = .ok (.if_icmp .eq 12, 3) := by decide +kernel
theorem d_N_wstat_109 : decode b_N_wstat 109 = .ok (.aload_n 0, 1) := by decide +kernel
theorem d_N_wstat_110 : decode b_N_wstat 110 = .ok (.getfield 20, 3) := by decide +kernel
theorem d_N_wstat_113 : decode b_N_wstat 113 = .ok (.iload_n 2, 1) := by decide +kernel
theorem d_N_wstat_114 : decode b_N_wstat 114 = .ok (.iaload, 1) := by decide +kernel
theorem d_N_wstat_115 : decode b_N_wstat 115 = .ok (.ifCond .lt 21, 3) := by decide +kernel
theorem d_N_wstat_118 : decode b_N_wstat 118 = .ok (.aload_n 0, 1) := by decide +kernel
theorem d_N_wstat_119 : decode b_N_wstat 119 = .ok (.getfield 87, 3) := by decide +kernel
theorem d_N_wstat_122 : decode b_N_wstat 122 = .ok (.iconst 2, 1) := by decide +kernel
theorem d_N_wstat_123 : decode b_N_wstat 123 = .ok (.iaload, 1) := by decide +kernel
theorem d_N_wstat_124 : decode b_N_wstat 124 = .ok (.iconst (-1), 1) := by decide +kernel
theorem d_N_wstat_125 : decode b_N_wstat 125 = .ok (.if_icmp .eq 14, 3) := by decide +kernel
theorem d_N_wstat_128 : decode b_N_wstat 128 = .ok (.aload_n 0, 1) := by decide +kernel
theorem d_N_wstat_129 : decode b_N_wstat 129 = .ok (.iload_n 2, 1) := by decide +kernel
theorem d_N_wstat_130 : decode b_N_wstat 130 = .ok (.invokevirtual 174, 3) := by decide +kernel
theorem d_N_wstat_133 : decode b_N_wstat 133 = .ok (.ifCond .eq 6, 3) := by decide +kernel
theorem d_N_wstat_136 : decode b_N_wstat 136 = .ok (.bipush (-7), 2) := by decide +kernel
theorem d_N_wstat_138 : decode b_N_wstat 138 = .ok (.ireturn, 1) := by decide +kernel
theorem d_N_wstat_139 : decode b_N_wstat 139 = .ok (.aload_n 0, 1) := by decide +kernel
theorem d_N_wstat_140 : decode b_N_wstat 140 = .ok (.getfield 54, 3) := by decide +kernel
theorem d_N_wstat_143 : decode b_N_wstat 143 = .ok (.iload_n 1, 1) := by decide +kernel
theorem d_N_wstat_144 : decode b_N_wstat 144 = .ok (.iaload, 1) := by decide +kernel
theorem d_N_wstat_145 : decode b_N_wstat 145 = .ok (.istore_n 3, 1) := by decide +kernel
theorem d_N_wstat_146 : decode b_N_wstat 146 = .ok (.aload_n 0, 1) := by decide +kernel
theorem d_N_wstat_147 : decode b_N_wstat 147 = .ok (.iload_n 2, 1) := by decide +kernel
theorem d_N_wstat_148 : decode b_N_wstat 148 = .ok (.invokevirtual 154, 3) := by decide +kernel
theorem d_N_wstat_151 : decode b_N_wstat 151 = .ok (.istore 4, 2) := by decide +kernel
theorem d_N_wstat_153 : decode b_N_wstat 153 = .ok (.aload_n 0, 1) := by decide +kernel
theorem d_N_wstat_154 : decode b_N_wstat 154 = .ok (.getfield 87, 3) := by decide +kernel
theorem d_N_wstat_157 : decode b_N_wstat 157 = .ok (.iconst 0, 1) := by decide +kernel
theorem d_N_wstat_158 : decode b_N_wstat 158 = .ok (.iaload, 1) := by decide +kernel
theorem d_N_wstat_159 : decode b_N_wstat 159 = .ok (.iconst (-1), 1) := by decide +kernel
theorem d_N_wstat_160 : decode b_N_wstat 160 = .ok (.if_icmp .eq 14, 3) := by decide +kernel
theorem d_N_wstat_163 : decode b_N_wstat 163 = .ok (.aload_n 0, 1) := by decide +kernel
theorem d_N_wstat_164 : decode b_N_wstat 164 = .ok (.iload_n 3, 1) := by decide +kernel
theorem d_N_wstat_165 : decode b_N_wstat 165 = .ok (.iload 4, 2) := by decide +kernel
theorem d_N_wstat_167 : decode b_N_wstat 167 = .ok (.iconst 2, 1) := by decide +kernel
theorem d_N_wstat_168 : decode b_N_wstat 168 = .ok (.invokevirtual 177, 3) := by decide +kernel
theorem d_N_wstat_171 : decode b_N_wstat 171 = .ok (.ifCond .eq 81, 3) := by decide +kernel
theorem d_N_wstat_174 : decode b_N_wstat 174 = .ok (.aload_n 0, 1) := by decide +kernel
theorem d_N_wstat_175 : decode b_N_wstat 175 = .ok (.getfield 87, 3) := by decide +kernel
theorem d_N_wstat_178 : decode b_N_wstat 178 = .ok (.iconst 1, 1) := by decide +kernel
theorem d_N_wstat_179 : decode b_N_wstat 179 = .ok (.iaload, 1) := by decide +kernel
theorem d_N_wstat_180 : decode b_N_wstat 180 = .ok (.iconst (-1), 1) := by decide +kernel
theorem d_N_wstat_181 : decode b_N_wstat 181 = .ok (.if_icmp .ne 13, 3) := by decide +kernel
theorem d_N_wstat_184 : decode b_N_wstat 184 = .ok (.aload_n 0, 1) := by decide +kernel
theorem d_N_wstat_185 : decode b_N_wstat 185 = .ok (.getfield 87, 3) := by decide +kernel
theorem d_N_wstat_188 : decode b_N_wstat 188 = .ok (.iconst 3, 1) := by decide +kernel
theorem d_N_wstat_189 : decode b_N_wstat 189 = .ok (.iaload, 1) := by decide +kernel
theorem d_N_wstat_190 : decode b_N_wstat 190 = .ok (.iconst (-1), 1) := by decide +kernel
theorem d_N_wstat_191 : decode b_N_wstat 191 = .ok (.if_icmp .eq 13, 3) := by decide +kernel
theorem d_N_wstat_194 : decode b_N_wstat 194 = .ok (.aload_n 0, 1) := by decide +kernel
theorem d_N_wstat_195 : decode b_N_wstat 195 = .ok (.getfield 26, 3) := by decide +kernel
theorem d_N_wstat_198 : decode b_N_wstat 198 = .ok (.iload_n 2, 1) := by decide +kernel
theorem d_N_wstat_199 : decode b_N_wstat 199 = .ok (.iaload, 1) := by decide +kernel
theorem d_N_wstat_200 : decode b_N_wstat 200 = .ok (.iload_n 3, 1) := by decide +kernel
theorem d_N_wstat_201 : decode b_N_wstat 201 = .ok (.if_icmp .ne 51, 3) := by decide +kernel
theorem d_N_wstat_204 : decode b_N_wstat 204 = .ok (.aload_n 0, 1) := by decide +kernel
theorem d_N_wstat_205 : decode b_N_wstat 205 = .ok (.getfield 87, 3) := by decide +kernel
theorem d_N_wstat_208 : decode b_N_wstat 208 = .ok (.iconst 2, 1) := by decide +kernel
theorem d_N_wstat_209 : decode b_N_wstat 209 = .ok (.iaload, 1) := by decide +kernel
theorem d_N_wstat_210 : decode b_N_wstat 210 = .ok (.iconst (-1), 1) := by decide +kernel
theorem d_N_wstat_211 : decode b_N_wstat 211 = .ok (.if_icmp .eq 13, 3) := by decide +kernel
theorem d_N_wstat_214 : decode b_N_wstat 214 = .ok (.aload_n 0, 1) := by decide +kernel
theorem d_N_wstat_215 : decode b_N_wstat 215 = .ok (.iload_n 3, 1) := by decide +kernel
theorem d_N_wstat_216 : decode b_N_wstat 216 = .ok (.iload_n 2, 1) := by decide +kernel
theorem d_N_wstat_217 : decode b_N_wstat 217 = .ok (.iconst 2, 1) := by decide +kernel
theorem d_N_wstat_218 : decode b_N_wstat 218 = .ok (.invokevirtual 177, 3) := by decide +kernel
theorem d_N_wstat_221 : decode b_N_wstat 221 = .ok (.ifCond .eq 31, 3) := by decide +kernel
theorem d_N_wstat_224 : decode b_N_wstat 224 = .ok (.aload_n 0, 1) := by decide +kernel
theorem d_N_wstat_225 : decode b_N_wstat 225 = .ok (.getfield 87, 3) := by decide +kernel
theorem d_N_wstat_228 : decode b_N_wstat 228 = .ok (.iconst 3, 1) := by decide +kernel
theorem d_N_wstat_229 : decode b_N_wstat 229 = .ok (.iaload, 1) := by decide +kernel
theorem d_N_wstat_230 : decode b_N_wstat 230 = .ok (.iconst (-1), 1) := by decide +kernel
theorem d_N_wstat_231 : decode b_N_wstat 231 = .ok (.if_icmp .eq 24, 3) := by decide +kernel
theorem d_N_wstat_234 : decode b_N_wstat 234 = .ok (.aload_n 0, 1) := by decide +kernel
theorem d_N_wstat_235 : decode b_N_wstat 235 = .ok (.getfield 7, 3) := by decide +kernel
theorem d_N_wstat_238 : decode b_N_wstat 238 = .ok (.iconst 4, 1) := by decide +kernel
theorem d_N_wstat_239 : decode b_N_wstat 239 = .ok (.iload_n 3, 1) := by decide +kernel
theorem d_N_wstat_240 : decode b_N_wstat 240 = .ok (.imul, 1) := by decide +kernel
theorem d_N_wstat_241 : decode b_N_wstat 241 = .ok (.aload_n 0, 1) := by decide +kernel
theorem d_N_wstat_242 : decode b_N_wstat 242 = .ok (.getfield 87, 3) := by decide +kernel
theorem d_N_wstat_245 : decode b_N_wstat 245 = .ok (.iconst 3, 1) := by decide +kernel
theorem d_N_wstat_246 : decode b_N_wstat 246 = .ok (.iaload, 1) := by decide +kernel
theorem d_N_wstat_247 : decode b_N_wstat 247 = .ok (.iadd, 1) := by decide +kernel
theorem d_N_wstat_248 : decode b_N_wstat 248 = .ok (.baload, 1) := by decide +kernel
theorem d_N_wstat_249 : decode b_N_wstat 249 = .ok (.ifCond .ne 6, 3) := by decide +kernel
theorem d_N_wstat_252 : decode b_N_wstat 252 = .ok (.bipush (-5), 2) := by decide +kernel
theorem d_N_wstat_254 : decode b_N_wstat 254 = .ok (.ireturn, 1) := by decide +kernel
theorem d_N_wstat_255 : decode b_N_wstat 255 = .ok (.aload_n 0, 1) := by decide +kernel
theorem d_N_wstat_256 : decode b_N_wstat 256 = .ok (.getfield 87, 3) := by decide +kernel
theorem d_N_wstat_259 : decode b_N_wstat 259 = .ok (.iconst 0, 1) := by decide +kernel
theorem d_N_wstat_260 : decode b_N_wstat 260 = .ok (.iaload, 1) := by decide +kernel
theorem d_N_wstat_261 : decode b_N_wstat 261 = .ok (.iconst (-1), 1) := by decide +kernel
theorem d_N_wstat_262 : decode b_N_wstat 262 = .ok (.if_icmp .eq 22, 3) := by decide +kernel
theorem d_N_wstat_265 : decode b_N_wstat 265 = .ok (.aload_n 0, 1) := by decide +kernel
theorem d_N_wstat_266 : decode b_N_wstat 266 = .ok (.getfield 87, 3) := by decide +kernel
theorem d_N_wstat_269 : decode b_N_wstat 269 = .ok (.iconst 0, 1) := by decide +kernel
theorem d_N_wstat_270 : decode b_N_wstat 270 = .ok (.iaload, 1) := by decide +kernel
theorem d_N_wstat_271 : decode b_N_wstat 271 = .ok (.aload_n 0, 1) := by decide +kernel
theorem d_N_wstat_272 : decode b_N_wstat 272 = .ok (.getfield 23, 3) := by decide +kernel
theorem d_N_wstat_275 : decode b_N_wstat 275 = .ok (.iload_n 2, 1) := by decide +kernel
theorem d_N_wstat_276 : decode b_N_wstat 276 = .ok (.iaload, 1) := by decide +kernel
theorem d_N_wstat_277 : decode b_N_wstat 277 = .ok (.if_icmp .eq 7, 3) := by decide +kernel
theorem d_N_wstat_280 : decode b_N_wstat 280 = .ok (.iconst 1, 1) := by decide +kernel
theorem d_N_wstat_281 : decode b_N_wstat 281 = .ok (.goto 4, 3) := by decide +kernel
theorem d_N_wstat_284 : decode b_N_wstat 284 = .ok (.iconst 0, 1) := by decide +kernel
theorem d_N_wstat_285 : decode b_N_wstat 285 = .ok (.istore 5, 2) := by decide +kernel
theorem d_N_wstat_287 : decode b_N_wstat 287 = .ok (.iload 5, 2) := by decide +kernel
theorem d_N_wstat_289 : decode b_N_wstat 289 = .ok (.ifCond .eq 21, 3) := by decide +kernel
theorem d_N_wstat_292 : decode b_N_wstat 292 = .ok (.aload_n 0, 1) := by decide +kernel
theorem d_N_wstat_293 : decode b_N_wstat 293 = .ok (.iload 4, 2) := by decide +kernel
theorem d_N_wstat_295 : decode b_N_wstat 295 = .ok (.aload_n 0, 1) := by decide +kernel
theorem d_N_wstat_296 : decode b_N_wstat 296 = .ok (.getfield 87, 3) := by decide +kernel
theorem d_N_wstat_299 : decode b_N_wstat 299 = .ok (.iconst 0, 1) := by decide +kernel
theorem d_N_wstat_300 : decode b_N_wstat 300 = .ok (.iaload, 1) := by decide +kernel
theorem d_N_wstat_301 : decode b_N_wstat 301 = .ok (.invokevirtual 181, 3) := by decide +kernel
theorem d_N_wstat_304 : decode b_N_wstat 304 = .ok (.ifCond .lt 6, 3) := by decide +kernel
theorem d_N_wstat_307 : decode b_N_wstat 307 = .ok (.bipush (-6), 2) := by decide +kernel
theorem d_N_wstat_309 : decode b_N_wstat 309 = .ok (.ireturn, 1) := by decide +kernel
theorem d_N_wstat_310 : decode b_N_wstat 310 = .ok (.aload_n 0, 1) := by decide +kernel
theorem d_N_wstat_311 : decode b_N_wstat 311 = .ok (.getfield 87, 3) := by decide +kernel
theorem d_N_wstat_314 : decode b_N_wstat 314 = .ok (.iconst 1, 1) := by decide +kernel
theorem d_N_wstat_315 : decode b_N_wstat 315 = .ok (.iaload, 1) := by decide +kernel
theorem d_N_wstat_316 : decode b_N_wstat 316 = .ok (.iconst (-1), 1) := by decide +kernel
theorem d_N_wstat_317 : decode b_N_wstat 317 = .ok (.if_icmp .ne 12, 3) := by decide +kernel
theorem d_N_wstat_320 : decode b_N_wstat 320 = .ok (.aload_n 0, 1) := by decide +kernel
theorem d_N_wstat_321 : decode b_N_wstat 321 = .ok (.getfield 35, 3) := by decide +kernel
theorem d_N_wstat_324 : decode b_N_wstat 324 = .ok (.iload_n 2, 1) := by decide +kernel
theorem d_N_wstat_325 : decode b_N_wstat 325 = .ok (.iaload, 1) := by decide +kernel
theorem d_N_wstat_326 : decode b_N_wstat 326 = .ok (.goto 20, 3) := by decide +kernel
theorem d_N_wstat_329 : decode b_N_wstat 329 = .ok (.aload_n 0, 1) := by decide +kernel
theorem d_N_wstat_330 : decode b_N_wstat 330 = .ok (.getfield 35, 3) := by decide +kernel
theorem d_N_wstat_333 : decode b_N_wstat 333 = .ok (.iload_n 2, 1) := by decide +kernel
theorem d_N_wstat_334 : decode b_N_wstat 334 = .ok (.iaload, 1) := by decide +kernel
theorem d_N_wstat_335 : decode b_N_wstat 335 = .ok (.sipush 2048, 3) := by decide +kernel
theorem d_N_wstat_338 : decode b_N_wstat 338 = .ok (.iand, 1) := by decide +kernel
theorem d_N_wstat_339 : decode b_N_wstat 339 = .ok (.aload_n 0, 1) := by decide +kernel
theorem d_N_wstat_340 : decode b_N_wstat 340 = .ok (.getfield 87, 3) := by decide +kernel
theorem d_N_wstat_343 : decode b_N_wstat 343 = .ok (.iconst 1, 1) := by decide +kernel
theorem d_N_wstat_344 : decode b_N_wstat 344 = .ok (.iaload, 1) := by decide +kernel
theorem d_N_wstat_345 : decode b_N_wstat 345 = .ok (.ior, 1) := by decide +kernel
theorem d_N_wstat_346 : decode b_N_wstat 346 = .ok (.istore 6, 2) := by decide +kernel
theorem d_N_wstat_348 : decode b_N_wstat 348 = .ok (.iload 5, 2) := by decide +kernel
theorem d_N_wstat_350 : decode b_N_wstat 350 = .ok (.ifCond .ne 33, 3) := by decide +kernel
theorem d_N_wstat_353 : decode b_N_wstat 353 = .ok (.aload_n 0, 1) := by decide +kernel
theorem d_N_wstat_354 : decode b_N_wstat 354 = .ok (.getfield 87, 3) := by decide +kernel
theorem d_N_wstat_357 : decode b_N_wstat 357 = .ok (.iconst 1, 1) := by decide +kernel
theorem d_N_wstat_358 : decode b_N_wstat 358 = .ok (.iaload, 1) := by decide +kernel
theorem d_N_wstat_359 : decode b_N_wstat 359 = .ok (.iconst (-1), 1) := by decide +kernel
theorem d_N_wstat_360 : decode b_N_wstat 360 = .ok (.if_icmp .ne 23, 3) := by decide +kernel
theorem d_N_wstat_363 : decode b_N_wstat 363 = .ok (.aload_n 0, 1) := by decide +kernel
theorem d_N_wstat_364 : decode b_N_wstat 364 = .ok (.getfield 87, 3) := by decide +kernel
theorem d_N_wstat_367 : decode b_N_wstat 367 = .ok (.iconst 2, 1) := by decide +kernel
theorem d_N_wstat_368 : decode b_N_wstat 368 = .ok (.iaload, 1) := by decide +kernel
theorem d_N_wstat_369 : decode b_N_wstat 369 = .ok (.iconst (-1), 1) := by decide +kernel
theorem d_N_wstat_370 : decode b_N_wstat 370 = .ok (.if_icmp .ne 13, 3) := by decide +kernel
theorem d_N_wstat_373 : decode b_N_wstat 373 = .ok (.aload_n 0, 1) := by decide +kernel
theorem d_N_wstat_374 : decode b_N_wstat 374 = .ok (.getfield 87, 3) := by decide +kernel
theorem d_N_wstat_377 : decode b_N_wstat 377 = .ok (.iconst 3, 1) := by decide +kernel
theorem d_N_wstat_378 : decode b_N_wstat 378 = .ok (.iaload, 1) := by decide +kernel
theorem d_N_wstat_379 : decode b_N_wstat 379 = .ok (.iconst (-1), 1) := by decide +kernel
theorem d_N_wstat_380 : decode b_N_wstat 380 = .ok (.if_icmp .eq 7, 3) := by decide +kernel
theorem d_N_wstat_383 : decode b_N_wstat 383 = .ok (.iconst 1, 1) := by decide +kernel
theorem d_N_wstat_384 : decode b_N_wstat 384 = .ok (.goto 4, 3) := by decide +kernel
theorem d_N_wstat_387 : decode b_N_wstat 387 = .ok (.iconst 0, 1) := by decide +kernel
theorem d_N_wstat_388 : decode b_N_wstat 388 = .ok (.istore 7, 2) := by decide +kernel
theorem d_N_wstat_390 : decode b_N_wstat 390 = .ok (.iload 7, 2) := by decide +kernel
theorem d_N_wstat_392 : decode b_N_wstat 392 = .ok (.ifCond .ne 5, 3) := by decide +kernel
theorem d_N_wstat_395 : decode b_N_wstat 395 = .ok (.iconst 0, 1) := by decide +kernel
theorem d_N_wstat_396 : decode b_N_wstat 396 = .ok (.ireturn, 1) := by decide +kernel
theorem d_N_wstat_397 : decode b_N_wstat 397 = .ok (.aload_n 0, 1) := by decide +kernel
theorem d_N_wstat_398 : decode b_N_wstat 398 = .ok (.aload_n 0, 1) := by decide +kernel
theorem d_N_wstat_399 : decode b_N_wstat 399 = .ok (.iload_n 2, 1) := by decide +kernel
theorem d_N_wstat_400 : decode b_N_wstat 400 = .ok (.invokevirtual 196, 3) := by decide +kernel
theorem d_N_wstat_403 : decode b_N_wstat 403 = .ok (.invokevirtual 199, 3) := by decide +kernel
theorem d_N_wstat_406 : decode b_N_wstat 406 = .ok (.ifCond .ne 6, 3) := by decide +kernel
theorem d_N_wstat_409 : decode b_N_wstat 409 = .ok (.bipush (-11), 2) := by decide +kernel
theorem d_N_wstat_411 : decode b_N_wstat 411 = .ok (.ireturn, 1) := by decide +kernel
theorem d_N_wstat_412 : decode b_N_wstat 412 = .ok (.aload_n 0, 1) := by decide +kernel
theorem d_N_wstat_413 : decode b_N_wstat 413 = .ok (.iload_n 2, 1) := by decide +kernel
theorem d_N_wstat_414 : decode b_N_wstat 414 = .ok (.invokevirtual 202, 3) := by decide +kernel
theorem d_N_wstat_417 : decode b_N_wstat 417 = .ok (.iload 5, 2) := by decide +kernel
theorem d_N_wstat_419 : decode b_N_wstat 419 = .ok (.ifCond .eq 26, 3) := by decide +kernel
theorem d_N_wstat_422 : decode b_N_wstat 422 = .ok (.aload_n 0, 1) := by decide +kernel
theorem d_N_wstat_423 : decode b_N_wstat 423 = .ok (.getfield 32, 3) := by decide +kernel
theorem d_N_wstat_426 : decode b_N_wstat 426 = .ok (.iload 4, 2) := by decide +kernel
theorem d_N_wstat_428 : decode b_N_wstat 428 = .ok (.dup2, 1) := by decide +kernel
theorem d_N_wstat_429 : decode b_N_wstat 429 = .ok (.iaload, 1) := by decide +kernel
theorem d_N_wstat_430 : decode b_N_wstat 430 = .ok (.iconst 1, 1) := by decide +kernel
theorem d_N_wstat_431 : decode b_N_wstat 431 = .ok (.iadd, 1) := by decide +kernel
theorem d_N_wstat_432 : decode b_N_wstat 432 = .ok (.iastore, 1) := by decide +kernel
theorem d_N_wstat_433 : decode b_N_wstat 433 = .ok (.aload_n 0, 1) := by decide +kernel
theorem d_N_wstat_434 : decode b_N_wstat 434 = .ok (.getfield 23, 3) := by decide +kernel
theorem d_N_wstat_437 : decode b_N_wstat 437 = .ok (.iload_n 2, 1) := by decide +kernel
theorem d_N_wstat_438 : decode b_N_wstat 438 = .ok (.aload_n 0, 1) := by decide +kernel
theorem d_N_wstat_439 : decode b_N_wstat 439 = .ok (.getfield 87, 3) := by decide +kernel
theorem d_N_wstat_442 : decode b_N_wstat 442 = .ok (.iconst 0, 1) := by decide +kernel
theorem d_N_wstat_443 : decode b_N_wstat 443 = .ok (.iaload, 1) := by decide +kernel
theorem d_N_wstat_444 : decode b_N_wstat 444 = .ok (.iastore, 1) := by decide +kernel
theorem d_N_wstat_445 : decode b_N_wstat 445 = .ok (.aload_n 0, 1) := by decide +kernel
theorem d_N_wstat_446 : decode b_N_wstat 446 = .ok (.getfield 35, 3) := by decide +kernel
theorem d_N_wstat_449 : decode b_N_wstat 449 = .ok (.iload_n 2, 1) := by decide +kernel
theorem d_N_wstat_450 : decode b_N_wstat 450 = .ok (.iload 6, 2) := by decide +kernel
theorem d_N_wstat_452 : decode b_N_wstat 452 = .ok (.iastore, 1) := by decide +kernel
theorem d_N_wstat_453 : decode b_N_wstat 453 = .ok (.aload_n 0, 1) := by decide +kernel
theorem d_N_wstat_454 : decode b_N_wstat 454 = .ok (.getfield 29, 3) := by decide +kernel
theorem d_N_wstat_457 : decode b_N_wstat 457 = .ok (.iload_n 2, 1) := by decide +kernel
theorem d_N_wstat_458 : decode b_N_wstat 458 = .ok (.aload_n 0, 1) := by decide +kernel
theorem d_N_wstat_459 : decode b_N_wstat 459 = .ok (.getfield 87, 3) := by decide +kernel
theorem d_N_wstat_462 : decode b_N_wstat 462 = .ok (.iconst 3, 1) := by decide +kernel
theorem d_N_wstat_463 : decode b_N_wstat 463 = .ok (.iaload, 1) := by decide +kernel
theorem d_N_wstat_464 : decode b_N_wstat 464 = .ok (.iconst (-1), 1) := by decide +kernel
theorem d_N_wstat_465 : decode b_N_wstat 465 = .ok (.if_icmp .ne 12, 3) := by decide +kernel
theorem d_N_wstat_468 : decode b_N_wstat 468 = .ok (.aload_n 0, 1) := by decide +kernel
theorem d_N_wstat_469 : decode b_N_wstat 469 = .ok (.getfield 29, 3) := by decide +kernel
theorem d_N_wstat_472 : decode b_N_wstat 472 = .ok (.iload_n 2, 1) := by decide +kernel
theorem d_N_wstat_473 : decode b_N_wstat 473 = .ok (.iaload, 1) := by decide +kernel
theorem d_N_wstat_474 : decode b_N_wstat 474 = .ok (.goto 9, 3) := by decide +kernel
theorem d_N_wstat_477 : decode b_N_wstat 477 = .ok (.aload_n 0, 1) := by decide +kernel
theorem d_N_wstat_478 : decode b_N_wstat 478 = .ok (.getfield 87, 3) := by decide +kernel
theorem d_N_wstat_481 : decode b_N_wstat 481 = .ok (.iconst 3, 1) := by decide +kernel
theorem d_N_wstat_482 : decode b_N_wstat 482 = .ok (.iaload, 1) := by decide +kernel
theorem d_N_wstat_483 : decode b_N_wstat 483 = .ok (.iastore, 1) := by decide +kernel
theorem d_N_wstat_484 : decode b_N_wstat 484 = .ok (.aload_n 0, 1) := by decide +kernel
theorem d_N_wstat_485 : decode b_N_wstat 485 = .ok (.getfield 87, 3) := by decide +kernel
theorem d_N_wstat_488 : decode b_N_wstat 488 = .ok (.iconst 2, 1) := by decide +kernel
theorem d_N_wstat_489 : decode b_N_wstat 489 = .ok (.iaload, 1) := by decide +kernel
theorem d_N_wstat_490 : decode b_N_wstat 490 = .ok (.iconst (-1), 1) := by decide +kernel
theorem d_N_wstat_491 : decode b_N_wstat 491 = .ok (.if_icmp .eq 36, 3) := by decide +kernel
theorem d_N_wstat_494 : decode b_N_wstat 494 = .ok (.aload_n 0, 1) := by decide +kernel
theorem d_N_wstat_495 : decode b_N_wstat 495 = .ok (.getfield 32, 3) := by decide +kernel
theorem d_N_wstat_498 : decode b_N_wstat 498 = .ok (.iload_n 2, 1) := by decide +kernel
theorem d_N_wstat_499 : decode b_N_wstat 499 = .ok (.dup2, 1) := by decide +kernel
theorem d_N_wstat_500 : decode b_N_wstat 500 = .ok (.iaload, 1) := by decide +kernel
theorem d_N_wstat_501 : decode b_N_wstat 501 = .ok (.iconst 1, 1) := by decide +kernel
theorem d_N_wstat_502 : decode b_N_wstat 502 = .ok (.iadd, 1) := by decide +kernel
theorem d_N_wstat_503 : decode b_N_wstat 503 = .ok (.iastore, 1) := by decide +kernel
theorem d_N_wstat_504 : decode b_N_wstat 504 = .ok (.aload_n 0, 1) := by decide +kernel
theorem d_N_wstat_505 : decode b_N_wstat 505 = .ok (.iload_n 2, 1) := by decide +kernel
theorem d_N_wstat_506 : decode b_N_wstat 506 = .ok (.aload_n 0, 1) := by decide +kernel
theorem d_N_wstat_507 : decode b_N_wstat 507 = .ok (.getfield 87, 3) := by decide +kernel
theorem d_N_wstat_510 : decode b_N_wstat 510 = .ok (.iconst 2, 1) := by decide +kernel
theorem d_N_wstat_511 : decode b_N_wstat 511 = .ok (.iaload, 1) := by decide +kernel
theorem d_N_wstat_512 : decode b_N_wstat 512 = .ok (.invokevirtual 211, 3) := by decide +kernel
theorem d_N_wstat_515 : decode b_N_wstat 515 = .ok (.aload_n 0, 1) := by decide +kernel
theorem d_N_wstat_516 : decode b_N_wstat 516 = .ok (.getfield 38, 3) := by decide +kernel
theorem d_N_wstat_519 : decode b_N_wstat 519 = .ok (.iload_n 2, 1) := by decide +kernel
theorem d_N_wstat_520 : decode b_N_wstat 520 = .ok (.aload_n 0, 1) := by decide +kernel
theorem d_N_wstat_521 : decode b_N_wstat 521 = .ok (.getfield 87, 3) := by decide +kernel
theorem d_N_wstat_524 : decode b_N_wstat 524 = .ok (.iconst 2, 1) := by decide +kernel
theorem d_N_wstat_525 : decode b_N_wstat 525 = .ok (.iaload, 1) := by decide +kernel
theorem d_N_wstat_526 : decode b_N_wstat 526 = .ok (.iastore, 1) := by decide +kernel
theorem d_N_wstat_527 : decode b_N_wstat 527 = .ok (.iconst 0, 1) := by decide +kernel
theorem d_N_wstat_528 : decode b_N_wstat 528 = .ok (.ireturn, 1) := by decide +kernel
set_option maxRecDepth 20000 in
set_option maxHeartbeats 4000000 in
theorem ct_N_wstat (E : mm_En) (C : Nat → Nat → Int32) {f t s : Nat} (hw : nw_P C s) (hu : nu_P C f t) : mm_MT E K_N_wstat [.ref 204, .int (nI f)] (hp_H C) (mm_D (some (.int (nU_R C f t s).1)) (nU_R C f t s).2) := by
  obtain ⟨hm, hp, hg, hl, es, s4, hroot⟩ := hw
  obtain ⟨hf, ht, et, hus⟩ := hu
  refine mm_mtL (by decide) (by rfl) (Nat.le_of_ble_eq_true rfl) rfl ?_
  refine ev_aload_n (pc := 0) d_N_wstat_0 rfl rfl (by first | rfl | exact mm_rk_rf _) ?_
  refine ev_gR (pc := 1) sh_N (by rfl) fl_N_54 d_N_wstat_1 ?_
  refine ev_iload_n (pc := 4) d_N_wstat_4 rfl rfl ?_
  refine ev_rIN (pc := 5) sh_N_user (by omega) (by decide) d_N_wstat_5 ?_
  refine ev_if_ge (pc := 6) (tgt := 11) d_N_wstat_6 (by decide) (fun ha => ?_) (fun ha => ?_)
  rotate_left
  · have ha' : C 217 f < 0 := Int32.not_le.mp ha
    rw [nU_R, if_pos ha']
    refine ev_iconst (pc := 9) (v := -1) d_N_wstat_9 rfl ?_
    exact ev_iret (pc := 10) d_N_wstat_10 rfl (Nat.zero_le _) (Nat.zero_le _) ⟨rfl, rfl⟩
  have ha' : ¬ C 217 f < 0 := Int32.not_lt.mpr ha
  obtain ⟨u4, eu⟩ := hus ha'
  obtain ⟨u, eu0⟩ : ∃ u, u = nus C f := ⟨_, rfl⟩
  have eu1 : C 217 f = nI u := by rw [eu0]; exact eu
  have hu4 : u < 4 := by rw [eu0]; exact u4
  rw [nU_R, if_neg ha', ← eu0]
  refine ev_aload_n (pc := 11) d_N_wstat_11 rfl rfl (by first | rfl | exact mm_rk_rf _) ?_
  refine ev_iload_n (pc := 12) d_N_wstat_12 rfl rfl ?_
  refine ev_cV (pc := 13) (ct_N_nodeOf E C hm hf ht et) cl_N_167 jv_N_nodeOf ⟨(Nat.le_of_ble_eq_true rfl), (Nat.le_of_ble_eq_true rfl)⟩ rfl sh_N rfl (Nat.le_of_ble_eq_true rfl) d_N_wstat_13 ⟨Nat.zero_le _, Nat.zero_le _⟩ ?_
  cases hn : nc_i C t (C 219 f) with
  | none =>
    rw [show oI none = -1 from rfl]
    refine ev_istore_n (pc := 16) d_N_wstat_16 rfl (Nat.le_of_ble_eq_true rfl) rfl ?_
    try dsimp only [List.set]
    refine ev_iload_n (pc := 17) d_N_wstat_17 rfl rfl ?_
    refine ev_if_ge (pc := 18) (tgt := 24) d_N_wstat_18 (by decide) (fun hb => ?_) (fun hb => ?_)
    · exact absurd hb (by decide)
    refine ev_bipush (pc := 21) (v := -13) d_N_wstat_21 (by decide) ?_
    exact ev_iret (pc := 23) d_N_wstat_23 rfl (Nat.zero_le _) (Nat.zero_le _) ⟨rfl, rfl⟩
  | some k =>
    rw [show oI (some k) = nI k from rfl]
    obtain ⟨v1, v2, v3, v4⟩ := nc_v ht hm hn
    simp only []
    refine ev_istore_n (pc := 16) d_N_wstat_16 rfl (Nat.le_of_ble_eq_true rfl) rfl ?_
    try dsimp only [List.set]
    refine ev_iload_n (pc := 17) d_N_wstat_17 rfl rfl ?_
    refine ev_if_ge (pc := 18) (tgt := 24) d_N_wstat_18 (by decide) (fun hb => ?_) (fun hb => ?_)
    rotate_left
    · exact absurd (nI_pos' (by omega)) hb
    refine ev_aload_n (pc := 24) d_N_wstat_24 rfl rfl (by first | rfl | exact mm_rk_rf _) ?_
    refine ev_gR (pc := 25) sh_N (by rfl) fl_N_57 d_N_wstat_25 ?_
    refine ev_iload_n (pc := 28) d_N_wstat_28 rfl rfl ?_
    refine ev_rIN (pc := 29) sh_N_tree (by omega) (by decide) d_N_wstat_29 ?_
    refine ev_if_eq (pc := 30) (tgt := 36) d_N_wstat_30 (by decide) (fun h0 => ?_) (fun h0 => ?_)
    rotate_left
    · rw [if_pos h0]
      refine ev_bipush (pc := 33) (v := -9) d_N_wstat_33 (by decide) ?_
      exact ev_iret (pc := 35) d_N_wstat_35 rfl (Nat.zero_le _) (Nat.zero_le _) ⟨rfl, rfl⟩
    rw [if_neg (fun z => z h0)]
    obtain ⟨l16, el⟩ := hl k v1
    obtain ⟨R, eR⟩ : ∃ R, R = it_P (nU_can C k) (it_P (nU_may C u k) (nU_K C s k) (-5, C)) (-7, C) := ⟨_, rfl⟩
    rw [← eR]
    have wrong : ¬ nU_can C k → R = (-7, C) := fun h => by rw [eR, it_f h]
    have deny : nU_can C k → ¬ nU_may C u k → R = (-5, C) := fun h h2 => by rw [eR, it_t h, it_f h2]
    obtain ⟨d, ed⟩ : ∃ d, d = nU_d C k := ⟨_, rfl⟩
    have hd : np_i C k = some d ∧ nv C d := by
      rw [ed, nU_d]
      by_cases h : C 208 k < 0
      · rw [np_i, if_pos h]
        exact ⟨rfl, v3⟩
      · obtain ⟨p1, p2, p3, p4⟩ := pa_np hm hp v3 h
        rw [p1]
        exact ⟨rfl, p2⟩
    obtain ⟨hd1, hd2⟩ := hd
    have hd3 := hd2.1
    -- the changes
    have t412 : nU_can C k → nU_may C u k → ¬ (nU_ren C k ∧ ¬ nh_i C d (C 228 0) = none) → ¬ (¬ nU_ren C k ∧ C 228 1 = -1 ∧ C 228 2 = -1 ∧ C 228 3 = -1) → nb_n C s + nn_n C s k ≤ 64 → ∀ r5 r7 : Int32, (r5 = 0 ↔ ¬ nU_ren C k) → ev_At E K_N_wstat 412 [some (.ref 204), some (.int (nI f)), some (.int (nI k)), some (.int (nI u)), some (.int (nI d)), some (.int r5), some (.int (nU_m C k)), some (.int r7)] [] (hp_H C) 0 0 (mm_D (some (.int R.1)) R.2) := by
      intro h1 h2 h3 h4 h5 r5 r7 hr5
      rw [eR, it_t h1, it_t h2, nU_K, ← ed, if_neg h3, if_neg h4, if_pos h5, nU_C, ← ed]
      refine ev_aload_n (pc := 412) d_N_wstat_412 rfl rfl (by first | rfl | exact mm_rk_rf _) ?_
      refine ev_iload_n (pc := 413) d_N_wstat_413 rfl rfl ?_
      refine ev_cVv (pc := 414) (ct_N_change E C hm hp es s4 v3) cl_N_202 jv_N_change ⟨(Nat.le_of_ble_eq_true rfl), (Nat.le_of_ble_eq_true rfl)⟩ rfl sh_N rfl (Nat.le_of_ble_eq_true rfl) d_N_wstat_414 ⟨Nat.zero_le _, Nat.zero_le _⟩ ?_
      have n28 : ∀ j, nx_C C s k 228 j = C 228 j := fun j => by rw [nx_Cc C s k (by decide) (by decide)]
      have n11 : nx_C C s k 211 k = C 211 k := by rw [nx_Cc C s k (by decide) (by decide)]
      have n14 : nx_C C s k 214 k = nI (C 214 k).toNatClampNeg := by rw [nx_Cc C s k (by decide) (by decide)]; exact el
      generalize nx_C C s k = D at n28 n11 n14 ⊢
      have t445 : ∀ F : Nat → Nat → Int32, F = nU_1 D (nU_ren C k) k d (C 228 0) → (∀ j, F 228 j = C 228 j) → F 211 k = C 211 k → F 214 k = nI (C 214 k).toNatClampNeg → ev_At E K_N_wstat 445 [some (.ref 204), some (.int (nI f)), some (.int (nI k)), some (.int (nI u)), some (.int (nI d)), some (.int r5), some (.int (nU_m C k)), some (.int r7)] [] (hp_H F) 0 0 (mm_D (some (.int (0, nU_3 (nU_2 (nU_1 D (nU_ren C k) k d (C 228 0)) k (nU_m C k) (nU_g C k)) k (C 214 k).toNatClampNeg (C 228 2)).1)) (0, nU_3 (nU_2 (nU_1 D (nU_ren C k) k d (C 228 0)) k (nU_m C k) (nU_g C k)) k (C 214 k).toNatClampNeg (C 228 2)).2) := by
        intro F eF f28 f11 f14
        rw [← eF]
        have t484 : ev_At E K_N_wstat 484 [some (.ref 204), some (.int (nI f)), some (.int (nI k)), some (.int (nI u)), some (.int (nI d)), some (.int r5), some (.int (nU_m C k)), some (.int r7)] [] (hp_H (nU_2 F k (nU_m C k) (nU_g C k))) 0 0 (mm_D (some (.int (0, nU_3 (nU_2 F k (nU_m C k) (nU_g C k)) k (C 214 k).toNatClampNeg (C 228 2)).1)) (0, nU_3 (nU_2 F k (nU_m C k) (nU_g C k)) k (C 214 k).toNatClampNeg (C 228 2)).2) := by
          have g28 : nU_2 F k (nU_m C k) (nU_g C k) 228 2 = C 228 2 := by
            unfold nU_2
            rw [cs_ne _ _ (by omega), cs_ne _ _ (by omega)]
            exact f28 2
          have g14 : nU_2 F k (nU_m C k) (nU_g C k) 214 k = nI (C 214 k).toNatClampNeg := by
            unfold nU_2
            rw [cs_ne _ _ (by omega), cs_ne _ _ (by omega)]
            exact f14
          generalize nU_2 F k (nU_m C k) (nU_g C k) = G at g28 g14 ⊢
          rw [nU_3]
          refine ev_aload_n (pc := 484) d_N_wstat_484 rfl rfl (by first | rfl | exact mm_rk_rf _) ?_
          refine ev_gR (pc := 485) sh_N (by rfl) fl_N_87 d_N_wstat_485 ?_
          refine ev_iconst (pc := 488) (v := nI 2) d_N_wstat_488 rfl ?_
          refine ev_rIN (pc := 489) sh_N_n (by omega) (by decide) d_N_wstat_489 ?_
          rw [g28]
          refine ev_iconst (pc := 490) (v := -1) d_N_wstat_490 rfl ?_
          refine ev_icmp_eq (pc := 491) (tgt := 527) d_N_wstat_491 (by decide) (fun hx => ?_) (fun hx => ?_)
          · rw [if_pos hx]
            refine ev_iconst (pc := 527) (v := 0) d_N_wstat_527 rfl ?_
            exact ev_iret (pc := 528) d_N_wstat_528 rfl (Nat.zero_le _) (Nat.zero_le _) ⟨rfl, rfl⟩
          rw [if_neg hx]
          obtain ⟨n, hn16, en⟩ : ∃ n : Nat, n ≤ 16 ∧ C 228 2 = nI n := by
            rcases h1.1.2.2.1 with z | z
            · exact absurd z hx
            · exact nI_of2 (M := 16) (by decide) z.1 (Int32.not_lt.mp z.2)
          rw [en, nI_clamp (by omega)]
          refine ev_aload_n (pc := 494) d_N_wstat_494 rfl rfl (by first | rfl | exact mm_rk_rf _) ?_
          refine ev_gR (pc := 495) sh_N (by rfl) fl_N_32 d_N_wstat_495 ?_
          refine ev_iload_n (pc := 498) d_N_wstat_498 rfl rfl ?_
          refine ev_dup2 (pc := 499) d_N_wstat_499 (by rfl) (by rfl) ?_
          refine ev_rIN (pc := 500) sh_N_version (by omega) (by decide) d_N_wstat_500 ?_
          refine ev_iconst (pc := 501) (v := 1) d_N_wstat_501 rfl ?_
          refine ev_iadd (pc := 502) d_N_wstat_502 ?_
          refine ev_wIN (pc := 503) sh_N_version (by omega) (by decide) d_N_wstat_503 ?_
          refine ev_aload_n (pc := 504) d_N_wstat_504 rfl rfl (by first | rfl | exact mm_rk_rf _) ?_
          refine ev_iload_n (pc := 505) d_N_wstat_505 rfl rfl ?_
          refine ev_aload_n (pc := 506) d_N_wstat_506 rfl rfl (by first | rfl | exact mm_rk_rf _) ?_
          refine ev_gR (pc := 507) sh_N (by rfl) fl_N_87 d_N_wstat_507 ?_
          refine ev_iconst (pc := 510) (v := nI 2) d_N_wstat_510 rfl ?_
          refine ev_rIN (pc := 511) sh_N_n (by omega) (by decide) d_N_wstat_511 ?_
          rw [cs_ne _ _ (by omega)]
          rw [g28, en]
          refine ev_cVv (pc := 512) (ct_N_grow E _ (l := (C 214 k).toNatClampNeg) (n := n) v1 (by rw [cs_ne _ _ (by omega)]; exact g14) l16 hn16) cl_N_211 jv_N_grow ⟨(Nat.le_of_ble_eq_true rfl), (Nat.le_of_ble_eq_true rfl)⟩ rfl sh_N rfl (Nat.le_of_ble_eq_true rfl) d_N_wstat_512 ⟨Nat.zero_le _, Nat.zero_le _⟩ ?_
          have q28 : ∀ F : Nat → Nat → Int32, ng_C F k (C 214 k).toNatClampNeg n 228 2 = F 228 2 := by
            intro F
            unfold ng_C nz_C
            rw [cs_ne _ _ (by omega), if_neg (by omega)]
          refine ev_aload_n (pc := 515) d_N_wstat_515 rfl rfl (by first | rfl | exact mm_rk_rf _) ?_
          refine ev_gR (pc := 516) sh_N (by rfl) fl_N_38 d_N_wstat_516 ?_
          refine ev_iload_n (pc := 519) d_N_wstat_519 rfl rfl ?_
          refine ev_aload_n (pc := 520) d_N_wstat_520 rfl rfl (by first | rfl | exact mm_rk_rf _) ?_
          refine ev_gR (pc := 521) sh_N (by rfl) fl_N_87 d_N_wstat_521 ?_
          refine ev_iconst (pc := 524) (v := nI 2) d_N_wstat_524 rfl ?_
          refine ev_rIN (pc := 525) sh_N_n (by omega) (by decide) d_N_wstat_525 ?_
          rw [q28]
          rw [cs_ne _ _ (by omega)]
          rw [g28, en]
          refine ev_wIN (pc := 526) sh_N_length (by omega) (by decide) d_N_wstat_526 ?_
          refine ev_iconst (pc := 527) (v := 0) d_N_wstat_527 rfl ?_
          exact ev_iret (pc := 528) d_N_wstat_528 rfl (Nat.zero_le _) (Nat.zero_le _) ⟨rfl, rfl⟩
        refine ev_aload_n (pc := 445) d_N_wstat_445 rfl rfl (by first | rfl | exact mm_rk_rf _) ?_
        refine ev_gR (pc := 446) sh_N (by rfl) fl_N_35 d_N_wstat_446 ?_
        refine ev_iload_n (pc := 449) d_N_wstat_449 rfl rfl ?_
        refine ev_iload (pc := 450) d_N_wstat_450 rfl ?_
        refine ev_wIN (pc := 452) sh_N_mode (by omega) (by decide) d_N_wstat_452 ?_
        refine ev_aload_n (pc := 453) d_N_wstat_453 rfl rfl (by first | rfl | exact mm_rk_rf _) ?_
        refine ev_gR (pc := 454) sh_N (by rfl) fl_N_29 d_N_wstat_454 ?_
        refine ev_iload_n (pc := 457) d_N_wstat_457 rfl rfl ?_
        refine ev_aload_n (pc := 458) d_N_wstat_458 rfl rfl (by first | rfl | exact mm_rk_rf _) ?_
        refine ev_gR (pc := 459) sh_N (by rfl) fl_N_87 d_N_wstat_459 ?_
        refine ev_iconst (pc := 462) (v := nI 3) d_N_wstat_462 rfl ?_
        refine ev_rIN (pc := 463) sh_N_n (by omega) (by decide) d_N_wstat_463 ?_
        rw [cs_ne _ _ (by omega)]
        rw [f28]
        refine ev_iconst (pc := 464) (v := -1) d_N_wstat_464 rfl ?_
        refine ev_icmp_ne (pc := 465) (tgt := 477) d_N_wstat_465 (by decide) (fun hx => ?_) (fun hx => ?_)
        · refine ev_aload_n (pc := 477) d_N_wstat_477 rfl rfl (by first | rfl | exact mm_rk_rf _) ?_
          refine ev_gR (pc := 478) sh_N (by rfl) fl_N_87 d_N_wstat_478 ?_
          refine ev_iconst (pc := 481) (v := nI 3) d_N_wstat_481 rfl ?_
          refine ev_rIN (pc := 482) sh_N_n (by omega) (by decide) d_N_wstat_482 ?_
          rw [cs_ne _ _ (by omega)]
          rw [f28]
          refine ev_wIN (pc := 483) sh_N_group (by omega) (by decide) d_N_wstat_483 ?_
          have e1 : nU_g C k = C 228 3 := by rw [nU_g, if_neg hx]
          rw [e1] at t484 ⊢
          exact t484
        · refine ev_aload_n (pc := 468) d_N_wstat_468 rfl rfl (by first | rfl | exact mm_rk_rf _) ?_
          refine ev_gR (pc := 469) sh_N (by rfl) fl_N_29 d_N_wstat_469 ?_
          refine ev_iload_n (pc := 472) d_N_wstat_472 rfl rfl ?_
          refine ev_rIN (pc := 473) sh_N_group (by omega) (by decide) d_N_wstat_473 ?_
          refine ev_goto (pc := 474) (tgt := 483) d_N_wstat_474 (by decide) ?_
          rw [cs_ne _ _ (by omega)]
          rw [f11]
          refine ev_wIN (pc := 483) sh_N_group (by omega) (by decide) d_N_wstat_483 ?_
          have e1 : nU_g C k = C 211 k := by rw [nU_g, if_pos hx]
          rw [e1] at t484 ⊢
          exact t484
      refine ev_iload (pc := 417) d_N_wstat_417 rfl ?_
      refine ev_if_eq (pc := 419) (tgt := 445) d_N_wstat_419 (by decide) (fun hy => ?_) (fun hy => ?_)
      · exact t445 D (by rw [nU_1, if_neg (hr5.mp hy)]) n28 n11 n14
      have hren : nU_ren C k := Classical.not_not.mp (fun z => hy (hr5.mpr z))
      refine ev_aload_n (pc := 422) d_N_wstat_422 rfl rfl (by first | rfl | exact mm_rk_rf _) ?_
      refine ev_gR (pc := 423) sh_N (by rfl) fl_N_32 d_N_wstat_423 ?_
      refine ev_iload (pc := 426) d_N_wstat_426 rfl ?_
      refine ev_dup2 (pc := 428) d_N_wstat_428 (by rfl) (by rfl) ?_
      refine ev_rIN (pc := 429) sh_N_version (by omega) (by decide) d_N_wstat_429 ?_
      refine ev_iconst (pc := 430) (v := 1) d_N_wstat_430 rfl ?_
      refine ev_iadd (pc := 431) d_N_wstat_431 ?_
      refine ev_wIN (pc := 432) sh_N_version (by omega) (by decide) d_N_wstat_432 ?_
      refine ev_aload_n (pc := 433) d_N_wstat_433 rfl rfl (by first | rfl | exact mm_rk_rf _) ?_
      refine ev_gR (pc := 434) sh_N (by rfl) fl_N_23 d_N_wstat_434 ?_
      refine ev_iload_n (pc := 437) d_N_wstat_437 rfl rfl ?_
      refine ev_aload_n (pc := 438) d_N_wstat_438 rfl rfl (by first | rfl | exact mm_rk_rf _) ?_
      refine ev_gR (pc := 439) sh_N (by rfl) fl_N_87 d_N_wstat_439 ?_
      refine ev_iconst (pc := 442) (v := nI 0) d_N_wstat_442 rfl ?_
      refine ev_rIN (pc := 443) sh_N_n (by omega) (by decide) d_N_wstat_443 ?_
      rw [cs_ne _ _ (by omega)]
      rw [n28]
      refine ev_wIN (pc := 444) sh_N_title (by omega) (by decide) d_N_wstat_444 ?_
      refine t445 _ (by rw [nU_1, if_pos hren]) (fun j => ?_) ?_ ?_
      · rw [cs_ne _ _ (by omega), cs_ne _ _ (by omega)]
        exact n28 j
      · rw [cs_ne _ _ (by omega), cs_ne _ _ (by omega)]
        exact n11
      · rw [cs_ne _ _ (by omega), cs_ne _ _ (by omega)]
        exact n14
    have t348 : nU_can C k → nU_may C u k → ¬ (nU_ren C k ∧ ¬ nh_i C d (C 228 0) = none) → ∀ r5 : Int32, (r5 = 0 ↔ ¬ nU_ren C k) → ev_At E K_N_wstat 348 [some (.ref 204), some (.int (nI f)), some (.int (nI k)), some (.int (nI u)), some (.int (nI d)), some (.int r5), some (.int (nU_m C k)), none] [] (hp_H C) 0 0 (mm_D (some (.int R.1)) R.2) := by
      intro h1 h2 h3 r5 hr5
      have yes : ¬ (¬ nU_ren C k ∧ C 228 1 = -1 ∧ C 228 2 = -1 ∧ C 228 3 = -1) → ev_At E K_N_wstat 383 [some (.ref 204), some (.int (nI f)), some (.int (nI k)), some (.int (nI u)), some (.int (nI d)), some (.int r5), some (.int (nU_m C k)), none] [] (hp_H C) 0 0 (mm_D (some (.int R.1)) R.2) := by
        intro h4
        refine ev_iconst (pc := 383) (v := 1) d_N_wstat_383 rfl ?_
        refine ev_goto (pc := 384) (tgt := 388) d_N_wstat_384 (by decide) ?_
        refine ev_istore (pc := 388) d_N_wstat_388 (Nat.le_of_ble_eq_true rfl) rfl ?_
        try dsimp only [List.set]
        refine ev_iload (pc := 390) d_N_wstat_390 rfl ?_
        refine ev_if_ne (pc := 392) (tgt := 397) d_N_wstat_392 (by decide) (fun hx => ?_) (fun hx => ?_)
        rotate_left
        · exact absurd hx (by decide)
        have hnn : nn_n C s k ≤ 21 := by
          have h1 := n1_le (no_P C s (C 215 k))
          have h2 := nn_le C s 20 k
          unfold nn_n
          omega
        refine ev_aload_n (pc := 397) d_N_wstat_397 rfl rfl (by first | rfl | exact mm_rk_rf _) ?_
        refine ev_aload_n (pc := 398) d_N_wstat_398 rfl rfl (by first | rfl | exact mm_rk_rf _) ?_
        refine ev_iload_n (pc := 399) d_N_wstat_399 rfl rfl ?_
        refine ev_cV (pc := 400) (ct_N_needed E C hm hp es s4 v3) cl_N_196 jv_N_needed ⟨(Nat.le_of_ble_eq_true rfl), (Nat.le_of_ble_eq_true rfl)⟩ rfl sh_N rfl (Nat.le_of_ble_eq_true rfl) d_N_wstat_400 ⟨Nat.zero_le _, Nat.zero_le _⟩ ?_
        refine ev_cV (pc := 403) (ct_N_fits E C hm es s4 (by omega)) cl_N_199 jv_N_fits ⟨(Nat.le_of_ble_eq_true rfl), (Nat.le_of_ble_eq_true rfl)⟩ rfl sh_N rfl (Nat.le_of_ble_eq_true rfl) d_N_wstat_403 ⟨Nat.zero_le _, Nat.zero_le _⟩ ?_
        refine ev_if_ne (pc := 406) (tgt := 412) d_N_wstat_406 (by decide) (fun h5 => ?_) (fun h5 => ?_)
        · rw [b2_0, Classical.not_not] at h5
          exact t412 h1 h2 h3 h4 h5 r5 1 hr5
        · rw [b2_0] at h5
          rw [show R = (-11, C) by rw [eR, it_t h1, it_t h2, nU_K, ← ed, if_neg h3, if_neg h4, if_neg h5]]
          refine ev_bipush (pc := 409) (v := -11) d_N_wstat_409 (by decide) ?_
          exact ev_iret (pc := 411) d_N_wstat_411 rfl (Nat.zero_le _) (Nat.zero_le _) ⟨rfl, rfl⟩
      refine ev_iload (pc := 348) d_N_wstat_348 rfl ?_
      refine ev_if_ne (pc := 350) (tgt := 383) d_N_wstat_350 (by decide) (fun g0 => ?_) (fun g0 => ?_)
      · exact yes (fun z => g0 (hr5.mpr z.1))
      refine ev_aload_n (pc := 353) d_N_wstat_353 rfl rfl (by first | rfl | exact mm_rk_rf _) ?_
      refine ev_gR (pc := 354) sh_N (by rfl) fl_N_87 d_N_wstat_354 ?_
      refine ev_iconst (pc := 357) (v := nI 1) d_N_wstat_357 rfl ?_
      refine ev_rIN (pc := 358) sh_N_n (by omega) (by decide) d_N_wstat_358 ?_
      refine ev_iconst (pc := 359) (v := -1) d_N_wstat_359 rfl ?_
      refine ev_icmp_ne (pc := 360) (tgt := 383) d_N_wstat_360 (by decide) (fun g1 => ?_) (fun g1 => ?_)
      · exact yes (fun z => g1 z.2.1)
      refine ev_aload_n (pc := 363) d_N_wstat_363 rfl rfl (by first | rfl | exact mm_rk_rf _) ?_
      refine ev_gR (pc := 364) sh_N (by rfl) fl_N_87 d_N_wstat_364 ?_
      refine ev_iconst (pc := 367) (v := nI 2) d_N_wstat_367 rfl ?_
      refine ev_rIN (pc := 368) sh_N_n (by omega) (by decide) d_N_wstat_368 ?_
      refine ev_iconst (pc := 369) (v := -1) d_N_wstat_369 rfl ?_
      refine ev_icmp_ne (pc := 370) (tgt := 383) d_N_wstat_370 (by decide) (fun g2 => ?_) (fun g2 => ?_)
      · exact yes (fun z => g2 z.2.2.1)
      refine ev_aload_n (pc := 373) d_N_wstat_373 rfl rfl (by first | rfl | exact mm_rk_rf _) ?_
      refine ev_gR (pc := 374) sh_N (by rfl) fl_N_87 d_N_wstat_374 ?_
      refine ev_iconst (pc := 377) (v := nI 3) d_N_wstat_377 rfl ?_
      refine ev_rIN (pc := 378) sh_N_n (by omega) (by decide) d_N_wstat_378 ?_
      refine ev_iconst (pc := 379) (v := -1) d_N_wstat_379 rfl ?_
      refine ev_icmp_eq (pc := 380) (tgt := 387) d_N_wstat_380 (by decide) (fun g3 => ?_) (fun g3 => ?_)
      rotate_left
      · exact yes (fun z => g3 z.2.2.2)
      rw [show R = (0, C) by rw [eR, it_t h1, it_t h2, nU_K, ← ed, if_neg h3, if_pos ⟨hr5.mp g0, g1, g2, g3⟩]]
      refine ev_iconst (pc := 387) (v := 0) d_N_wstat_387 rfl ?_
      refine ev_istore (pc := 388) d_N_wstat_388 (Nat.le_of_ble_eq_true rfl) rfl ?_
      try dsimp only [List.set]
      refine ev_iload (pc := 390) d_N_wstat_390 rfl ?_
      refine ev_if_ne (pc := 392) (tgt := 397) d_N_wstat_392 (by decide) (fun hx => ?_) (fun hx => ?_)
      · exact absurd rfl hx
      refine ev_iconst (pc := 395) (v := 0) d_N_wstat_395 rfl ?_
      exact ev_iret (pc := 396) d_N_wstat_396 rfl (Nat.zero_le _) (Nat.zero_le _) ⟨rfl, rfl⟩
    have t310 : nU_can C k → nU_may C u k → ¬ (nU_ren C k ∧ ¬ nh_i C d (C 228 0) = none) → ∀ r5 : Int32, (r5 = 0 ↔ ¬ nU_ren C k) → ev_At E K_N_wstat 310 [some (.ref 204), some (.int (nI f)), some (.int (nI k)), some (.int (nI u)), some (.int (nI d)), some (.int r5), none, none] [] (hp_H C) 0 0 (mm_D (some (.int R.1)) R.2) := by
      intro h1 h2 h3 r5 hr5
      have t9 := t348 h1 h2 h3 r5 hr5
      refine ev_aload_n (pc := 310) d_N_wstat_310 rfl rfl (by first | rfl | exact mm_rk_rf _) ?_
      refine ev_gR (pc := 311) sh_N (by rfl) fl_N_87 d_N_wstat_311 ?_
      refine ev_iconst (pc := 314) (v := nI 1) d_N_wstat_314 rfl ?_
      refine ev_rIN (pc := 315) sh_N_n (by omega) (by decide) d_N_wstat_315 ?_
      refine ev_iconst (pc := 316) (v := -1) d_N_wstat_316 rfl ?_
      refine ev_icmp_ne (pc := 317) (tgt := 329) d_N_wstat_317 (by decide) (fun g0 => ?_) (fun g0 => ?_)
      · refine ev_aload_n (pc := 329) d_N_wstat_329 rfl rfl (by first | rfl | exact mm_rk_rf _) ?_
        refine ev_gR (pc := 330) sh_N (by rfl) fl_N_35 d_N_wstat_330 ?_
        refine ev_iload_n (pc := 333) d_N_wstat_333 rfl rfl ?_
        refine ev_rIN (pc := 334) sh_N_mode (by omega) (by decide) d_N_wstat_334 ?_
        refine ev_sipush (pc := 335) (v := 2048) d_N_wstat_335 (by decide) ?_
        refine ev_iand (pc := 338) d_N_wstat_338 ?_
        refine ev_aload_n (pc := 339) d_N_wstat_339 rfl rfl (by first | rfl | exact mm_rk_rf _) ?_
        refine ev_gR (pc := 340) sh_N (by rfl) fl_N_87 d_N_wstat_340 ?_
        refine ev_iconst (pc := 343) (v := nI 1) d_N_wstat_343 rfl ?_
        refine ev_rIN (pc := 344) sh_N_n (by omega) (by decide) d_N_wstat_344 ?_
        refine ev_ior (pc := 345) d_N_wstat_345 ?_
        refine ev_istore (pc := 346) d_N_wstat_346 (Nat.le_of_ble_eq_true rfl) rfl ?_
        try dsimp only [List.set]
        rw [nU_m, if_neg g0] at t9
        exact t9
      · refine ev_aload_n (pc := 320) d_N_wstat_320 rfl rfl (by first | rfl | exact mm_rk_rf _) ?_
        refine ev_gR (pc := 321) sh_N (by rfl) fl_N_35 d_N_wstat_321 ?_
        refine ev_iload_n (pc := 324) d_N_wstat_324 rfl rfl ?_
        refine ev_rIN (pc := 325) sh_N_mode (by omega) (by decide) d_N_wstat_325 ?_
        refine ev_goto (pc := 326) (tgt := 346) d_N_wstat_326 (by decide) ?_
        refine ev_istore (pc := 346) d_N_wstat_346 (Nat.le_of_ble_eq_true rfl) rfl ?_
        try dsimp only [List.set]
        rw [nU_m, if_pos g0] at t9
        exact t9
    have t285 : nU_can C k → nU_may C u k → ∀ r5 : Int32, (r5 = 0 ↔ ¬ nU_ren C k) → ev_At E K_N_wstat 285 [some (.ref 204), some (.int (nI f)), some (.int (nI k)), some (.int (nI u)), some (.int (nI d)), none, none, none] [.int r5] (hp_H C) 0 0 (mm_D (some (.int R.1)) R.2) := by
      intro h1 h2 r5 hr5
      refine ev_istore (pc := 285) d_N_wstat_285 (Nat.le_of_ble_eq_true rfl) rfl ?_
      try dsimp only [List.set]
      refine ev_iload (pc := 287) d_N_wstat_287 rfl ?_
      refine ev_if_eq (pc := 289) (tgt := 310) d_N_wstat_289 (by decide) (fun g0 => ?_) (fun g0 => ?_)
      · exact t310 h1 h2 (fun z => hr5.mp g0 z.1) r5 hr5
      refine ev_aload_n (pc := 292) d_N_wstat_292 rfl rfl (by first | rfl | exact mm_rk_rf _) ?_
      refine ev_iload (pc := 293) d_N_wstat_293 rfl ?_
      refine ev_aload_n (pc := 295) d_N_wstat_295 rfl rfl (by first | rfl | exact mm_rk_rf _) ?_
      refine ev_gR (pc := 296) sh_N (by rfl) fl_N_87 d_N_wstat_296 ?_
      refine ev_iconst (pc := 299) (v := nI 0) d_N_wstat_299 rfl ?_
      refine ev_rIN (pc := 300) sh_N_n (by omega) (by decide) d_N_wstat_300 ?_
      refine ev_cV (pc := 301) (ct_N_child E C hm hd3 _) cl_N_181 jv_N_child ⟨(Nat.le_of_ble_eq_true rfl), (Nat.le_of_ble_eq_true rfl)⟩ rfl sh_N rfl (Nat.le_of_ble_eq_true rfl) d_N_wstat_301 ⟨Nat.zero_le _, Nat.zero_le _⟩ ?_
      refine ev_if_lt (pc := 304) (tgt := 310) d_N_wstat_304 (by decide) (fun g1 => ?_) (fun g1 => ?_)
      · rw [oI_neg (fun j hj => Nat.lt_trans (nh_lt hm hd3 hj) (by decide))] at g1
        exact t310 h1 h2 (fun z => z.2 g1) r5 hr5
      rw [oI_neg (fun j hj => Nat.lt_trans (nh_lt hm hd3 hj) (by decide))] at g1
      rw [show R = (-6, C) by rw [eR, it_t h1, it_t h2, nU_K, ← ed, if_pos ⟨Classical.not_not.mp (fun z => g0 (hr5.mpr z)), g1⟩]]
      refine ev_bipush (pc := 307) (v := -6) d_N_wstat_307 (by decide) ?_
      exact ev_iret (pc := 309) d_N_wstat_309 rfl (Nat.zero_le _) (Nat.zero_le _) ⟨rfl, rfl⟩
    have t255 : nU_can C k → nU_may C u k → ev_At E K_N_wstat 255 [some (.ref 204), some (.int (nI f)), some (.int (nI k)), some (.int (nI u)), some (.int (nI d)), none, none, none] [] (hp_H C) 0 0 (mm_D (some (.int R.1)) R.2) := by
      intro h1 h2
      refine ev_aload_n (pc := 255) d_N_wstat_255 rfl rfl (by first | rfl | exact mm_rk_rf _) ?_
      refine ev_gR (pc := 256) sh_N (by rfl) fl_N_87 d_N_wstat_256 ?_
      refine ev_iconst (pc := 259) (v := nI 0) d_N_wstat_259 rfl ?_
      refine ev_rIN (pc := 260) sh_N_n (by omega) (by decide) d_N_wstat_260 ?_
      refine ev_iconst (pc := 261) (v := -1) d_N_wstat_261 rfl ?_
      refine ev_icmp_eq (pc := 262) (tgt := 284) d_N_wstat_262 (by decide) (fun g0 => ?_) (fun g0 => ?_)
      · refine ev_iconst (pc := 284) (v := 0) d_N_wstat_284 rfl ?_
        exact t285 h1 h2 0 ⟨fun _ z => z.1 g0, fun _ => rfl⟩
      refine ev_aload_n (pc := 265) d_N_wstat_265 rfl rfl (by first | rfl | exact mm_rk_rf _) ?_
      refine ev_gR (pc := 266) sh_N (by rfl) fl_N_87 d_N_wstat_266 ?_
      refine ev_iconst (pc := 269) (v := nI 0) d_N_wstat_269 rfl ?_
      refine ev_rIN (pc := 270) sh_N_n (by omega) (by decide) d_N_wstat_270 ?_
      refine ev_aload_n (pc := 271) d_N_wstat_271 rfl rfl (by first | rfl | exact mm_rk_rf _) ?_
      refine ev_gR (pc := 272) sh_N (by rfl) fl_N_23 d_N_wstat_272 ?_
      refine ev_iload_n (pc := 275) d_N_wstat_275 rfl rfl ?_
      refine ev_rIN (pc := 276) sh_N_title (by omega) (by decide) d_N_wstat_276 ?_
      refine ev_icmp_eq (pc := 277) (tgt := 284) d_N_wstat_277 (by decide) (fun g1 => ?_) (fun g1 => ?_)
      · refine ev_iconst (pc := 284) (v := 0) d_N_wstat_284 rfl ?_
        exact t285 h1 h2 0 ⟨fun _ z => z.2 g1, fun _ => rfl⟩
      · refine ev_iconst (pc := 280) (v := 1) d_N_wstat_280 rfl ?_
        refine ev_goto (pc := 281) (tgt := 285) d_N_wstat_281 (by decide) ?_
        exact t285 h1 h2 1 ⟨fun z => absurd z (by decide), fun z => absurd ⟨g0, g1⟩ z⟩
    have t139 : nU_can C k → ev_At E K_N_wstat 139 [some (.ref 204), some (.int (nI f)), some (.int (nI k)), none, none, none, none, none] [] (hp_H C) 0 0 (mm_D (some (.int R.1)) R.2) := by
      intro h1
      have no : ¬ nU_may C u k → ev_At E K_N_wstat 252 [some (.ref 204), some (.int (nI f)), some (.int (nI k)), some (.int (nI u)), some (.int (nI d)), none, none, none] [] (hp_H C) 0 0 (mm_D (some (.int R.1)) R.2) := by
        intro h2
        rw [deny h1 h2]
        refine ev_bipush (pc := 252) (v := -5) d_N_wstat_252 (by decide) ?_
        exact ev_iret (pc := 254) d_N_wstat_254 rfl (Nat.zero_le _) (Nat.zero_le _) ⟨rfl, rfl⟩
      have t224 : (C 228 0 = -1 ∨ nY C u d 2) → ((C 228 1 = -1 ∧ C 228 3 = -1) ∨ C 210 k = nI u) → (C 228 2 = -1 ∨ nY C u k 2) → ev_At E K_N_wstat 224 [some (.ref 204), some (.int (nI f)), some (.int (nI k)), some (.int (nI u)), some (.int (nI d)), none, none, none] [] (hp_H C) 0 0 (mm_D (some (.int R.1)) R.2) := by
        intro q1 q2 q3
        rw [ed] at q1
        refine ev_aload_n (pc := 224) d_N_wstat_224 rfl rfl (by first | rfl | exact mm_rk_rf _) ?_
        refine ev_gR (pc := 225) sh_N (by rfl) fl_N_87 d_N_wstat_225 ?_
        refine ev_iconst (pc := 228) (v := nI 3) d_N_wstat_228 rfl ?_
        refine ev_rIN (pc := 229) sh_N_n (by omega) (by decide) d_N_wstat_229 ?_
        refine ev_iconst (pc := 230) (v := -1) d_N_wstat_230 rfl ?_
        refine ev_icmp_eq (pc := 231) (tgt := 255) d_N_wstat_231 (by decide) (fun g1 => ?_) (fun g1 => ?_)
        · exact t255 h1 ⟨q1, q2, q3, Or.inl g1⟩
        obtain ⟨n, hn4, en⟩ : ∃ n : Nat, n ≤ 3 ∧ C 228 3 = nI n := by
          rcases h1.1.2.2.2 with z | z
          · exact absurd z g1
          · exact nI_of2 (M := 3) (by decide) z.1 (Int32.not_lt.mp z.2)
        have ecl : (C 228 3).toNatClampNeg = n := by rw [en, nI_clamp (by omega)]
        refine ev_aload_n (pc := 234) d_N_wstat_234 rfl rfl (by first | rfl | exact mm_rk_rf _) ?_
        refine ev_gR (pc := 235) sh_N (by rfl) fl_N_7 d_N_wstat_235 ?_
        refine ev_iconst (pc := 238) (v := nI 4) d_N_wstat_238 rfl ?_
        refine ev_iload_n (pc := 239) d_N_wstat_239 rfl rfl ?_
        first | refine ev_imulN (pc := 240) d_N_wstat_240 ?_ | refine ev_imul (pc := 240) d_N_wstat_240 ?_
        refine ev_aload_n (pc := 241) d_N_wstat_241 rfl rfl (by first | rfl | exact mm_rk_rf _) ?_
        refine ev_gR (pc := 242) sh_N (by rfl) fl_N_87 d_N_wstat_242 ?_
        refine ev_iconst (pc := 245) (v := nI 3) d_N_wstat_245 rfl ?_
        refine ev_rIN (pc := 246) sh_N_n (by omega) (by decide) d_N_wstat_246 ?_
        rw [en]
        first | refine ev_iaddN (pc := 247) d_N_wstat_247 ?_ | refine ev_iadd (pc := 247) d_N_wstat_247 ?_
        refine ev_rZN (pc := 248) sh_N_members (by omega) (by decide) d_N_wstat_248 ?_
        refine ev_if_ne (pc := 249) (tgt := 255) d_N_wstat_249 (by decide) (fun g2 => ?_) (fun g2 => ?_)
        · exact t255 h1 ⟨q1, q2, q3, Or.inr (by rw [ecl]; exact g2)⟩
        · exact no (fun z => z.2.2.2.elim g1 (fun y => by rw [ecl] at y; exact y g2))
      have t204 : (C 228 0 = -1 ∨ nY C u d 2) → ((C 228 1 = -1 ∧ C 228 3 = -1) ∨ C 210 k = nI u) → ev_At E K_N_wstat 204 [some (.ref 204), some (.int (nI f)), some (.int (nI k)), some (.int (nI u)), some (.int (nI d)), none, none, none] [] (hp_H C) 0 0 (mm_D (some (.int R.1)) R.2) := by
        intro q1 q2
        refine ev_aload_n (pc := 204) d_N_wstat_204 rfl rfl (by first | rfl | exact mm_rk_rf _) ?_
        refine ev_gR (pc := 205) sh_N (by rfl) fl_N_87 d_N_wstat_205 ?_
        refine ev_iconst (pc := 208) (v := nI 2) d_N_wstat_208 rfl ?_
        refine ev_rIN (pc := 209) sh_N_n (by omega) (by decide) d_N_wstat_209 ?_
        refine ev_iconst (pc := 210) (v := -1) d_N_wstat_210 rfl ?_
        refine ev_icmp_eq (pc := 211) (tgt := 224) d_N_wstat_211 (by decide) (fun g1 => ?_) (fun g1 => ?_)
        · exact t224 q1 q2 (Or.inl g1)
        refine ev_aload_n (pc := 214) d_N_wstat_214 rfl rfl (by first | rfl | exact mm_rk_rf _) ?_
        refine ev_iload_n (pc := 215) d_N_wstat_215 rfl rfl ?_
        refine ev_iload_n (pc := 216) d_N_wstat_216 rfl rfl ?_
        refine ev_iconst (pc := 217) (v := 2) d_N_wstat_217 rfl ?_
        refine ev_cV (pc := 218) (ct_N_has E C hg hu4 v1 2) cl_N_177 jv_N_has ⟨(Nat.le_of_ble_eq_true rfl), (Nat.le_of_ble_eq_true rfl)⟩ rfl sh_N rfl (Nat.le_of_ble_eq_true rfl) d_N_wstat_218 ⟨Nat.zero_le _, Nat.zero_le _⟩ ?_
        refine ev_if_eq (pc := 221) (tgt := 252) d_N_wstat_221 (by decide) (fun g2 => ?_) (fun g2 => ?_)
        · rw [b2_0] at g2
          exact no (fun z => z.2.2.1.elim g1 g2)
        · rw [b2_0, Classical.not_not] at g2
          exact t224 q1 q2 (Or.inr g2)
      have t174 : (C 228 0 = -1 ∨ nY C u d 2) → ev_At E K_N_wstat 174 [some (.ref 204), some (.int (nI f)), some (.int (nI k)), some (.int (nI u)), some (.int (nI d)), none, none, none] [] (hp_H C) 0 0 (mm_D (some (.int R.1)) R.2) := by
        intro q1
        have t194 : ¬ (C 228 1 = -1 ∧ C 228 3 = -1) → ev_At E K_N_wstat 194 [some (.ref 204), some (.int (nI f)), some (.int (nI k)), some (.int (nI u)), some (.int (nI d)), none, none, none] [] (hp_H C) 0 0 (mm_D (some (.int R.1)) R.2) := by
          intro hno
          refine ev_aload_n (pc := 194) d_N_wstat_194 rfl rfl (by first | rfl | exact mm_rk_rf _) ?_
          refine ev_gR (pc := 195) sh_N (by rfl) fl_N_26 d_N_wstat_195 ?_
          refine ev_iload_n (pc := 198) d_N_wstat_198 rfl rfl ?_
          refine ev_rIN (pc := 199) sh_N_owner (by omega) (by decide) d_N_wstat_199 ?_
          refine ev_iload_n (pc := 200) d_N_wstat_200 rfl rfl ?_
          refine ev_icmp_ne (pc := 201) (tgt := 252) d_N_wstat_201 (by decide) (fun g1 => ?_) (fun g1 => ?_)
          · exact no (fun z => z.2.1.elim hno g1)
          · exact t204 q1 (Or.inr g1)
        refine ev_aload_n (pc := 174) d_N_wstat_174 rfl rfl (by first | rfl | exact mm_rk_rf _) ?_
        refine ev_gR (pc := 175) sh_N (by rfl) fl_N_87 d_N_wstat_175 ?_
        refine ev_iconst (pc := 178) (v := nI 1) d_N_wstat_178 rfl ?_
        refine ev_rIN (pc := 179) sh_N_n (by omega) (by decide) d_N_wstat_179 ?_
        refine ev_iconst (pc := 180) (v := -1) d_N_wstat_180 rfl ?_
        refine ev_icmp_ne (pc := 181) (tgt := 194) d_N_wstat_181 (by decide) (fun g1 => ?_) (fun g1 => ?_)
        · exact t194 (fun z => g1 z.1)
        refine ev_aload_n (pc := 184) d_N_wstat_184 rfl rfl (by first | rfl | exact mm_rk_rf _) ?_
        refine ev_gR (pc := 185) sh_N (by rfl) fl_N_87 d_N_wstat_185 ?_
        refine ev_iconst (pc := 188) (v := nI 3) d_N_wstat_188 rfl ?_
        refine ev_rIN (pc := 189) sh_N_n (by omega) (by decide) d_N_wstat_189 ?_
        refine ev_iconst (pc := 190) (v := -1) d_N_wstat_190 rfl ?_
        refine ev_icmp_eq (pc := 191) (tgt := 204) d_N_wstat_191 (by decide) (fun g2 => ?_) (fun g2 => ?_)
        · exact t204 q1 (Or.inl ⟨g1, g2⟩)
        · exact t194 (fun z => g2 z.2)
      refine ev_aload_n (pc := 139) d_N_wstat_139 rfl rfl (by first | rfl | exact mm_rk_rf _) ?_
      refine ev_gR (pc := 140) sh_N (by rfl) fl_N_54 d_N_wstat_140 ?_
      refine ev_iload_n (pc := 143) d_N_wstat_143 rfl rfl ?_
      refine ev_rIN (pc := 144) sh_N_user (by omega) (by decide) d_N_wstat_144 ?_
      rw [eu1]
      refine ev_istore_n (pc := 145) d_N_wstat_145 rfl (Nat.le_of_ble_eq_true rfl) rfl ?_
      try dsimp only [List.set]
      refine ev_aload_n (pc := 146) d_N_wstat_146 rfl rfl (by first | rfl | exact mm_rk_rf _) ?_
      refine ev_iload_n (pc := 147) d_N_wstat_147 rfl rfl ?_
      refine ev_cV (pc := 148) (ct_N_parent E C hm v1) cl_N_154 jv_N_parent ⟨(Nat.le_of_ble_eq_true rfl), (Nat.le_of_ble_eq_true rfl)⟩ rfl sh_N rfl (Nat.le_of_ble_eq_true rfl) d_N_wstat_148 ⟨Nat.zero_le _, Nat.zero_le _⟩ ?_
      rw [hd1, show oI (some d) = nI d from rfl]
      refine ev_istore (pc := 151) d_N_wstat_151 (Nat.le_of_ble_eq_true rfl) rfl ?_
      try dsimp only [List.set]
      refine ev_aload_n (pc := 153) d_N_wstat_153 rfl rfl (by first | rfl | exact mm_rk_rf _) ?_
      refine ev_gR (pc := 154) sh_N (by rfl) fl_N_87 d_N_wstat_154 ?_
      refine ev_iconst (pc := 157) (v := nI 0) d_N_wstat_157 rfl ?_
      refine ev_rIN (pc := 158) sh_N_n (by omega) (by decide) d_N_wstat_158 ?_
      refine ev_iconst (pc := 159) (v := -1) d_N_wstat_159 rfl ?_
      refine ev_icmp_eq (pc := 160) (tgt := 174) d_N_wstat_160 (by decide) (fun g1 => ?_) (fun g1 => ?_)
      · exact t174 (Or.inl g1)
      refine ev_aload_n (pc := 163) d_N_wstat_163 rfl rfl (by first | rfl | exact mm_rk_rf _) ?_
      refine ev_iload_n (pc := 164) d_N_wstat_164 rfl rfl ?_
      refine ev_iload (pc := 165) d_N_wstat_165 rfl ?_
      refine ev_iconst (pc := 167) (v := 2) d_N_wstat_167 rfl ?_
      refine ev_cV (pc := 168) (ct_N_has E C hg hu4 hd3 2) cl_N_177 jv_N_has ⟨(Nat.le_of_ble_eq_true rfl), (Nat.le_of_ble_eq_true rfl)⟩ rfl sh_N rfl (Nat.le_of_ble_eq_true rfl) d_N_wstat_168 ⟨Nat.zero_le _, Nat.zero_le _⟩ ?_
      refine ev_if_eq (pc := 171) (tgt := 252) d_N_wstat_171 (by decide) (fun g2 => ?_) (fun g2 => ?_)
      · rw [b2_0] at g2
        exact no (fun z => by rw [nU_may, ← ed] at z; exact z.1.elim g1 g2)
      · rw [b2_0, Classical.not_not] at g2
        exact t174 (Or.inr g2)
    have bad96 : ¬ nU_can C k → ev_At E K_N_wstat 96 [some (.ref 204), some (.int (nI f)), some (.int (nI k)), none, none, none, none, none] [] (hp_H C) 0 0 (mm_D (some (.int R.1)) R.2) := by
      intro h1
      rw [wrong h1]
      refine ev_bipush (pc := 96) (v := -7) d_N_wstat_96 (by decide) ?_
      exact ev_iret (pc := 98) d_N_wstat_98 rfl (Nat.zero_le _) (Nat.zero_le _) ⟨rfl, rfl⟩
    have bad136 : ¬ nU_can C k → ev_At E K_N_wstat 136 [some (.ref 204), some (.int (nI f)), some (.int (nI k)), none, none, none, none, none] [] (hp_H C) 0 0 (mm_D (some (.int R.1)) R.2) := by
      intro h1
      rw [wrong h1]
      refine ev_bipush (pc := 136) (v := -7) d_N_wstat_136 (by decide) ?_
      exact ev_iret (pc := 138) d_N_wstat_138 rfl (Nat.zero_le _) (Nat.zero_le _) ⟨rfl, rfl⟩
    refine ev_aload_n (pc := 36) d_N_wstat_36 rfl rfl (by first | rfl | exact mm_rk_rf _) ?_
    refine ev_gR (pc := 37) sh_N (by rfl) fl_N_87 d_N_wstat_37 ?_
    refine ev_iconst (pc := 40) (v := nI 0) d_N_wstat_40 rfl ?_
    refine ev_rIN (pc := 41) sh_N_n (by omega) (by decide) d_N_wstat_41 ?_
    refine ev_iconst (pc := 42) (v := 1) d_N_wstat_42 rfl ?_
    refine ev_bipush (pc := 43) (v := 99) d_N_wstat_43 (by decide) ?_
    refine ev_cS (pc := 45) (ct_N_within E C _ _ _) cl_N_222 js_N_within ⟨(Nat.le_of_ble_eq_true rfl), (Nat.le_of_ble_eq_true rfl)⟩ rfl rfl (Nat.le_of_ble_eq_true rfl) d_N_wstat_45 ⟨Nat.zero_le _, Nat.zero_le _⟩ ?_
    refine ev_if_eq (pc := 48) (tgt := 96) d_N_wstat_48 (by decide) (fun g1 => ?_) (fun g1 => ?_)
    · rw [b2_0] at g1
      exact bad96 (fun z => g1 z.1.1)
    rw [b2_0, Classical.not_not] at g1
    refine ev_aload_n (pc := 51) d_N_wstat_51 rfl rfl (by first | rfl | exact mm_rk_rf _) ?_
    refine ev_gR (pc := 52) sh_N (by rfl) fl_N_87 d_N_wstat_52 ?_
    refine ev_iconst (pc := 55) (v := nI 1) d_N_wstat_55 rfl ?_
    refine ev_rIN (pc := 56) sh_N_n (by omega) (by decide) d_N_wstat_56 ?_
    refine ev_iconst (pc := 57) (v := 0) d_N_wstat_57 rfl ?_
    refine ev_sipush (pc := 58) (v := 2047) d_N_wstat_58 (by decide) ?_
    refine ev_cS (pc := 61) (ct_N_within E C _ _ _) cl_N_222 js_N_within ⟨(Nat.le_of_ble_eq_true rfl), (Nat.le_of_ble_eq_true rfl)⟩ rfl rfl (Nat.le_of_ble_eq_true rfl) d_N_wstat_61 ⟨Nat.zero_le _, Nat.zero_le _⟩ ?_
    refine ev_if_eq (pc := 64) (tgt := 96) d_N_wstat_64 (by decide) (fun g2 => ?_) (fun g2 => ?_)
    · rw [b2_0] at g2
      exact bad96 (fun z => g2 z.1.2.1)
    rw [b2_0, Classical.not_not] at g2
    refine ev_aload_n (pc := 67) d_N_wstat_67 rfl rfl (by first | rfl | exact mm_rk_rf _) ?_
    refine ev_gR (pc := 68) sh_N (by rfl) fl_N_87 d_N_wstat_68 ?_
    refine ev_iconst (pc := 71) (v := nI 2) d_N_wstat_71 rfl ?_
    refine ev_rIN (pc := 72) sh_N_n (by omega) (by decide) d_N_wstat_72 ?_
    refine ev_iconst (pc := 73) (v := 0) d_N_wstat_73 rfl ?_
    refine ev_bipush (pc := 74) (v := 16) d_N_wstat_74 (by decide) ?_
    refine ev_cS (pc := 76) (ct_N_within E C _ _ _) cl_N_222 js_N_within ⟨(Nat.le_of_ble_eq_true rfl), (Nat.le_of_ble_eq_true rfl)⟩ rfl rfl (Nat.le_of_ble_eq_true rfl) d_N_wstat_76 ⟨Nat.zero_le _, Nat.zero_le _⟩ ?_
    refine ev_if_eq (pc := 79) (tgt := 96) d_N_wstat_79 (by decide) (fun g3 => ?_) (fun g3 => ?_)
    · rw [b2_0] at g3
      exact bad96 (fun z => g3 z.1.2.2.1)
    rw [b2_0, Classical.not_not] at g3
    refine ev_aload_n (pc := 82) d_N_wstat_82 rfl rfl (by first | rfl | exact mm_rk_rf _) ?_
    refine ev_gR (pc := 83) sh_N (by rfl) fl_N_87 d_N_wstat_83 ?_
    refine ev_iconst (pc := 86) (v := nI 3) d_N_wstat_86 rfl ?_
    refine ev_rIN (pc := 87) sh_N_n (by omega) (by decide) d_N_wstat_87 ?_
    refine ev_iconst (pc := 88) (v := 0) d_N_wstat_88 rfl ?_
    refine ev_iconst (pc := 89) (v := 3) d_N_wstat_89 rfl ?_
    refine ev_cS (pc := 90) (ct_N_within E C _ _ _) cl_N_222 js_N_within ⟨(Nat.le_of_ble_eq_true rfl), (Nat.le_of_ble_eq_true rfl)⟩ rfl rfl (Nat.le_of_ble_eq_true rfl) d_N_wstat_90 ⟨Nat.zero_le _, Nat.zero_le _⟩ ?_
    refine ev_if_ne (pc := 93) (tgt := 99) d_N_wstat_93 (by decide) (fun g4 => ?_) (fun g4 => ?_)
    rotate_left
    · rw [b2_0] at g4
      exact bad96 (fun z => g4 z.1.2.2.2)
    rw [b2_0, Classical.not_not] at g4
    have t118 : (C 228 0 = -1 ∨ ¬ C 208 k < 0) → ev_At E K_N_wstat 118 [some (.ref 204), some (.int (nI f)), some (.int (nI k)), none, none, none, none, none] [] (hp_H C) 0 0 (mm_D (some (.int R.1)) R.2) := by
      intro q1
      refine ev_aload_n (pc := 118) d_N_wstat_118 rfl rfl (by first | rfl | exact mm_rk_rf _) ?_
      refine ev_gR (pc := 119) sh_N (by rfl) fl_N_87 d_N_wstat_119 ?_
      refine ev_iconst (pc := 122) (v := nI 2) d_N_wstat_122 rfl ?_
      refine ev_rIN (pc := 123) sh_N_n (by omega) (by decide) d_N_wstat_123 ?_
      refine ev_iconst (pc := 124) (v := -1) d_N_wstat_124 rfl ?_
      refine ev_icmp_eq (pc := 125) (tgt := 139) d_N_wstat_125 (by decide) (fun g5 => ?_) (fun g5 => ?_)
      · exact t139 ⟨⟨g1, g2, g3, g4⟩, q1, Or.inl g5⟩
      refine ev_aload_n (pc := 128) d_N_wstat_128 rfl rfl (by first | rfl | exact mm_rk_rf _) ?_
      refine ev_iload_n (pc := 129) d_N_wstat_129 rfl rfl ?_
      refine ev_cV (pc := 130) (ct_N_isDirectory E C v1) cl_N_174 jv_N_isDirectory ⟨(Nat.le_of_ble_eq_true rfl), (Nat.le_of_ble_eq_true rfl)⟩ rfl sh_N rfl (Nat.le_of_ble_eq_true rfl) d_N_wstat_130 ⟨Nat.zero_le _, Nat.zero_le _⟩ ?_
      refine ev_if_eq (pc := 133) (tgt := 139) d_N_wstat_133 (by decide) (fun g6 => ?_) (fun g6 => ?_)
      · rw [b2_0, Classical.not_not] at g6
        exact t139 ⟨⟨g1, g2, g3, g4⟩, q1, Or.inr g6⟩
      · rw [b2_0, Classical.not_not] at g6
        exact bad136 (fun z => z.2.2.elim g5 g6)
    refine ev_aload_n (pc := 99) d_N_wstat_99 rfl rfl (by first | rfl | exact mm_rk_rf _) ?_
    refine ev_gR (pc := 100) sh_N (by rfl) fl_N_87 d_N_wstat_100 ?_
    refine ev_iconst (pc := 103) (v := nI 0) d_N_wstat_103 rfl ?_
    refine ev_rIN (pc := 104) sh_N_n (by omega) (by decide) d_N_wstat_104 ?_
    refine ev_iconst (pc := 105) (v := -1) d_N_wstat_105 rfl ?_
    refine ev_icmp_eq (pc := 106) (tgt := 118) d_N_wstat_106 (by decide) (fun g5 => ?_) (fun g5 => ?_)
    · exact t118 (Or.inl g5)
    refine ev_aload_n (pc := 109) d_N_wstat_109 rfl rfl (by first | rfl | exact mm_rk_rf _) ?_
    refine ev_gR (pc := 110) sh_N (by rfl) fl_N_20 d_N_wstat_110 ?_
    refine ev_iload_n (pc := 113) d_N_wstat_113 rfl rfl ?_
    refine ev_rIN (pc := 114) sh_N_above (by omega) (by decide) d_N_wstat_114 ?_
    refine ev_if_lt (pc := 115) (tgt := 136) d_N_wstat_115 (by decide) (fun g6 => ?_) (fun g6 => ?_)
    · exact bad136 (fun z => z.2.1.elim g5 (fun y => y g6))
    · exact t118 (Or.inr g6)
