/-! The reference: writing. -/
def nw_n (C : Nat → Nat → Int32) (b c : Nat) : Nat → Nat → Int32 := fun a j => if a = 216 ∧ b ≤ j ∧ j < b + c then C 228 (1 + (j - b)) else C a j
def nb_P2 (C : Nat → Nat → Int32) (g : Nat) : Prop := ¬ C 228 0 < 0 ∧ ∀ i, 1 ≤ i → i < g → ¬ C 228 i < 0 ∧ ¬ 255 < C 228 i
def nW_b (C : Nat → Nat → Int32) (k : Nat) : Int32 := if (C 213 k &&& 512) = 0 then C 228 0 else C 214 k
noncomputable def nW_1 (C : Nat → Nat → Int32) (s k b : Nat) : Nat → Nat → Int32 := ng_C (cs_C (nx_C C s k) 212 k (C 212 k + 1)) k (C 214 k).toNatClampNeg b
noncomputable def nW_C (C : Nat → Nat → Int32) (s k b c : Nat) : Nat → Nat → Int32 := cs_C (nw_n (nW_1 C s k b) (16 * k + b) c) 214 k (nI (max (max (C 214 k).toNatClampNeg b) (b + c)))
noncomputable def nW_R (C : Nat → Nat → Int32) (f t s g : Nat) : Int32 × (Nat → Nat → Int32) := if C 217 f < 0 then (-1, C) else if C 220 f < 0 ∨ (C 220 f &&& 3) ≤ 0 then (-8, C) else (match nc_i C t (C 219 f) with
  | none => (-13, C)
  | some k => it_P (nb_P2 C g) (if g = 1 then (0, C) else if nW_b C k ≤ nI (16 - (g - 1)) ∧ nb_n C s + nn_n C s k ≤ 64 then (nI (g - 1), nW_C C s k (nW_b C k).toNatClampNeg (g - 1)) else (-11, C)) (-7, C))
theorem d_N_writeTo_0 : decode b_N_writeTo 0 = .ok (.aload_n 0, 1) := by decide +kernel
theorem d_N_writeTo_1 : decode b_N_writeTo 1 = .ok (.getfield 54, 3) := by decide +kernel
theorem d_N_writeTo_4 : decode b_N_writeTo 4 = .ok (.iload_n 1, 1) := by decide +kernel
theorem d_N_writeTo_5 : decode b_N_writeTo 5 = .ok (.iaload, 1) := by decide +kernel
theorem d_N_writeTo_6 : decode b_N_writeTo 6 = .ok (.ifCond .ge 5, 3) := by decide +kernel
theorem d_N_writeTo_9 : decode b_N_writeTo 9 = .ok (.iconst (-1), 1) := by decide +kernel
theorem d_N_writeTo_10 : decode b_N_writeTo 10 = .ok (.ireturn, 1) := by decide +kernel
theorem d_N_writeTo_11 : decode b_N_writeTo 11 = .ok (.aload_n 0, 1) := by decide +kernel
theorem d_N_writeTo_12 : decode b_N_writeTo 12 = .ok (.getfield 63, 3) := by decide +kernel
theorem d_N_writeTo_15 : decode b_N_writeTo 15 = .ok (.iload_n 1, 1) := by decide +kernel
theorem d_N_writeTo_16 : decode b_N_writeTo 16 = .ok (.iaload, 1) := by decide +kernel
theorem d_N_writeTo_17 : decode b_N_writeTo 17 = .ok (.ifCond .lt 16, 3) := by decide +kernel
theorem d_N_writeTo_20 : decode b_N_writeTo 20 = .ok (.aload_n 0, 1) := by decide +kernel
theorem d_N_writeTo_21 : decode b_N_writeTo 21 = .ok (.aload_n 0, 1) := by decide +kernel
theorem d_N_writeTo_22 : decode b_N_writeTo 22 = .ok (.getfield 63, 3) := by decide +kernel
theorem d_N_writeTo_25 : decode b_N_writeTo 25 = .ok (.iload_n 1, 1) := by decide +kernel
theorem d_N_writeTo_26 : decode b_N_writeTo 26 = .ok (.iaload, 1) := by decide +kernel
theorem d_N_writeTo_27 : decode b_N_writeTo 27 = .ok (.invokevirtual 190, 3) := by decide +kernel
theorem d_N_writeTo_30 : decode b_N_writeTo 30 = .ok (.ifCond .ne 6, 3) := by decide +kernel
theorem d_N_writeTo_33 : decode b_N_writeTo 33 = .ok (.bipush (-8), 2) := by decide +kernel
theorem d_N_writeTo_35 : decode b_N_writeTo 35 = .ok (.ireturn, 1) := by decide +kernel
theorem d_N_writeTo_36 : decode b_N_writeTo 36 = .ok (.aload_n 0, 1) := by decide +kernel
theorem d_N_writeTo_37 : decode b_N_writeTo 37 = .ok (.iload_n 1, 1) := by decide +kernel
theorem d_N_writeTo_38 : decode b_N_writeTo 38 = .ok (.invokevirtual 167, 3) := by decide +kernel
theorem d_N_writeTo_41 : decode b_N_writeTo 41 = .ok (.istore_n 2, 1) := by decide +kernel
theorem d_N_writeTo_42 : decode b_N_writeTo 42 = .ok (.iload_n 2, 1) := by decide +kernel
theorem d_N_writeTo_43 : decode b_N_writeTo 43 = .ok (.ifCond .ge 6, 3) := by decide +kernel
theorem d_N_writeTo_46 : decode b_N_writeTo 46 = .ok (.bipush (-13), 2) := by decide +kernel
theorem d_N_writeTo_48 : decode b_N_writeTo 48 = .ok (.ireturn, 1) := by decide +kernel
theorem d_N_writeTo_49 : decode b_N_writeTo 49 = .ok (.aload_n 0, 1) := by decide +kernel
theorem d_N_writeTo_50 : decode b_N_writeTo 50 = .ok (.getfield 87, 3) := by decide +kernel
theorem d_N_writeTo_53 : decode b_N_writeTo 53 = .ok (.iconst 0, 1) := by decide +kernel
theorem d_N_writeTo_54 : decode b_N_writeTo 54 = .ok (.iaload, 1) := by decide +kernel
theorem d_N_writeTo_55 : decode b_N_writeTo 55 = .ok (.ifCond .lt 7, 3) := by decide +kernel
theorem d_N_writeTo_58 : decode b_N_writeTo 58 = .ok (.iconst 1, 1) := by decide +kernel
theorem d_N_writeTo_59 : decode b_N_writeTo 59 = .ok (.goto 4, 3) := by decide +kernel
theorem d_N_writeTo_62 : decode b_N_writeTo 62 = .ok (.iconst 0, 1) := by decide +kernel
theorem d_N_writeTo_63 : decode b_N_writeTo 63 = .ok (.istore_n 3, 1) := by decide +kernel
theorem d_N_writeTo_64 : decode b_N_writeTo 64 = .ok (.iconst 1, 1) := by decide +kernel
theorem d_N_writeTo_65 : decode b_N_writeTo 65 = .ok (.istore 4, 2) := by decide +kernel
theorem d_N_writeTo_67 : decode b_N_writeTo 67 = .ok (.iload 4, 2) := by decide +kernel
theorem d_N_writeTo_69 : decode b_N_writeTo 69 = .ok (.aload_n 0, 1) := by decide +kernel
theorem d_N_writeTo_70 : decode b_N_writeTo 70 = .ok (.getfield 107, 3) := by decide +kernel
theorem d_N_writeTo_73 : decode b_N_writeTo 73 = .ok (.if_icmp .ge 42, 3) := by decide +kernel
theorem d_N_writeTo_76 : decode b_N_writeTo 76 = .ok (.iload_n 3, 1) := by decide +kernel
theorem d_N_writeTo_77 : decode b_N_writeTo 77 = .ok (.ifCond .eq 30, 3) := by decide +kernel
theorem d_N_writeTo_80 : decode b_N_writeTo 80 = .ok (.aload_n 0, 1) := by decide +kernel
theorem d_N_writeTo_81 : decode b_N_writeTo 81 = .ok (.getfield 87, 3) := by decide +kernel
theorem d_N_writeTo_84 : decode b_N_writeTo 84 = .ok (.iload 4, 2) := by decide +kernel
theorem d_N_writeTo_86 : decode b_N_writeTo 86 = .ok (.iaload, 1) := by decide +kernel
theorem d_N_writeTo_87 : decode b_N_writeTo 87 = .ok (.ifCond .lt 20, 3) := by decide +kernel
theorem d_N_writeTo_90 : decode b_N_writeTo 90 = .ok (.aload_n 0, 1) := by decide +kernel
theorem d_N_writeTo_91 : decode b_N_writeTo 91 = .ok (.getfield 87, 3) := by decide +kernel
theorem d_N_writeTo_94 : decode b_N_writeTo 94 = .ok (.iload 4, 2) := by decide +kernel
theorem d_N_writeTo_96 : decode b_N_writeTo 96 = .ok (.iaload, 1) := by decide +kernel
theorem d_N_writeTo_97 : decode b_N_writeTo 97 = .ok (.sipush 255, 3) := by decide +kernel
theorem d_N_writeTo_100 : decode b_N_writeTo 100 = .ok (.if_icmp .gt 7, 3) := by decide +kernel
theorem d_N_writeTo_103 : decode b_N_writeTo 103 = .ok (.iconst 1, 1) := by decide +kernel
theorem d_N_writeTo_104 : decode b_N_writeTo 104 = .ok (.goto 4, 3) := by decide +kernel
theorem d_N_writeTo_107 : decode b_N_writeTo 107 = .ok (.iconst 0, 1) := by decide +kernel
theorem d_N_writeTo_108 : decode b_N_writeTo 108 = .ok (.istore_n 3, 1) := by decide +kernel
theorem d_N_writeTo_109 : decode b_N_writeTo 109 = .ok (.iinc 4 1, 3) := by decide +kernel
theorem d_N_writeTo_112 : decode b_N_writeTo 112 = .ok (.goto (-45), 3) := by decide +kernel
theorem d_N_writeTo_115 : decode b_N_writeTo 115 = .ok (.iload_n 3, 1) := by decide +kernel
theorem d_N_writeTo_116 : decode b_N_writeTo 116 = .ok (.ifCond .ne 6, 3) := by decide +kernel
theorem d_N_writeTo_119 : decode b_N_writeTo 119 = .ok (.bipush (-7), 2) := by decide +kernel
theorem d_N_writeTo_121 : decode b_N_writeTo 121 = .ok (.ireturn, 1) := by decide +kernel
theorem d_N_writeTo_122 : decode b_N_writeTo 122 = .ok (.aload_n 0, 1) := by decide +kernel
theorem d_N_writeTo_123 : decode b_N_writeTo 123 = .ok (.getfield 107, 3) := by decide +kernel
theorem d_N_writeTo_126 : decode b_N_writeTo 126 = .ok (.iconst 1, 1) := by decide +kernel
theorem d_N_writeTo_127 : decode b_N_writeTo 127 = .ok (.isub, 1) := by decide +kernel
theorem d_N_writeTo_128 : decode b_N_writeTo 128 = .ok (.istore 4, 2) := by decide +kernel
theorem d_N_writeTo_130 : decode b_N_writeTo 130 = .ok (.iload 4, 2) := by decide +kernel
theorem d_N_writeTo_132 : decode b_N_writeTo 132 = .ok (.ifCond .ne 5, 3) := by decide +kernel
theorem d_N_writeTo_135 : decode b_N_writeTo 135 = .ok (.iconst 0, 1) := by decide +kernel
theorem d_N_writeTo_136 : decode b_N_writeTo 136 = .ok (.ireturn, 1) := by decide +kernel
theorem d_N_writeTo_137 : decode b_N_writeTo 137 = .ok (.aload_n 0, 1) := by decide +kernel
theorem d_N_writeTo_138 : decode b_N_writeTo 138 = .ok (.getfield 35, 3) := by decide +kernel
theorem d_N_writeTo_141 : decode b_N_writeTo 141 = .ok (.iload_n 2, 1) := by decide +kernel
theorem d_N_writeTo_142 : decode b_N_writeTo 142 = .ok (.iaload, 1) := by decide +kernel
theorem d_N_writeTo_143 : decode b_N_writeTo 143 = .ok (.sipush 512, 3) := by decide +kernel
theorem d_N_writeTo_146 : decode b_N_writeTo 146 = .ok (.iand, 1) := by decide +kernel
theorem d_N_writeTo_147 : decode b_N_writeTo 147 = .ok (.ifCond .eq 12, 3) := by decide +kernel
theorem d_N_writeTo_150 : decode b_N_writeTo 150 = .ok (.aload_n 0, 1) := by decide +kernel
theorem d_N_writeTo_151 : decode b_N_writeTo 151 = .ok (.getfield 38, 3) := by decide +kernel
theorem d_N_writeTo_154 : decode b_N_writeTo 154 = .ok (.iload_n 2, 1) := by decide +kernel
theorem d_N_writeTo_155 : decode b_N_writeTo 155 = .ok (.iaload, 1) := by decide +kernel
theorem d_N_writeTo_156 : decode b_N_writeTo 156 = .ok (.goto 9, 3) := by decide +kernel
theorem d_N_writeTo_159 : decode b_N_writeTo 159 = .ok (.aload_n 0, 1) := by decide +kernel
theorem d_N_writeTo_160 : decode b_N_writeTo 160 = .ok (.getfield 87, 3) := by decide +kernel
theorem d_N_writeTo_163 : decode b_N_writeTo 163 = .ok (.iconst 0, 1) := by decide +kernel
theorem d_N_writeTo_164 : decode b_N_writeTo 164 = .ok (.iaload, 1) := by decide +kernel
theorem d_N_writeTo_165 : decode b_N_writeTo 165 = .ok (.istore 5, 2) := by decide +kernel
theorem d_N_writeTo_167 : decode b_N_writeTo 167 = .ok (.iload 5, 2) := by decide +kernel
theorem d_N_writeTo_169 : decode b_N_writeTo 169 = .ok (.bipush 16, 2) := by decide +kernel
theorem d_N_writeTo_171 : decode b_N_writeTo 171 = .ok (.iload 4, 2) := by decide +kernel
theorem d_N_writeTo_173 : decode b_N_writeTo 173 = .ok (.isub, 1) := by decide +kernel
theorem d_N_writeTo_174 : decode b_N_writeTo 174 = .ok (.if_icmp .gt 15, 3) := by decide +kernel
theorem d_N_writeTo_177 : decode b_N_writeTo 177 = .ok (.aload_n 0, 1) := by decide +kernel
theorem d_N_writeTo_178 : decode b_N_writeTo 178 = .ok (.aload_n 0, 1) := by decide +kernel
theorem d_N_writeTo_179 : decode b_N_writeTo 179 = .ok (.iload_n 2, 1) := by decide +kernel
theorem d_N_writeTo_180 : decode b_N_writeTo 180 = .ok (.invokevirtual 196, 3) := by decide +kernel
theorem d_N_writeTo_183 : decode b_N_writeTo 183 = .ok (.invokevirtual 199, 3) := by decide +kernel
theorem d_N_writeTo_186 : decode b_N_writeTo 186 = .ok (.ifCond .ne 6, 3) := by decide +kernel
theorem d_N_writeTo_189 : decode b_N_writeTo 189 = .ok (.bipush (-11), 2) := by decide +kernel
theorem d_N_writeTo_191 : decode b_N_writeTo 191 = .ok (.ireturn, 1) := by decide +kernel
theorem d_N_writeTo_192 : decode b_N_writeTo 192 = .ok (.aload_n 0, 1) := by decide +kernel
theorem d_N_writeTo_193 : decode b_N_writeTo 193 = .ok (.iload_n 2, 1) := by decide +kernel
theorem d_N_writeTo_194 : decode b_N_writeTo 194 = .ok (.invokevirtual 202, 3) := by decide +kernel
theorem d_N_writeTo_197 : decode b_N_writeTo 197 = .ok (.aload_n 0, 1) := by decide +kernel
theorem d_N_writeTo_198 : decode b_N_writeTo 198 = .ok (.getfield 32, 3) := by decide +kernel
theorem d_N_writeTo_201 : decode b_N_writeTo 201 = .ok (.iload_n 2, 1) := by decide +kernel
theorem d_N_writeTo_202 : decode b_N_writeTo 202 = .ok (.dup2, 1) := by decide +kernel
theorem d_N_writeTo_203 : decode b_N_writeTo 203 = .ok (.iaload, 1) := by decide +kernel
theorem d_N_writeTo_204 : decode b_N_writeTo 204 = .ok (.iconst 1, 1) := by decide +kernel
theorem d_N_writeTo_205 : decode b_N_writeTo 205 = .ok (.iadd, 1) := by decide +kernel
theorem d_N_writeTo_206 : decode b_N_writeTo 206 = .ok (.iastore, 1) := by decide +kernel
theorem d_N_writeTo_207 : decode b_N_writeTo 207 = .ok (.aload_n 0, 1) := by decide +kernel
theorem d_N_writeTo_208 : decode b_N_writeTo 208 = .ok (.iload_n 2, 1) := by decide +kernel
theorem d_N_writeTo_209 : decode b_N_writeTo 209 = .ok (.iload 5, 2) := by decide +kernel
theorem d_N_writeTo_211 : decode b_N_writeTo 211 = .ok (.invokevirtual 211, 3) := by decide +kernel
theorem d_N_writeTo_214 : decode b_N_writeTo 214 = .ok (.iconst 0, 1) := by decide +kernel
theorem d_N_writeTo_215 : decode b_N_writeTo 215 = .ok (.istore 6, 2) := by decide +kernel
theorem d_N_writeTo_217 : decode b_N_writeTo 217 = .ok (.iload 6, 2) := by decide +kernel
theorem d_N_writeTo_219 : decode b_N_writeTo 219 = .ok (.iload 4, 2) := by decide +kernel
theorem d_N_writeTo_221 : decode b_N_writeTo 221 = .ok (.if_icmp .ge 33, 3) := by decide +kernel
theorem d_N_writeTo_224 : decode b_N_writeTo 224 = .ok (.aload_n 0, 1) := by decide +kernel
theorem d_N_writeTo_225 : decode b_N_writeTo 225 = .ok (.getfield 44, 3) := by decide +kernel
theorem d_N_writeTo_228 : decode b_N_writeTo 228 = .ok (.bipush 16, 2) := by decide +kernel
theorem d_N_writeTo_230 : decode b_N_writeTo 230 = .ok (.iload_n 2, 1) := by decide +kernel
theorem d_N_writeTo_231 : decode b_N_writeTo 231 = .ok (.imul, 1) := by decide +kernel
theorem d_N_writeTo_232 : decode b_N_writeTo 232 = .ok (.iload 5, 2) := by decide +kernel
theorem d_N_writeTo_234 : decode b_N_writeTo 234 = .ok (.iadd, 1) := by decide +kernel
theorem d_N_writeTo_235 : decode b_N_writeTo 235 = .ok (.iload 6, 2) := by decide +kernel
theorem d_N_writeTo_237 : decode b_N_writeTo 237 = .ok (.iadd, 1) := by decide +kernel
theorem d_N_writeTo_238 : decode b_N_writeTo 238 = .ok (.aload_n 0, 1) := by decide +kernel
theorem d_N_writeTo_239 : decode b_N_writeTo 239 = .ok (.getfield 87, 3) := by decide +kernel
theorem d_N_writeTo_242 : decode b_N_writeTo 242 = .ok (.iconst 1, 1) := by decide +kernel
theorem d_N_writeTo_243 : decode b_N_writeTo 243 = .ok (.iload 6, 2) := by decide +kernel
theorem d_N_writeTo_245 : decode b_N_writeTo 245 = .ok (.iadd, 1) := by decide +kernel
theorem d_N_writeTo_246 : decode b_N_writeTo 246 = .ok (.iaload, 1) := by decide +kernel
theorem d_N_writeTo_247 : decode b_N_writeTo 247 = .ok (.iastore, 1) := by decide +kernel
theorem d_N_writeTo_248 : decode b_N_writeTo 248 = .ok (.iinc 6 1, 3) := by decide +kernel
theorem d_N_writeTo_251 : decode b_N_writeTo 251 = .ok (.goto (-34), 3) := by decide +kernel
theorem d_N_writeTo_254 : decode b_N_writeTo 254 = .ok (.aload_n 0, 1) := by decide +kernel
theorem d_N_writeTo_255 : decode b_N_writeTo 255 = .ok (.getfield 38, 3) := by decide +kernel
theorem d_N_writeTo_258 : decode b_N_writeTo 258 = .ok (.iload_n 2, 1) := by decide +kernel
theorem d_N_writeTo_259 : decode b_N_writeTo 259 = .ok (.iload 5, 2) := by decide +kernel
theorem d_N_writeTo_261 : decode b_N_writeTo 261 = .ok (.iload 4, 2) := by decide +kernel
theorem d_N_writeTo_263 : decode b_N_writeTo 263 = .ok (.iadd, 1) := by decide +kernel
theorem d_N_writeTo_264 : decode b_N_writeTo 264 = .ok (.aload_n 0, 1) := by decide +kernel
theorem d_N_writeTo_265 : decode b_N_writeTo 265 = .ok (.getfield 38, 3) := by decide +kernel
theorem d_N_writeTo_268 : decode b_N_writeTo 268 = .ok (.iload_n 2, 1) := by decide +kernel
theorem d_N_writeTo_269 : decode b_N_writeTo 269 = .ok (.iaload, 1) := by decide +kernel
theorem d_N_writeTo_270 : decode b_N_writeTo 270 = .ok (.if_icmp .le 11, 3) := by decide +kernel
theorem d_N_writeTo_273 : decode b_N_writeTo 273 = .ok (.iload 5, 2) := by decide +kernel
theorem d_N_writeTo_275 : decode b_N_writeTo 275 = .ok (.iload 4, 2) := by decide +kernel
theorem d_N_writeTo_277 : decode b_N_writeTo 277 = .ok (.iadd, 1) := by decide +kernel
theorem d_N_writeTo_278 : decode b_N_writeTo 278 = .ok (.goto 9, 3) := by decide +kernel
theorem d_N_writeTo_281 : decode b_N_writeTo 281 = .ok (.aload_n 0, 1) := by decide +kernel
theorem d_N_writeTo_282 : decode b_N_writeTo 282 = .ok (.getfield 38, 3) := by decide +kernel
theorem d_N_writeTo_285 : decode b_N_writeTo 285 = .ok (.iload_n 2, 1) := by decide +kernel
theorem d_N_writeTo_286 : decode b_N_writeTo 286 = .ok (.iaload, 1) := by decide +kernel
theorem d_N_writeTo_287 : decode b_N_writeTo 287 = .ok (.iastore, 1) := by decide +kernel
theorem d_N_writeTo_288 : decode b_N_writeTo 288 = .ok (.iload 4, 2) := by decide +kernel
theorem d_N_writeTo_290 : decode b_N_writeTo 290 = .ok (.ireturn, 1) := by decide +kernel
set_option maxRecDepth 20000 in
set_option maxHeartbeats 2000000 in
theorem ct_N_writeTo (E : mm_En) (C : Nat → Nat → Int32) {f t s g : Nat} (hw : nw_P C s) (hu : nu_P C f t) (hg9 : C 204 29 = nI g) (g1 : 1 ≤ g) (g4 : g ≤ 4) : mm_MT E K_N_writeTo [.ref 204, .int (nI f)] (hp_H C) (mm_D (some (.int (nW_R C f t s g).1)) (nW_R C f t s g).2) := by
  obtain ⟨hm, hp, hg, hl, es, s4, hroot⟩ := hw
  obtain ⟨hf, ht, et, hus⟩ := hu
  refine mm_mtL (by decide) (by rfl) (Nat.le_of_ble_eq_true rfl) rfl ?_
  refine ev_aload_n (pc := 0) d_N_writeTo_0 rfl rfl (by first | rfl | exact mm_rk_rf _) ?_
  refine ev_gR (pc := 1) sh_N (by rfl) fl_N_54 d_N_writeTo_1 ?_
  refine ev_iload_n (pc := 4) d_N_writeTo_4 rfl rfl ?_
  refine ev_rIN (pc := 5) sh_N_user (by omega) (by decide) d_N_writeTo_5 ?_
  refine ev_if_ge (pc := 6) (tgt := 11) d_N_writeTo_6 (by decide) (fun ha => ?_) (fun ha => ?_)
  rotate_left
  · have ha' : C 217 f < 0 := Int32.not_le.mp ha
    rw [nW_R, if_pos ha']
    refine ev_iconst (pc := 9) (v := -1) d_N_writeTo_9 rfl ?_
    exact ev_iret (pc := 10) d_N_writeTo_10 rfl (Nat.zero_le _) (Nat.zero_le _) ⟨rfl, rfl⟩
  have ha' : ¬ C 217 f < 0 := Int32.not_lt.mpr ha
  rw [nW_R, if_neg ha']
  refine ev_aload_n (pc := 11) d_N_writeTo_11 rfl rfl (by first | rfl | exact mm_rk_rf _) ?_
  refine ev_gR (pc := 12) sh_N (by rfl) fl_N_63 d_N_writeTo_12 ?_
  refine ev_iload_n (pc := 15) d_N_writeTo_15 rfl rfl ?_
  refine ev_rIN (pc := 16) sh_N_openMode (by omega) (by decide) d_N_writeTo_16 ?_
  refine ev_if_lt (pc := 17) (tgt := 33) d_N_writeTo_17 (by decide) (fun hb => ?_) (fun hb => ?_)
  · rw [if_pos (Or.inl hb)]
    refine ev_bipush (pc := 33) (v := -8) d_N_writeTo_33 (by decide) ?_
    exact ev_iret (pc := 35) d_N_writeTo_35 rfl (Nat.zero_le _) (Nat.zero_le _) ⟨rfl, rfl⟩
  refine ev_aload_n (pc := 20) d_N_writeTo_20 rfl rfl (by first | rfl | exact mm_rk_rf _) ?_
  refine ev_aload_n (pc := 21) d_N_writeTo_21 rfl rfl (by first | rfl | exact mm_rk_rf _) ?_
  refine ev_gR (pc := 22) sh_N (by rfl) fl_N_63 d_N_writeTo_22 ?_
  refine ev_iload_n (pc := 25) d_N_writeTo_25 rfl rfl ?_
  refine ev_rIN (pc := 26) sh_N_openMode (by omega) (by decide) d_N_writeTo_26 ?_
  refine ev_cV (pc := 27) (ct_N_writes E C _) cl_N_190 jv_N_writes ⟨(Nat.le_of_ble_eq_true rfl), (Nat.le_of_ble_eq_true rfl)⟩ rfl sh_N rfl (Nat.le_of_ble_eq_true rfl) d_N_writeTo_27 ⟨Nat.zero_le _, Nat.zero_le _⟩ ?_
  refine ev_if_ne (pc := 30) (tgt := 36) d_N_writeTo_30 (by decide) (fun hd => ?_) (fun hd => ?_)
  rotate_left
  · rw [b2_0, Classical.not_not] at hd
    rw [if_pos (Or.inr hd)]
    refine ev_bipush (pc := 33) (v := -8) d_N_writeTo_33 (by decide) ?_
    exact ev_iret (pc := 35) d_N_writeTo_35 rfl (Nat.zero_le _) (Nat.zero_le _) ⟨rfl, rfl⟩
  rw [b2_0, Classical.not_not] at hd
  rw [if_neg (fun z => z.elim hb hd)]
  refine ev_aload_n (pc := 36) d_N_writeTo_36 rfl rfl (by first | rfl | exact mm_rk_rf _) ?_
  refine ev_iload_n (pc := 37) d_N_writeTo_37 rfl rfl ?_
  refine ev_cV (pc := 38) (ct_N_nodeOf E C hm hf ht et) cl_N_167 jv_N_nodeOf ⟨(Nat.le_of_ble_eq_true rfl), (Nat.le_of_ble_eq_true rfl)⟩ rfl sh_N rfl (Nat.le_of_ble_eq_true rfl) d_N_writeTo_38 ⟨Nat.zero_le _, Nat.zero_le _⟩ ?_
  cases hn : nc_i C t (C 219 f) with
  | none =>
    rw [show oI none = -1 from rfl]
    refine ev_istore_n (pc := 41) d_N_writeTo_41 rfl (Nat.le_of_ble_eq_true rfl) rfl ?_
    try dsimp only [List.set]
    refine ev_iload_n (pc := 42) d_N_writeTo_42 rfl rfl ?_
    refine ev_if_ge (pc := 43) (tgt := 49) d_N_writeTo_43 (by decide) (fun hb => ?_) (fun hb => ?_)
    · exact absurd hb (by decide)
    refine ev_bipush (pc := 46) (v := -13) d_N_writeTo_46 (by decide) ?_
    exact ev_iret (pc := 48) d_N_writeTo_48 rfl (Nat.zero_le _) (Nat.zero_le _) ⟨rfl, rfl⟩
  | some k =>
    rw [show oI (some k) = nI k from rfl]
    obtain ⟨v1, v2, v3, v4⟩ := nc_v ht hm hn
    simp only []
    refine ev_istore_n (pc := 41) d_N_writeTo_41 rfl (Nat.le_of_ble_eq_true rfl) rfl ?_
    try dsimp only [List.set]
    refine ev_iload_n (pc := 42) d_N_writeTo_42 rfl rfl ?_
    refine ev_if_ge (pc := 43) (tgt := 49) d_N_writeTo_43 (by decide) (fun hb => ?_) (fun hb => ?_)
    rotate_left
    · exact absurd (nI_pos' (by omega)) hb
    obtain ⟨l16, el⟩ := hl k v1
    obtain ⟨R, eR⟩ : ∃ R, R = it_P (nb_P2 C g) (if g = 1 then (0, C) else if nW_b C k ≤ nI (16 - (g - 1)) ∧ nb_n C s + nn_n C s k ≤ 64 then (nI (g - 1), nW_C C s k (nW_b C k).toNatClampNeg (g - 1)) else (-11, C)) (-7, C) := ⟨_, rfl⟩
    rw [← eR]
    have t115 : ∀ G : Prop, (G ↔ nb_P2 C g) → ev_At E K_N_writeTo 115 [some (.ref 204), some (.int (nI f)), some (.int (nI k)), some (.int (b3_P G)), some (.int (nI g)), none, none] [] (hp_H C) 0 0 (mm_D (some (.int R.1)) R.2) := by
      intro G hG
      refine ev_iload_n (pc := 115) d_N_writeTo_115 rfl rfl ?_
      refine ev_if_ne (pc := 116) (tgt := 122) d_N_writeTo_116 (by decide) (fun h1 => ?_) (fun h1 => ?_)
      rotate_left
      · rw [b3_0] at h1
        rw [eR, it_f (fun z => h1 (hG.mpr z))]
        refine ev_bipush (pc := 119) (v := -7) d_N_writeTo_119 (by decide) ?_
        exact ev_iret (pc := 121) d_N_writeTo_121 rfl (Nat.zero_le _) (Nat.zero_le _) ⟨rfl, rfl⟩
      rw [b3_0, Classical.not_not] at h1
      rw [eR, it_t (hG.mp h1)]
      have hgood := hG.mp h1
      refine ev_aload_n (pc := 122) d_N_writeTo_122 rfl rfl (by first | rfl | exact mm_rk_rf _) ?_
      refine ev_gI (pc := 123) sh_N (by rfl) fl_N_107 d_N_writeTo_123 ?_
      rw [hg9]
      refine ev_iconst (pc := 126) (v := 1) d_N_writeTo_126 rfl ?_
      refine ev_isub (pc := 127) d_N_writeTo_127 ?_
      rw [show nI g - 1 = nI (g - 1) by rw [show nI g - 1 = nI g - nI 1 from rfl, nI_sub g1]]
      refine ev_istore (pc := 128) d_N_writeTo_128 (Nat.le_of_ble_eq_true rfl) rfl ?_
      try dsimp only [List.set]
      refine ev_iload (pc := 130) d_N_writeTo_130 rfl ?_
      refine ev_if_ne (pc := 132) (tgt := 137) d_N_writeTo_132 (by decide) (fun h2 => ?_) (fun h2 => ?_)
      rotate_left
      · have h2' : g = 1 := by
          have z' : nI (g - 1) = nI 0 := h2
          rw [nI_eq (by omega) (by decide)] at z'
          omega
        rw [if_pos h2']
        refine ev_iconst (pc := 135) (v := 0) d_N_writeTo_135 rfl ?_
        exact ev_iret (pc := 136) d_N_writeTo_136 rfl (Nat.zero_le _) (Nat.zero_le _) ⟨rfl, rfl⟩
      have h2' : ¬ g = 1 := fun z => h2 (by rw [z]; rfl)
      rw [if_neg h2']
      obtain ⟨b, eb⟩ : ∃ b, b = nW_b C k := ⟨_, rfl⟩
      rw [← eb]
      have t165 : ev_At E K_N_writeTo 165 [some (.ref 204), some (.int (nI f)), some (.int (nI k)), some (.int (b3_P G)), some (.int (nI (g - 1))), none, none] [.int b] (hp_H C) 0 0 (mm_D (some (.int (if b ≤ nI (16 - (g - 1)) ∧ nb_n C s + nn_n C s k ≤ 64 then (nI (g - 1), nW_C C s k b.toNatClampNeg (g - 1)) else (-11, C)).1)) (if b ≤ nI (16 - (g - 1)) ∧ nb_n C s + nn_n C s k ≤ 64 then (nI (g - 1), nW_C C s k b.toNatClampNeg (g - 1)) else (-11, C)).2) := by
        have hb0 : ¬ b < 0 := by
          rw [eb, nW_b]
          split
          · exact hgood.1
          · rw [el]
            exact nI_pos (by omega)
        refine ev_istore (pc := 165) d_N_writeTo_165 (Nat.le_of_ble_eq_true rfl) rfl ?_
        try dsimp only [List.set]
        refine ev_iload (pc := 167) d_N_writeTo_167 rfl ?_
        refine ev_bipush (pc := 169) (v := 16) d_N_writeTo_169 (by decide) ?_
        refine ev_iload (pc := 171) d_N_writeTo_171 rfl ?_
        refine ev_isub (pc := 173) d_N_writeTo_173 ?_
        rw [show (16 : Int32) - nI (g - 1) = nI (16 - (g - 1)) by rw [show (16 : Int32) - nI (g - 1) = nI 16 - nI (g - 1) from rfl, nI_sub (by omega)]]
        refine ev_icmp_gt (pc := 174) (tgt := 189) d_N_writeTo_174 (by decide) (fun h3 => ?_) (fun h3 => ?_)
        · rw [if_neg (fun z => Int32.not_lt.mpr z.1 h3)]
          refine ev_bipush (pc := 189) (v := -11) d_N_writeTo_189 (by decide) ?_
          exact ev_iret (pc := 191) d_N_writeTo_191 rfl (Nat.zero_le _) (Nat.zero_le _) ⟨rfl, rfl⟩
        have h3' : b ≤ nI (16 - (g - 1)) := Int32.not_lt.mp h3
        have hnn : nn_n C s k ≤ 21 := by
          have h1 := n1_le (no_P C s (C 215 k))
          have h2 := nn_le C s 20 k
          unfold nn_n
          omega
        refine ev_aload_n (pc := 177) d_N_writeTo_177 rfl rfl (by first | rfl | exact mm_rk_rf _) ?_
        refine ev_aload_n (pc := 178) d_N_writeTo_178 rfl rfl (by first | rfl | exact mm_rk_rf _) ?_
        refine ev_iload_n (pc := 179) d_N_writeTo_179 rfl rfl ?_
        refine ev_cV (pc := 180) (ct_N_needed E C hm hp es s4 v3) cl_N_196 jv_N_needed ⟨(Nat.le_of_ble_eq_true rfl), (Nat.le_of_ble_eq_true rfl)⟩ rfl sh_N rfl (Nat.le_of_ble_eq_true rfl) d_N_writeTo_180 ⟨Nat.zero_le _, Nat.zero_le _⟩ ?_
        refine ev_cV (pc := 183) (ct_N_fits E C hm es s4 (by omega)) cl_N_199 jv_N_fits ⟨(Nat.le_of_ble_eq_true rfl), (Nat.le_of_ble_eq_true rfl)⟩ rfl sh_N rfl (Nat.le_of_ble_eq_true rfl) d_N_writeTo_183 ⟨Nat.zero_le _, Nat.zero_le _⟩ ?_
        refine ev_if_ne (pc := 186) (tgt := 192) d_N_writeTo_186 (by decide) (fun h4 => ?_) (fun h4 => ?_)
        rotate_left
        · rw [b2_0] at h4
          rw [if_neg (fun z => h4 z.2)]
          refine ev_bipush (pc := 189) (v := -11) d_N_writeTo_189 (by decide) ?_
          exact ev_iret (pc := 191) d_N_writeTo_191 rfl (Nat.zero_le _) (Nat.zero_le _) ⟨rfl, rfl⟩
        rw [b2_0, Classical.not_not] at h4
        rw [if_pos ⟨h3', h4⟩]
        obtain ⟨j, hj, ej⟩ := nI_of2 (nI_toInt (by omega)) hb0 h3'
        rw [ej, nI_clamp (by omega)]
        refine ev_aload_n (pc := 192) d_N_writeTo_192 rfl rfl (by first | rfl | exact mm_rk_rf _) ?_
        refine ev_iload_n (pc := 193) d_N_writeTo_193 rfl rfl ?_
        refine ev_cVv (pc := 194) (ct_N_change E C hm hp es s4 v3) cl_N_202 jv_N_change ⟨(Nat.le_of_ble_eq_true rfl), (Nat.le_of_ble_eq_true rfl)⟩ rfl sh_N rfl (Nat.le_of_ble_eq_true rfl) d_N_writeTo_194 ⟨Nat.zero_le _, Nat.zero_le _⟩ ?_
        refine ev_aload_n (pc := 197) d_N_writeTo_197 rfl rfl (by first | rfl | exact mm_rk_rf _) ?_
        refine ev_gR (pc := 198) sh_N (by rfl) fl_N_32 d_N_writeTo_198 ?_
        refine ev_iload_n (pc := 201) d_N_writeTo_201 rfl rfl ?_
        refine ev_dup2 (pc := 202) d_N_writeTo_202 (by rfl) (by rfl) ?_
        refine ev_rIN (pc := 203) sh_N_version (by omega) (by decide) d_N_writeTo_203 ?_
        rw [nx_Cc C s k (by decide) (by decide)]
        refine ev_iconst (pc := 204) (v := 1) d_N_writeTo_204 rfl ?_
        refine ev_iadd (pc := 205) d_N_writeTo_205 ?_
        refine ev_wIN (pc := 206) sh_N_version (by omega) (by decide) d_N_writeTo_206 ?_
        refine ev_aload_n (pc := 207) d_N_writeTo_207 rfl rfl (by first | rfl | exact mm_rk_rf _) ?_
        refine ev_iload_n (pc := 208) d_N_writeTo_208 rfl rfl ?_
        refine ev_iload (pc := 209) d_N_writeTo_209 rfl ?_
        refine ev_cVv (pc := 211) (ct_N_grow E _ (l := (C 214 k).toNatClampNeg) (n := j) v1 (by rw [cs_ne _ _ (by omega), nx_Cc C s k (by decide) (by decide)]; exact el) l16 (by omega)) cl_N_211 jv_N_grow ⟨(Nat.le_of_ble_eq_true rfl), (Nat.le_of_ble_eq_true rfl)⟩ rfl sh_N rfl (Nat.le_of_ble_eq_true rfl) d_N_writeTo_211 ⟨Nat.zero_le _, Nat.zero_le _⟩ ?_
        refine ev_eq rfl rfl rfl (show _ = hp_H (nW_1 C s k j) from rfl) rfl rfl ?_
        have w14 : ∀ n, nw_n (nW_1 C s k j) (16 * k + j) n 214 k = nI (max (C 214 k).toNatClampNeg j) := by
          intro n
          simp only [nw_n]
          rw [if_neg (by omega), nW_1, ng_C, cs_at]
        have loop : ∀ d i : Nat, i + d = g - 1 → ev_At E K_N_writeTo 217 [some (.ref 204), some (.int (nI f)), some (.int (nI k)), some (.int (b3_P G)), some (.int (nI (g - 1))), some (.int (nI j)), some (.int (nI i))] [] (hp_H (nw_n (nW_1 C s k j) (16 * k + j) i)) 0 0 (mm_D (some (.int (nI (g - 1), nW_C C s k j (g - 1)).1)) (nI (g - 1), nW_C C s k j (g - 1)).2) := by
          intro d
          induction d with
          | zero =>
            intro i hi
            have ei : i = g - 1 := by omega
            subst ei
            refine ev_iload (pc := 217) d_N_writeTo_217 rfl ?_
            refine ev_iload (pc := 219) d_N_writeTo_219 rfl ?_
            refine ev_icmp_ge (pc := 221) (tgt := 254) d_N_writeTo_221 (by decide) (fun h5 => ?_) (fun h5 => ?_)
            rotate_left
            · exact absurd (Int32.le_refl _) h5
            refine ev_aload_n (pc := 254) d_N_writeTo_254 rfl rfl (by first | rfl | exact mm_rk_rf _) ?_
            refine ev_gR (pc := 255) sh_N (by rfl) fl_N_38 d_N_writeTo_255 ?_
            refine ev_iload_n (pc := 258) d_N_writeTo_258 rfl rfl ?_
            refine ev_iload (pc := 259) d_N_writeTo_259 rfl ?_
            refine ev_iload (pc := 261) d_N_writeTo_261 rfl ?_
            first | refine ev_iaddN (pc := 263) d_N_writeTo_263 ?_ | refine ev_iadd (pc := 263) d_N_writeTo_263 ?_
            refine ev_aload_n (pc := 264) d_N_writeTo_264 rfl rfl (by first | rfl | exact mm_rk_rf _) ?_
            refine ev_gR (pc := 265) sh_N (by rfl) fl_N_38 d_N_writeTo_265 ?_
            refine ev_iload_n (pc := 268) d_N_writeTo_268 rfl rfl ?_
            refine ev_rIN (pc := 269) sh_N_length (by omega) (by decide) d_N_writeTo_269 ?_
            rw [w14]
            refine ev_icmp_le (pc := 270) (tgt := 281) d_N_writeTo_270 (by decide) (fun h6 => ?_) (fun h6 => ?_)
            · have h6' : j + (g - 1) ≤ max (C 214 k).toNatClampNeg j := (nI_leI (by omega) (by omega)).mp h6
              refine ev_aload_n (pc := 281) d_N_writeTo_281 rfl rfl (by first | rfl | exact mm_rk_rf _) ?_
              refine ev_gR (pc := 282) sh_N (by rfl) fl_N_38 d_N_writeTo_282 ?_
              refine ev_iload_n (pc := 285) d_N_writeTo_285 rfl rfl ?_
              refine ev_rIN (pc := 286) sh_N_length (by omega) (by decide) d_N_writeTo_286 ?_
              rw [w14]
              refine ev_wIN (pc := 287) sh_N_length (by omega) (by decide) d_N_writeTo_287 ?_
              refine ev_iload (pc := 288) d_N_writeTo_288 rfl ?_
              have e1 : max (max (C 214 k).toNatClampNeg j) (j + (g - 1)) = max (C 214 k).toNatClampNeg j := by omega
              rw [nW_C, e1]
              exact ev_iret (pc := 290) d_N_writeTo_290 rfl (Nat.zero_le _) (Nat.zero_le _) ⟨rfl, rfl⟩
            · have h6' : max (C 214 k).toNatClampNeg j < j + (g - 1) := Nat.not_le.mp (fun z => h6 (nI_le z (by omega)))
              refine ev_iload (pc := 273) d_N_writeTo_273 rfl ?_
              refine ev_iload (pc := 275) d_N_writeTo_275 rfl ?_
              first | refine ev_iaddN (pc := 277) d_N_writeTo_277 ?_ | refine ev_iadd (pc := 277) d_N_writeTo_277 ?_
              refine ev_goto (pc := 278) (tgt := 287) d_N_writeTo_278 (by decide) ?_
              refine ev_wIN (pc := 287) sh_N_length (by omega) (by decide) d_N_writeTo_287 ?_
              refine ev_iload (pc := 288) d_N_writeTo_288 rfl ?_
              have e1 : max (max (C 214 k).toNatClampNeg j) (j + (g - 1)) = j + (g - 1) := by omega
              rw [nW_C, e1]
              exact ev_iret (pc := 290) d_N_writeTo_290 rfl (Nat.zero_le _) (Nat.zero_le _) ⟨rfl, rfl⟩
          | succ d ih =>
            intro i hi
            refine ev_iload (pc := 217) d_N_writeTo_217 rfl ?_
            refine ev_iload (pc := 219) d_N_writeTo_219 rfl ?_
            refine ev_icmp_ge (pc := 221) (tgt := 254) d_N_writeTo_221 (by decide) (fun h5 => ?_) (fun h5 => ?_)
            · exact absurd h5 (nI_ge (by omega) (by omega))
            refine ev_aload_n (pc := 224) d_N_writeTo_224 rfl rfl (by first | rfl | exact mm_rk_rf _) ?_
            refine ev_gR (pc := 225) sh_N (by rfl) fl_N_44 d_N_writeTo_225 ?_
            refine ev_bipush (pc := 228) (v := nI 16) d_N_writeTo_228 (by decide) ?_
            refine ev_iload_n (pc := 230) d_N_writeTo_230 rfl rfl ?_
            first | refine ev_imulN (pc := 231) d_N_writeTo_231 ?_ | refine ev_imul (pc := 231) d_N_writeTo_231 ?_
            refine ev_iload (pc := 232) d_N_writeTo_232 rfl ?_
            first | refine ev_iaddN (pc := 234) d_N_writeTo_234 ?_ | refine ev_iadd (pc := 234) d_N_writeTo_234 ?_
            refine ev_iload (pc := 235) d_N_writeTo_235 rfl ?_
            first | refine ev_iaddN (pc := 237) d_N_writeTo_237 ?_ | refine ev_iadd (pc := 237) d_N_writeTo_237 ?_
            refine ev_aload_n (pc := 238) d_N_writeTo_238 rfl rfl (by first | rfl | exact mm_rk_rf _) ?_
            refine ev_gR (pc := 239) sh_N (by rfl) fl_N_87 d_N_writeTo_239 ?_
            refine ev_iconst (pc := 242) (v := nI 1) d_N_writeTo_242 rfl ?_
            refine ev_iload (pc := 243) d_N_writeTo_243 rfl ?_
            first | refine ev_iaddN (pc := 245) d_N_writeTo_245 ?_ | refine ev_iadd (pc := 245) d_N_writeTo_245 ?_
            refine ev_rIN (pc := 246) sh_N_n (by omega) (by decide) d_N_writeTo_246 ?_
            refine ev_wIN (pc := 247) sh_N_bytes (by omega) (by decide) d_N_writeTo_247 ?_
            have e : cs_C (nw_n (nW_1 C s k j) (16 * k + j) i) 216 (16 * k + j + i) (nw_n (nW_1 C s k j) (16 * k + j) i 228 (1 + i)) = nw_n (nW_1 C s k j) (16 * k + j) (i + 1) := by
              funext a l
              rw [cs_app]
              simp only [nw_n]
              rw [if_neg (show ¬ (228 = 216 ∧ 16 * k + j ≤ 1 + i ∧ 1 + i < 16 * k + j + i) by omega)]
              by_cases q1 : a = 216 ∧ l = 16 * k + j + i
              · rw [if_pos q1, if_pos (by omega)]
                congr 1
                omega
              · rw [if_neg q1]
                by_cases q2 : a = 216 ∧ 16 * k + j ≤ l ∧ l < 16 * k + j + i
                · rw [if_pos q2, if_pos (by omega)]
                · rw [if_neg q2, if_neg (by omega)]
            rw [e]
            refine ev_iinc (pc := 248) d_N_writeTo_248 (Nat.le_of_ble_eq_true rfl) rfl (nx_inc _) rfl ?_
            try dsimp only [List.set]
            refine ev_goto (pc := 251) (tgt := 217) d_N_writeTo_251 (by decide) ?_
            exact ih (i + 1) (by omega)
        refine ev_iconst (pc := 214) (v := 0) d_N_writeTo_214 rfl ?_
        refine ev_istore (pc := 215) d_N_writeTo_215 (Nat.le_of_ble_eq_true rfl) rfl ?_
        try dsimp only [List.set]
        have h7 := loop (g - 1) 0 (by omega)
        have e0 : nw_n (nW_1 C s k j) (16 * k + j) 0 = nW_1 C s k j := by
          funext a l
          simp only [nw_n]
          rw [if_neg (by omega)]
        rw [e0] at h7
        exact h7
      refine ev_aload_n (pc := 137) d_N_writeTo_137 rfl rfl (by first | rfl | exact mm_rk_rf _) ?_
      refine ev_gR (pc := 138) sh_N (by rfl) fl_N_35 d_N_writeTo_138 ?_
      refine ev_iload_n (pc := 141) d_N_writeTo_141 rfl rfl ?_
      refine ev_rIN (pc := 142) sh_N_mode (by omega) (by decide) d_N_writeTo_142 ?_
      refine ev_sipush (pc := 143) (v := 512) d_N_writeTo_143 (by decide) ?_
      refine ev_iand (pc := 146) d_N_writeTo_146 ?_
      refine ev_if_eq (pc := 147) (tgt := 159) d_N_writeTo_147 (by decide) (fun h3 => ?_) (fun h3 => ?_)
      · refine ev_aload_n (pc := 159) d_N_writeTo_159 rfl rfl (by first | rfl | exact mm_rk_rf _) ?_
        refine ev_gR (pc := 160) sh_N (by rfl) fl_N_87 d_N_writeTo_160 ?_
        refine ev_iconst (pc := 163) (v := nI 0) d_N_writeTo_163 rfl ?_
        refine ev_rIN (pc := 164) sh_N_n (by omega) (by decide) d_N_writeTo_164 ?_
        rw [show C 228 0 = b by rw [eb, nW_b, if_pos h3]]
        exact t165
      · refine ev_aload_n (pc := 150) d_N_writeTo_150 rfl rfl (by first | rfl | exact mm_rk_rf _) ?_
        refine ev_gR (pc := 151) sh_N (by rfl) fl_N_38 d_N_writeTo_151 ?_
        refine ev_iload_n (pc := 154) d_N_writeTo_154 rfl rfl ?_
        refine ev_rIN (pc := 155) sh_N_length (by omega) (by decide) d_N_writeTo_155 ?_
        refine ev_goto (pc := 156) (tgt := 165) d_N_writeTo_156 (by decide) ?_
        rw [show C 214 k = b by rw [eb, nW_b, if_neg h3]]
        exact t165
    have loop : ∀ d i : Nat, i + d = g → 1 ≤ i → ∀ P : Prop, (P ↔ nb_P2 C i) → ev_At E K_N_writeTo 67 [some (.ref 204), some (.int (nI f)), some (.int (nI k)), some (.int (b3_P P)), some (.int (nI i)), none, none] [] (hp_H C) 0 0 (mm_D (some (.int R.1)) R.2) := by
      intro d
      induction d with
      | zero =>
        intro i hi h1 P hP
        have ei : i = g := by omega
        subst ei
        refine ev_iload (pc := 67) d_N_writeTo_67 rfl ?_
        refine ev_aload_n (pc := 69) d_N_writeTo_69 rfl rfl (by first | rfl | exact mm_rk_rf _) ?_
        refine ev_gI (pc := 70) sh_N (by rfl) fl_N_107 d_N_writeTo_70 ?_
        rw [hg9]
        refine ev_icmp_ge (pc := 73) (tgt := 115) d_N_writeTo_73 (by decide) (fun h2 => ?_) (fun h2 => ?_)
        · exact t115 P hP
        · exact absurd (Int32.le_refl _) h2
      | succ d ih =>
        intro i hi h1 P hP
        have fin : ∀ Q : Prop, (Q ↔ P ∧ ¬ C 228 i < 0 ∧ ¬ 255 < C 228 i) → ev_At E K_N_writeTo 108 [some (.ref 204), some (.int (nI f)), some (.int (nI k)), some (.int (b3_P P)), some (.int (nI i)), none, none] [.int (b3_P Q)] (hp_H C) 0 0 (mm_D (some (.int R.1)) R.2) := by
          intro Q hQ
          refine ev_istore_n (pc := 108) d_N_writeTo_108 rfl (Nat.le_of_ble_eq_true rfl) rfl ?_
          try dsimp only [List.set]
          refine ev_iinc (pc := 109) d_N_writeTo_109 (Nat.le_of_ble_eq_true rfl) rfl (nx_inc _) rfl ?_
          try dsimp only [List.set]
          refine ev_goto (pc := 112) (tgt := 67) d_N_writeTo_112 (by decide) ?_
          refine ih (i + 1) (by omega) (by omega) Q (hQ.trans ⟨fun z => ?_, fun z => ?_⟩)
          · have z1 := hP.mp z.1
            refine ⟨z1.1, fun l q1 q2 => ?_⟩
            by_cases hl : l = i
            · subst hl
              exact z.2
            · exact z1.2 l q1 (by omega)
          · exact ⟨hP.mpr ⟨z.1, fun l q1 q2 => z.2 l q1 (by omega)⟩, z.2 i h1 (by omega)⟩
        have fin0 : ¬ (P ∧ ¬ C 228 i < 0 ∧ ¬ 255 < C 228 i) → ev_At E K_N_writeTo 107 [some (.ref 204), some (.int (nI f)), some (.int (nI k)), some (.int (b3_P P)), some (.int (nI i)), none, none] [] (hp_H C) 0 0 (mm_D (some (.int R.1)) R.2) := by
          intro hh
          refine ev_iconst (pc := 107) (v := 0) d_N_writeTo_107 rfl ?_
          have h2 := fin False ⟨fun z => z.elim, hh⟩
          rw [b3_f (fun z => z)] at h2
          exact h2
        refine ev_iload (pc := 67) d_N_writeTo_67 rfl ?_
        refine ev_aload_n (pc := 69) d_N_writeTo_69 rfl rfl (by first | rfl | exact mm_rk_rf _) ?_
        refine ev_gI (pc := 70) sh_N (by rfl) fl_N_107 d_N_writeTo_70 ?_
        rw [hg9]
        refine ev_icmp_ge (pc := 73) (tgt := 115) d_N_writeTo_73 (by decide) (fun h2 => ?_) (fun h2 => ?_)
        · exact absurd h2 (nI_ge (by omega) (by omega))
        refine ev_iload_n (pc := 76) d_N_writeTo_76 rfl rfl ?_
        refine ev_if_eq (pc := 77) (tgt := 107) d_N_writeTo_77 (by decide) (fun h3 => ?_) (fun h3 => ?_)
        · rw [b3_0] at h3
          exact fin0 (fun z => h3 z.1)
        rw [b3_0, Classical.not_not] at h3
        refine ev_aload_n (pc := 80) d_N_writeTo_80 rfl rfl (by first | rfl | exact mm_rk_rf _) ?_
        refine ev_gR (pc := 81) sh_N (by rfl) fl_N_87 d_N_writeTo_81 ?_
        refine ev_iload (pc := 84) d_N_writeTo_84 rfl ?_
        refine ev_rIN (pc := 86) sh_N_n (by omega) (by decide) d_N_writeTo_86 ?_
        refine ev_if_lt (pc := 87) (tgt := 107) d_N_writeTo_87 (by decide) (fun h4 => ?_) (fun h4 => ?_)
        · exact fin0 (fun z => z.2.1 h4)
        refine ev_aload_n (pc := 90) d_N_writeTo_90 rfl rfl (by first | rfl | exact mm_rk_rf _) ?_
        refine ev_gR (pc := 91) sh_N (by rfl) fl_N_87 d_N_writeTo_91 ?_
        refine ev_iload (pc := 94) d_N_writeTo_94 rfl ?_
        refine ev_rIN (pc := 96) sh_N_n (by omega) (by decide) d_N_writeTo_96 ?_
        refine ev_sipush (pc := 97) (v := 255) d_N_writeTo_97 (by decide) ?_
        refine ev_icmp_gt (pc := 100) (tgt := 107) d_N_writeTo_100 (by decide) (fun h5 => ?_) (fun h5 => ?_)
        · exact fin0 (fun z => z.2.2 h5)
        refine ev_iconst (pc := 103) (v := 1) d_N_writeTo_103 rfl ?_
        refine ev_goto (pc := 104) (tgt := 108) d_N_writeTo_104 (by decide) ?_
        have h2 := fin True ⟨fun _ => ⟨h3, h4, h5⟩, fun _ => trivial⟩
        rw [b3_t trivial] at h2
        exact h2
    refine ev_aload_n (pc := 49) d_N_writeTo_49 rfl rfl (by first | rfl | exact mm_rk_rf _) ?_
    refine ev_gR (pc := 50) sh_N (by rfl) fl_N_87 d_N_writeTo_50 ?_
    refine ev_iconst (pc := 53) (v := nI 0) d_N_writeTo_53 rfl ?_
    refine ev_rIN (pc := 54) sh_N_n (by omega) (by decide) d_N_writeTo_54 ?_
    refine ev_if_lt (pc := 55) (tgt := 62) d_N_writeTo_55 (by decide) (fun h1 => ?_) (fun h1 => ?_)
    · refine ev_iconst (pc := 62) (v := 0) d_N_writeTo_62 rfl ?_
      refine ev_istore_n (pc := 63) d_N_writeTo_63 rfl (Nat.le_of_ble_eq_true rfl) rfl ?_
      try dsimp only [List.set]
      refine ev_iconst (pc := 64) (v := 1) d_N_writeTo_64 rfl ?_
      refine ev_istore (pc := 65) d_N_writeTo_65 (Nat.le_of_ble_eq_true rfl) rfl ?_
      try dsimp only [List.set]
      have h2 := loop (g - 1) 1 (by omega) (by omega) False ⟨fun z => z.elim, fun z => z.1 h1⟩
      rw [b3_f (fun z => z)] at h2
      exact h2
    · refine ev_iconst (pc := 58) (v := 1) d_N_writeTo_58 rfl ?_
      refine ev_goto (pc := 59) (tgt := 63) d_N_writeTo_59 (by decide) ?_
      refine ev_istore_n (pc := 63) d_N_writeTo_63 rfl (Nat.le_of_ble_eq_true rfl) rfl ?_
      try dsimp only [List.set]
      refine ev_iconst (pc := 64) (v := 1) d_N_writeTo_64 rfl ?_
      refine ev_istore (pc := 65) d_N_writeTo_65 (Nat.le_of_ble_eq_true rfl) rfl ?_
      try dsimp only [List.set]
      have h2 := loop (g - 1) 1 (by omega) (by omega) True ⟨fun _ => ⟨h1, fun i q1 q2 => by omega⟩, fun _ => trivial⟩
      rw [b3_t trivial] at h2
      exact h2
