/-! The reference: reading. -/
def nB_C (C : Nat → Nat → Int32) (k a : Nat) : Nat → Nat → Nat → Int32
  | 0 => C
  | n + 1 => nt_C (nB_C C k a n) n (C 216 (16 * k + (a + n)))
theorem nB_ne {C : Nat → Nat → Int32} {k a x j : Nat} (h1 : x ≠ 227) (h2 : x ≠ 204) : ∀ n, nB_C C k a n x j = C x j := by
  intro n
  induction n with
  | zero => rfl
  | succ n ih => rw [nB_C, nt_ne h1 h2, ih]
theorem nB_k {C : Nat → Nat → Int32} {k a : Nat} (h : C 204 26 = nI 0) : ∀ n, nB_C C k a n 204 26 = nI n := by
  intro n
  cases n with
  | zero => exact h
  | succ n => exact nt_k _ _ _
/-- a directory's titles x, x + 1 ..: d of them are looked at; j: how many are there below; n: how many are told -/
def nD_f (C : Nat → Nat → Int32) (k a c : Nat) : Nat → (Nat → Nat → Int32) → Nat → Nat → Nat → Nat × (Nat → Nat → Int32)
  | 0, D, _, _, n => (n, D)
  | d + 1, D, x, j, n => match nh_i C k (nI x) with
    | none => nD_f C k a c d D (x + 1) j n
    | some _ => if a ≤ j ∧ n < c then nD_f C k a c d (nt_C D n (nI x)) (x + 1) (j + 1) (n + 1) else nD_f C k a c d D (x + 1) (j + 1) n
noncomputable def nQ_R (C : Nat → Nat → Int32) (f t : Nat) : Int32 × (Nat → Nat → Int32) := if C 217 f < 0 then (-1, C) else if C 220 f < 0 ∨ (C 220 f &&& 3) = 1 then (-8, C) else (match nc_i C t (C 219 f) with
  | none => (-13, C)
  | some k => if C 228 0 < 0 ∨ C 228 1 < 0 ∨ 8 < C 228 1 then (-7, C) else if (C 213 k &&& 2048) = 0 then (nI (min ((C 214 k).toNatClampNeg - (C 228 0).toNatClampNeg) (C 228 1).toNatClampNeg), nB_C C k (C 228 0).toNatClampNeg (min ((C 214 k).toNatClampNeg - (C 228 0).toNatClampNeg) (C 228 1).toNatClampNeg)) else if ¬ C 228 0 = 0 ∧ ¬ C 228 0 = C 221 f then (-7, C) else (nI (nD_f C k (C 228 0).toNatClampNeg (C 228 1).toNatClampNeg 99 C 1 0 0).1, cs_C (nD_f C k (C 228 0).toNatClampNeg (C 228 1).toNatClampNeg 99 C 1 0 0).2 221 f (C 228 0 + nI (nD_f C k (C 228 0).toNatClampNeg (C 228 1).toNatClampNeg 99 C 1 0 0).1)))
theorem nh_c {C D : Nat → Nat → Int32} (h6 : D 206 = C 206) (h7 : D 207 = C 207) (h8 : D 208 = C 208) (h9 : D 209 = C 209) : nh_i D = nh_i C := by
  funext k x
  simp only [nh_i, nm, h6, h7, h8, h9]
theorem d_N_readFrom_0 : decode b_N_readFrom 0 = .ok (.aload_n 0, 1) := by decide +kernel
theorem d_N_readFrom_1 : decode b_N_readFrom 1 = .ok (.getfield 54, 3) := by decide +kernel
theorem d_N_readFrom_4 : decode b_N_readFrom 4 = .ok (.iload_n 1, 1) := by decide +kernel
theorem d_N_readFrom_5 : decode b_N_readFrom 5 = .ok (.iaload, 1) := by decide +kernel
theorem d_N_readFrom_6 : decode b_N_readFrom 6 = .ok (.ifCond .ge 5, 3) := by decide +kernel
theorem d_N_readFrom_9 : decode b_N_readFrom 9 = .ok (.iconst (-1), 1) := by decide +kernel
theorem d_N_readFrom_10 : decode b_N_readFrom 10 = .ok (.ireturn, 1) := by decide +kernel
theorem d_N_readFrom_11 : decode b_N_readFrom 11 = .ok (.aload_n 0, 1) := by decide +kernel
theorem d_N_readFrom_12 : decode b_N_readFrom 12 = .ok (.getfield 63, 3) := by decide +kernel
theorem d_N_readFrom_15 : decode b_N_readFrom 15 = .ok (.iload_n 1, 1) := by decide +kernel
theorem d_N_readFrom_16 : decode b_N_readFrom 16 = .ok (.iaload, 1) := by decide +kernel
theorem d_N_readFrom_17 : decode b_N_readFrom 17 = .ok (.ifCond .lt 16, 3) := by decide +kernel
theorem d_N_readFrom_20 : decode b_N_readFrom 20 = .ok (.aload_n 0, 1) := by decide +kernel
theorem d_N_readFrom_21 : decode b_N_readFrom 21 = .ok (.aload_n 0, 1) := by decide +kernel
theorem d_N_readFrom_22 : decode b_N_readFrom 22 = .ok (.getfield 63, 3) := by decide +kernel
theorem d_N_readFrom_25 : decode b_N_readFrom 25 = .ok (.iload_n 1, 1) := by decide +kernel
theorem d_N_readFrom_26 : decode b_N_readFrom 26 = .ok (.iaload, 1) := by decide +kernel
theorem d_N_readFrom_27 : decode b_N_readFrom 27 = .ok (.invokevirtual 187, 3) := by decide +kernel
theorem d_N_readFrom_30 : decode b_N_readFrom 30 = .ok (.ifCond .ne 6, 3) := by decide +kernel
theorem d_N_readFrom_33 : decode b_N_readFrom 33 = .ok (.bipush (-8), 2) := by decide +kernel
theorem d_N_readFrom_35 : decode b_N_readFrom 35 = .ok (.ireturn, 1) := by decide +kernel
theorem d_N_readFrom_36 : decode b_N_readFrom 36 = .ok (.aload_n 0, 1) := by decide +kernel
theorem d_N_readFrom_37 : decode b_N_readFrom 37 = .ok (.iload_n 1, 1) := by decide +kernel
theorem d_N_readFrom_38 : decode b_N_readFrom 38 = .ok (.invokevirtual 167, 3) := by decide +kernel
theorem d_N_readFrom_41 : decode b_N_readFrom 41 = .ok (.istore_n 2, 1) := by decide +kernel
theorem d_N_readFrom_42 : decode b_N_readFrom 42 = .ok (.iload_n 2, 1) := by decide +kernel
theorem d_N_readFrom_43 : decode b_N_readFrom 43 = .ok (.ifCond .ge 6, 3) := by decide +kernel
theorem d_N_readFrom_46 : decode b_N_readFrom 46 = .ok (.bipush (-13), 2) := by decide +kernel
theorem d_N_readFrom_48 : decode b_N_readFrom 48 = .ok (.ireturn, 1) := by decide +kernel
theorem d_N_readFrom_49 : decode b_N_readFrom 49 = .ok (.aload_n 0, 1) := by decide +kernel
theorem d_N_readFrom_50 : decode b_N_readFrom 50 = .ok (.iload_n 2, 1) := by decide +kernel
theorem d_N_readFrom_51 : decode b_N_readFrom 51 = .ok (.invokevirtual 174, 3) := by decide +kernel
theorem d_N_readFrom_54 : decode b_N_readFrom 54 = .ok (.istore_n 3, 1) := by decide +kernel
theorem d_N_readFrom_55 : decode b_N_readFrom 55 = .ok (.aload_n 0, 1) := by decide +kernel
theorem d_N_readFrom_56 : decode b_N_readFrom 56 = .ok (.getfield 87, 3) := by decide +kernel
theorem d_N_readFrom_59 : decode b_N_readFrom 59 = .ok (.iconst 0, 1) := by decide +kernel
theorem d_N_readFrom_60 : decode b_N_readFrom 60 = .ok (.iaload, 1) := by decide +kernel
theorem d_N_readFrom_61 : decode b_N_readFrom 61 = .ok (.ifCond .lt 51, 3) := by decide +kernel
theorem d_N_readFrom_64 : decode b_N_readFrom 64 = .ok (.aload_n 0, 1) := by decide +kernel
theorem d_N_readFrom_65 : decode b_N_readFrom 65 = .ok (.getfield 87, 3) := by decide +kernel
theorem d_N_readFrom_68 : decode b_N_readFrom 68 = .ok (.iconst 1, 1) := by decide +kernel
theorem d_N_readFrom_69 : decode b_N_readFrom 69 = .ok (.iaload, 1) := by decide +kernel
theorem d_N_readFrom_70 : decode b_N_readFrom 70 = .ok (.ifCond .lt 42, 3) := by decide +kernel
theorem d_N_readFrom_73 : decode b_N_readFrom 73 = .ok (.aload_n 0, 1) := by decide +kernel
theorem d_N_readFrom_74 : decode b_N_readFrom 74 = .ok (.getfield 87, 3) := by decide +kernel
theorem d_N_readFrom_77 : decode b_N_readFrom 77 = .ok (.iconst 1, 1) := by decide +kernel
theorem d_N_readFrom_78 : decode b_N_readFrom 78 = .ok (.iaload, 1) := by decide +kernel
theorem d_N_readFrom_79 : decode b_N_readFrom 79 = .ok (.bipush 8, 2) := by decide +kernel
theorem d_N_readFrom_81 : decode b_N_readFrom 81 = .ok (.if_icmp .gt 31, 3) := by decide +kernel
theorem d_N_readFrom_84 : decode b_N_readFrom 84 = .ok (.iload_n 3, 1) := by decide +kernel
theorem d_N_readFrom_85 : decode b_N_readFrom 85 = .ok (.ifCond .eq 30, 3) := by decide +kernel
theorem d_N_readFrom_88 : decode b_N_readFrom 88 = .ok (.aload_n 0, 1) := by decide +kernel
theorem d_N_readFrom_89 : decode b_N_readFrom 89 = .ok (.getfield 87, 3) := by decide +kernel
theorem d_N_readFrom_92 : decode b_N_readFrom 92 = .ok (.iconst 0, 1) := by decide +kernel
theorem d_N_readFrom_93 : decode b_N_readFrom 93 = .ok (.iaload, 1) := by decide +kernel
theorem d_N_readFrom_94 : decode b_N_readFrom 94 = .ok (.ifCond .eq 21, 3) := by decide +kernel
theorem d_N_readFrom_97 : decode b_N_readFrom 97 = .ok (.aload_n 0, 1) := by decide +kernel
theorem d_N_readFrom_98 : decode b_N_readFrom 98 = .ok (.getfield 87, 3) := by decide +kernel
theorem d_N_readFrom_101 : decode b_N_readFrom 101 = .ok (.iconst 0, 1) := by decide +kernel
theorem d_N_readFrom_102 : decode b_N_readFrom 102 = .ok (.iaload, 1) := by decide +kernel
theorem d_N_readFrom_103 : decode b_N_readFrom 103 = .ok (.aload_n 0, 1) := by decide +kernel
theorem d_N_readFrom_104 : decode b_N_readFrom 104 = .ok (.getfield 66, 3) := by decide +kernel
theorem d_N_readFrom_107 : decode b_N_readFrom 107 = .ok (.iload_n 1, 1) := by decide +kernel
theorem d_N_readFrom_108 : decode b_N_readFrom 108 = .ok (.iaload, 1) := by decide +kernel
theorem d_N_readFrom_109 : decode b_N_readFrom 109 = .ok (.if_icmp .eq 6, 3) := by decide +kernel
theorem d_N_readFrom_112 : decode b_N_readFrom 112 = .ok (.bipush (-7), 2) := by decide +kernel
theorem d_N_readFrom_114 : decode b_N_readFrom 114 = .ok (.ireturn, 1) := by decide +kernel
theorem d_N_readFrom_115 : decode b_N_readFrom 115 = .ok (.iload_n 3, 1) := by decide +kernel
theorem d_N_readFrom_116 : decode b_N_readFrom 116 = .ok (.ifCond .ne 67, 3) := by decide +kernel
theorem d_N_readFrom_119 : decode b_N_readFrom 119 = .ok (.aload_n 0, 1) := by decide +kernel
theorem d_N_readFrom_120 : decode b_N_readFrom 120 = .ok (.getfield 87, 3) := by decide +kernel
theorem d_N_readFrom_123 : decode b_N_readFrom 123 = .ok (.iconst 0, 1) := by decide +kernel
theorem d_N_readFrom_124 : decode b_N_readFrom 124 = .ok (.iaload, 1) := by decide +kernel
theorem d_N_readFrom_125 : decode b_N_readFrom 125 = .ok (.istore 4, 2) := by decide +kernel
theorem d_N_readFrom_127 : decode b_N_readFrom 127 = .ok (.iload 4, 2) := by decide +kernel
theorem d_N_readFrom_129 : decode b_N_readFrom 129 = .ok (.aload_n 0, 1) := by decide +kernel
theorem d_N_readFrom_130 : decode b_N_readFrom 130 = .ok (.getfield 38, 3) := by decide +kernel
theorem d_N_readFrom_133 : decode b_N_readFrom 133 = .ok (.iload_n 2, 1) := by decide +kernel
theorem d_N_readFrom_134 : decode b_N_readFrom 134 = .ok (.iaload, 1) := by decide +kernel
theorem d_N_readFrom_135 : decode b_N_readFrom 135 = .ok (.if_icmp .ge 43, 3) := by decide +kernel
theorem d_N_readFrom_138 : decode b_N_readFrom 138 = .ok (.iload 4, 2) := by decide +kernel
theorem d_N_readFrom_140 : decode b_N_readFrom 140 = .ok (.aload_n 0, 1) := by decide +kernel
theorem d_N_readFrom_141 : decode b_N_readFrom 141 = .ok (.getfield 87, 3) := by decide +kernel
theorem d_N_readFrom_144 : decode b_N_readFrom 144 = .ok (.iconst 0, 1) := by decide +kernel
theorem d_N_readFrom_145 : decode b_N_readFrom 145 = .ok (.iaload, 1) := by decide +kernel
theorem d_N_readFrom_146 : decode b_N_readFrom 146 = .ok (.isub, 1) := by decide +kernel
theorem d_N_readFrom_147 : decode b_N_readFrom 147 = .ok (.aload_n 0, 1) := by decide +kernel
theorem d_N_readFrom_148 : decode b_N_readFrom 148 = .ok (.getfield 87, 3) := by decide +kernel
theorem d_N_readFrom_151 : decode b_N_readFrom 151 = .ok (.iconst 1, 1) := by decide +kernel
theorem d_N_readFrom_152 : decode b_N_readFrom 152 = .ok (.iaload, 1) := by decide +kernel
theorem d_N_readFrom_153 : decode b_N_readFrom 153 = .ok (.if_icmp .ge 25, 3) := by decide +kernel
theorem d_N_readFrom_156 : decode b_N_readFrom 156 = .ok (.aload_n 0, 1) := by decide +kernel
theorem d_N_readFrom_157 : decode b_N_readFrom 157 = .ok (.aload_n 0, 1) := by decide +kernel
theorem d_N_readFrom_158 : decode b_N_readFrom 158 = .ok (.getfield 44, 3) := by decide +kernel
theorem d_N_readFrom_161 : decode b_N_readFrom 161 = .ok (.bipush 16, 2) := by decide +kernel
theorem d_N_readFrom_163 : decode b_N_readFrom 163 = .ok (.iload_n 2, 1) := by decide +kernel
theorem d_N_readFrom_164 : decode b_N_readFrom 164 = .ok (.imul, 1) := by decide +kernel
theorem d_N_readFrom_165 : decode b_N_readFrom 165 = .ok (.iload 4, 2) := by decide +kernel
theorem d_N_readFrom_167 : decode b_N_readFrom 167 = .ok (.iadd, 1) := by decide +kernel
theorem d_N_readFrom_168 : decode b_N_readFrom 168 = .ok (.iaload, 1) := by decide +kernel
theorem d_N_readFrom_169 : decode b_N_readFrom 169 = .ok (.invokevirtual 170, 3) := by decide +kernel
theorem d_N_readFrom_172 : decode b_N_readFrom 172 = .ok (.iinc 4 1, 3) := by decide +kernel
theorem d_N_readFrom_175 : decode b_N_readFrom 175 = .ok (.goto (-48), 3) := by decide +kernel
theorem d_N_readFrom_178 : decode b_N_readFrom 178 = .ok (.aload_n 0, 1) := by decide +kernel
theorem d_N_readFrom_179 : decode b_N_readFrom 179 = .ok (.getfield 96, 3) := by decide +kernel
theorem d_N_readFrom_182 : decode b_N_readFrom 182 = .ok (.ireturn, 1) := by decide +kernel
theorem d_N_readFrom_183 : decode b_N_readFrom 183 = .ok (.iconst 0, 1) := by decide +kernel
theorem d_N_readFrom_184 : decode b_N_readFrom 184 = .ok (.istore 4, 2) := by decide +kernel
theorem d_N_readFrom_186 : decode b_N_readFrom 186 = .ok (.iconst 1, 1) := by decide +kernel
theorem d_N_readFrom_187 : decode b_N_readFrom 187 = .ok (.istore 5, 2) := by decide +kernel
theorem d_N_readFrom_189 : decode b_N_readFrom 189 = .ok (.iload 5, 2) := by decide +kernel
theorem d_N_readFrom_191 : decode b_N_readFrom 191 = .ok (.bipush 99, 2) := by decide +kernel
theorem d_N_readFrom_193 : decode b_N_readFrom 193 = .ok (.if_icmp .gt 55, 3) := by decide +kernel
theorem d_N_readFrom_196 : decode b_N_readFrom 196 = .ok (.aload_n 0, 1) := by decide +kernel
theorem d_N_readFrom_197 : decode b_N_readFrom 197 = .ok (.iload_n 2, 1) := by decide +kernel
theorem d_N_readFrom_198 : decode b_N_readFrom 198 = .ok (.iload 5, 2) := by decide +kernel
theorem d_N_readFrom_200 : decode b_N_readFrom 200 = .ok (.invokevirtual 181, 3) := by decide +kernel
theorem d_N_readFrom_203 : decode b_N_readFrom 203 = .ok (.ifCond .ge 6, 3) := by decide +kernel
theorem d_N_readFrom_206 : decode b_N_readFrom 206 = .ok (.goto 36, 3) := by decide +kernel
theorem d_N_readFrom_209 : decode b_N_readFrom 209 = .ok (.iload 4, 2) := by decide +kernel
theorem d_N_readFrom_211 : decode b_N_readFrom 211 = .ok (.aload_n 0, 1) := by decide +kernel
theorem d_N_readFrom_212 : decode b_N_readFrom 212 = .ok (.getfield 87, 3) := by decide +kernel
theorem d_N_readFrom_215 : decode b_N_readFrom 215 = .ok (.iconst 0, 1) := by decide +kernel
theorem d_N_readFrom_216 : decode b_N_readFrom 216 = .ok (.iaload, 1) := by decide +kernel
theorem d_N_readFrom_217 : decode b_N_readFrom 217 = .ok (.if_icmp .lt 22, 3) := by decide +kernel
theorem d_N_readFrom_220 : decode b_N_readFrom 220 = .ok (.aload_n 0, 1) := by decide +kernel
theorem d_N_readFrom_221 : decode b_N_readFrom 221 = .ok (.getfield 96, 3) := by decide +kernel
theorem d_N_readFrom_224 : decode b_N_readFrom 224 = .ok (.aload_n 0, 1) := by decide +kernel
theorem d_N_readFrom_225 : decode b_N_readFrom 225 = .ok (.getfield 87, 3) := by decide +kernel
theorem d_N_readFrom_228 : decode b_N_readFrom 228 = .ok (.iconst 1, 1) := by decide +kernel
theorem d_N_readFrom_229 : decode b_N_readFrom 229 = .ok (.iaload, 1) := by decide +kernel
theorem d_N_readFrom_230 : decode b_N_readFrom 230 = .ok (.if_icmp .ge 9, 3) := by decide +kernel
theorem d_N_readFrom_233 : decode b_N_readFrom 233 = .ok (.aload_n 0, 1) := by decide +kernel
theorem d_N_readFrom_234 : decode b_N_readFrom 234 = .ok (.iload 5, 2) := by decide +kernel
theorem d_N_readFrom_236 : decode b_N_readFrom 236 = .ok (.invokevirtual 170, 3) := by decide +kernel
theorem d_N_readFrom_239 : decode b_N_readFrom 239 = .ok (.iinc 4 1, 3) := by decide +kernel
theorem d_N_readFrom_242 : decode b_N_readFrom 242 = .ok (.iinc 5 1, 3) := by decide +kernel
theorem d_N_readFrom_245 : decode b_N_readFrom 245 = .ok (.goto (-56), 3) := by decide +kernel
theorem d_N_readFrom_248 : decode b_N_readFrom 248 = .ok (.aload_n 0, 1) := by decide +kernel
theorem d_N_readFrom_249 : decode b_N_readFrom 249 = .ok (.getfield 66, 3) := by decide +kernel
theorem d_N_readFrom_252 : decode b_N_readFrom 252 = .ok (.iload_n 1, 1) := by decide +kernel
theorem d_N_readFrom_253 : decode b_N_readFrom 253 = .ok (.aload_n 0, 1) := by decide +kernel
theorem d_N_readFrom_254 : decode b_N_readFrom 254 = .ok (.getfield 87, 3) := by decide +kernel
theorem d_N_readFrom_257 : decode b_N_readFrom 257 = .ok (.iconst 0, 1) := by decide +kernel
theorem d_N_readFrom_258 : decode b_N_readFrom 258 = .ok (.iaload, 1) := by decide +kernel
theorem d_N_readFrom_259 : decode b_N_readFrom 259 = .ok (.aload_n 0, 1) := by decide +kernel
theorem d_N_readFrom_260 : decode b_N_readFrom 260 = .ok (.getfield 96, 3) := by decide +kernel
theorem d_N_readFrom_263 : decode b_N_readFrom 263 = .ok (.iadd, 1) := by decide +kernel
theorem d_N_readFrom_264 : decode b_N_readFrom 264 = .ok (.iastore, 1) := by decide +kernel
theorem d_N_readFrom_265 : decode b_N_readFrom 265 = .ok (.aload_n 0, 1) := by decide +kernel
theorem d_N_readFrom_266 : decode b_N_readFrom 266 = .ok (.getfield 96, 3) := by decide +kernel
theorem d_N_readFrom_269 : decode b_N_readFrom 269 = .ok (.ireturn, 1) := by decide +kernel
set_option maxRecDepth 20000 in
set_option maxHeartbeats 2000000 in
theorem ct_N_readFrom (E : mm_En) (C : Nat → Nat → Int32) {f t s : Nat} (hw : nw_P C s) (hu : nu_P C f t) (hr : C 204 26 = nI 0) : mm_MT E K_N_readFrom [.ref 204, .int (nI f)] (hp_H C) (mm_D (some (.int (nQ_R C f t).1)) (nQ_R C f t).2) := by
  obtain ⟨hm, hp, hg, hl, es, s4, hroot⟩ := hw
  obtain ⟨hf, ht, et, hus⟩ := hu
  refine mm_mtL (by decide) (by rfl) (Nat.le_of_ble_eq_true rfl) rfl ?_
  refine ev_aload_n (pc := 0) d_N_readFrom_0 rfl rfl (by first | rfl | exact mm_rk_rf _) ?_
  refine ev_gR (pc := 1) sh_N (by rfl) fl_N_54 d_N_readFrom_1 ?_
  refine ev_iload_n (pc := 4) d_N_readFrom_4 rfl rfl ?_
  refine ev_rIN (pc := 5) sh_N_user (by omega) (by decide) d_N_readFrom_5 ?_
  refine ev_if_ge (pc := 6) (tgt := 11) d_N_readFrom_6 (by decide) (fun ha => ?_) (fun ha => ?_)
  rotate_left
  · have ha' : C 217 f < 0 := Int32.not_le.mp ha
    rw [nQ_R, if_pos ha']
    refine ev_iconst (pc := 9) (v := -1) d_N_readFrom_9 rfl ?_
    exact ev_iret (pc := 10) d_N_readFrom_10 rfl (Nat.zero_le _) (Nat.zero_le _) ⟨rfl, rfl⟩
  have ha' : ¬ C 217 f < 0 := Int32.not_lt.mpr ha
  rw [nQ_R, if_neg ha']
  refine ev_aload_n (pc := 11) d_N_readFrom_11 rfl rfl (by first | rfl | exact mm_rk_rf _) ?_
  refine ev_gR (pc := 12) sh_N (by rfl) fl_N_63 d_N_readFrom_12 ?_
  refine ev_iload_n (pc := 15) d_N_readFrom_15 rfl rfl ?_
  refine ev_rIN (pc := 16) sh_N_openMode (by omega) (by decide) d_N_readFrom_16 ?_
  refine ev_if_lt (pc := 17) (tgt := 33) d_N_readFrom_17 (by decide) (fun hb => ?_) (fun hb => ?_)
  · rw [if_pos (Or.inl hb)]
    refine ev_bipush (pc := 33) (v := -8) d_N_readFrom_33 (by decide) ?_
    exact ev_iret (pc := 35) d_N_readFrom_35 rfl (Nat.zero_le _) (Nat.zero_le _) ⟨rfl, rfl⟩
  refine ev_aload_n (pc := 20) d_N_readFrom_20 rfl rfl (by first | rfl | exact mm_rk_rf _) ?_
  refine ev_aload_n (pc := 21) d_N_readFrom_21 rfl rfl (by first | rfl | exact mm_rk_rf _) ?_
  refine ev_gR (pc := 22) sh_N (by rfl) fl_N_63 d_N_readFrom_22 ?_
  refine ev_iload_n (pc := 25) d_N_readFrom_25 rfl rfl ?_
  refine ev_rIN (pc := 26) sh_N_openMode (by omega) (by decide) d_N_readFrom_26 ?_
  refine ev_cV (pc := 27) (ct_N_reads E C _) cl_N_187 jv_N_reads ⟨(Nat.le_of_ble_eq_true rfl), (Nat.le_of_ble_eq_true rfl)⟩ rfl sh_N rfl (Nat.le_of_ble_eq_true rfl) d_N_readFrom_27 ⟨Nat.zero_le _, Nat.zero_le _⟩ ?_
  refine ev_if_ne (pc := 30) (tgt := 36) d_N_readFrom_30 (by decide) (fun hd => ?_) (fun hd => ?_)
  rotate_left
  · rw [b2_0, Classical.not_not] at hd
    rw [if_pos (Or.inr hd)]
    refine ev_bipush (pc := 33) (v := -8) d_N_readFrom_33 (by decide) ?_
    exact ev_iret (pc := 35) d_N_readFrom_35 rfl (Nat.zero_le _) (Nat.zero_le _) ⟨rfl, rfl⟩
  rw [b2_0, Classical.not_not] at hd
  rw [if_neg (fun z => z.elim hb hd)]
  refine ev_aload_n (pc := 36) d_N_readFrom_36 rfl rfl (by first | rfl | exact mm_rk_rf _) ?_
  refine ev_iload_n (pc := 37) d_N_readFrom_37 rfl rfl ?_
  refine ev_cV (pc := 38) (ct_N_nodeOf E C hm hf ht et) cl_N_167 jv_N_nodeOf ⟨(Nat.le_of_ble_eq_true rfl), (Nat.le_of_ble_eq_true rfl)⟩ rfl sh_N rfl (Nat.le_of_ble_eq_true rfl) d_N_readFrom_38 ⟨Nat.zero_le _, Nat.zero_le _⟩ ?_
  cases hn : nc_i C t (C 219 f) with
  | none =>
    rw [show oI none = -1 from rfl]
    refine ev_istore_n (pc := 41) d_N_readFrom_41 rfl (Nat.le_of_ble_eq_true rfl) rfl ?_
    try dsimp only [List.set]
    refine ev_iload_n (pc := 42) d_N_readFrom_42 rfl rfl ?_
    refine ev_if_ge (pc := 43) (tgt := 49) d_N_readFrom_43 (by decide) (fun hb => ?_) (fun hb => ?_)
    · exact absurd hb (by decide)
    refine ev_bipush (pc := 46) (v := -13) d_N_readFrom_46 (by decide) ?_
    exact ev_iret (pc := 48) d_N_readFrom_48 rfl (Nat.zero_le _) (Nat.zero_le _) ⟨rfl, rfl⟩
  | some k =>
    rw [show oI (some k) = nI k from rfl]
    obtain ⟨v1, v2, v3, v4⟩ := nc_v ht hm hn
    simp only []
    refine ev_istore_n (pc := 41) d_N_readFrom_41 rfl (Nat.le_of_ble_eq_true rfl) rfl ?_
    try dsimp only [List.set]
    refine ev_iload_n (pc := 42) d_N_readFrom_42 rfl rfl ?_
    refine ev_if_ge (pc := 43) (tgt := 49) d_N_readFrom_43 (by decide) (fun hb => ?_) (fun hb => ?_)
    rotate_left
    · exact absurd (nI_pos' (by omega)) hb
    obtain ⟨l16, el⟩ := hl k v1
    refine ev_aload_n (pc := 49) d_N_readFrom_49 rfl rfl (by first | rfl | exact mm_rk_rf _) ?_
    refine ev_iload_n (pc := 50) d_N_readFrom_50 rfl rfl ?_
    refine ev_cV (pc := 51) (ct_N_isDirectory E C v1) cl_N_174 jv_N_isDirectory ⟨(Nat.le_of_ble_eq_true rfl), (Nat.le_of_ble_eq_true rfl)⟩ rfl sh_N rfl (Nat.le_of_ble_eq_true rfl) d_N_readFrom_51 ⟨Nat.zero_le _, Nat.zero_le _⟩ ?_
    refine ev_istore_n (pc := 54) d_N_readFrom_54 rfl (Nat.le_of_ble_eq_true rfl) rfl ?_
    try dsimp only [List.set]
    refine ev_aload_n (pc := 55) d_N_readFrom_55 rfl rfl (by first | rfl | exact mm_rk_rf _) ?_
    refine ev_gR (pc := 56) sh_N (by rfl) fl_N_87 d_N_readFrom_56 ?_
    refine ev_iconst (pc := 59) (v := nI 0) d_N_readFrom_59 rfl ?_
    refine ev_rIN (pc := 60) sh_N_n (by omega) (by decide) d_N_readFrom_60 ?_
    refine ev_if_lt (pc := 61) (tgt := 112) d_N_readFrom_61 (by decide) (fun h1 => ?_) (fun h1 => ?_)
    · rw [if_pos (Or.inl h1)]
      refine ev_bipush (pc := 112) (v := -7) d_N_readFrom_112 (by decide) ?_
      exact ev_iret (pc := 114) d_N_readFrom_114 rfl (Nat.zero_le _) (Nat.zero_le _) ⟨rfl, rfl⟩
    refine ev_aload_n (pc := 64) d_N_readFrom_64 rfl rfl (by first | rfl | exact mm_rk_rf _) ?_
    refine ev_gR (pc := 65) sh_N (by rfl) fl_N_87 d_N_readFrom_65 ?_
    refine ev_iconst (pc := 68) (v := nI 1) d_N_readFrom_68 rfl ?_
    refine ev_rIN (pc := 69) sh_N_n (by omega) (by decide) d_N_readFrom_69 ?_
    refine ev_if_lt (pc := 70) (tgt := 112) d_N_readFrom_70 (by decide) (fun h2 => ?_) (fun h2 => ?_)
    · rw [if_pos (Or.inr (Or.inl h2))]
      refine ev_bipush (pc := 112) (v := -7) d_N_readFrom_112 (by decide) ?_
      exact ev_iret (pc := 114) d_N_readFrom_114 rfl (Nat.zero_le _) (Nat.zero_le _) ⟨rfl, rfl⟩
    refine ev_aload_n (pc := 73) d_N_readFrom_73 rfl rfl (by first | rfl | exact mm_rk_rf _) ?_
    refine ev_gR (pc := 74) sh_N (by rfl) fl_N_87 d_N_readFrom_74 ?_
    refine ev_iconst (pc := 77) (v := nI 1) d_N_readFrom_77 rfl ?_
    refine ev_rIN (pc := 78) sh_N_n (by omega) (by decide) d_N_readFrom_78 ?_
    refine ev_bipush (pc := 79) (v := 8) d_N_readFrom_79 (by decide) ?_
    refine ev_icmp_gt (pc := 81) (tgt := 112) d_N_readFrom_81 (by decide) (fun h3 => ?_) (fun h3 => ?_)
    · rw [if_pos (Or.inr (Or.inr h3))]
      refine ev_bipush (pc := 112) (v := -7) d_N_readFrom_112 (by decide) ?_
      exact ev_iret (pc := 114) d_N_readFrom_114 rfl (Nat.zero_le _) (Nat.zero_le _) ⟨rfl, rfl⟩
    rw [if_neg (fun z => z.elim h1 (fun y => y.elim h2 h3))]
    obtain ⟨a, ha31, ea⟩ := nI_of h1
    obtain ⟨c, hc8, ec⟩ : ∃ c : Nat, c ≤ 8 ∧ C 228 1 = nI c := nI_of2 (M := 8) (by decide) h2 (Int32.not_lt.mp h3)
    have ca : (C 228 0).toNatClampNeg = a := by rw [ea, nI_clamp ha31]
    have cc : (C 228 1).toNatClampNeg = c := by rw [ec, nI_clamp (by omega)]
    rw [ca, cc]
    refine ev_iload_n (pc := 84) d_N_readFrom_84 rfl rfl ?_
    refine ev_if_eq (pc := 85) (tgt := 115) d_N_readFrom_85 (by decide) (fun h4 => ?_) (fun h4 => ?_)
    · rw [b2_0, Classical.not_not] at h4
      rw [if_pos h4]
      have hb2 : b2_P (¬ (C 213 k &&& 2048) = 0) = 0 := b2_f (fun z => z h4)
      obtain ⟨n, en⟩ : ∃ n, n = min ((C 214 k).toNatClampNeg - a) c := ⟨_, rfl⟩
      rw [← en]
      have loop : ∀ d j : Nat, j + d = n → ev_At E K_N_readFrom 127 [some (.ref 204), some (.int (nI f)), some (.int (nI k)), some (.int (b2_P (¬ (C 213 k &&& 2048) = 0))), some (.int (nI (a + j))), none] [] (hp_H (nB_C C k a j)) 0 0 (mm_D (some (.int (nI n, nB_C C k a n).1)) (nI n, nB_C C k a n).2) := by
        intro d
        induction d with
        | zero =>
          intro j hj
          have ej : j = n := by omega
          subst ej
          have out : ev_At E K_N_readFrom 178 [some (.ref 204), some (.int (nI f)), some (.int (nI k)), some (.int (b2_P (¬ (C 213 k &&& 2048) = 0))), some (.int (nI (a + j))), none] [] (hp_H (nB_C C k a j)) 0 0 (mm_D (some (.int (nI j, nB_C C k a j).1)) (nI j, nB_C C k a j).2) := by
            refine ev_aload_n (pc := 178) d_N_readFrom_178 rfl rfl (by first | rfl | exact mm_rk_rf _) ?_
            refine ev_gI (pc := 179) sh_N (by rfl) fl_N_96 d_N_readFrom_179 ?_
            rw [nB_k hr]
            exact ev_iret (pc := 182) d_N_readFrom_182 rfl (Nat.zero_le _) (Nat.zero_le _) ⟨rfl, rfl⟩
          refine ev_iload (pc := 127) d_N_readFrom_127 rfl ?_
          refine ev_aload_n (pc := 129) d_N_readFrom_129 rfl rfl (by first | rfl | exact mm_rk_rf _) ?_
          refine ev_gR (pc := 130) sh_N (by rfl) fl_N_38 d_N_readFrom_130 ?_
          refine ev_iload_n (pc := 133) d_N_readFrom_133 rfl rfl ?_
          refine ev_rIN (pc := 134) sh_N_length (by omega) (by decide) d_N_readFrom_134 ?_
          rw [nB_ne (by decide) (by decide), el]
          refine ev_icmp_ge (pc := 135) (tgt := 178) d_N_readFrom_135 (by decide) (fun hx => ?_) (fun hx => ?_)
          · exact out
          have hx' : a + j < (C 214 k).toNatClampNeg := by
            have h31 : a + j < 2 ^ 31 := by omega
            exact Nat.not_le.mp (fun z => hx (nI_le z h31))
          refine ev_iload (pc := 138) d_N_readFrom_138 rfl ?_
          refine ev_aload_n (pc := 140) d_N_readFrom_140 rfl rfl (by first | rfl | exact mm_rk_rf _) ?_
          refine ev_gR (pc := 141) sh_N (by rfl) fl_N_87 d_N_readFrom_141 ?_
          refine ev_iconst (pc := 144) (v := nI 0) d_N_readFrom_144 rfl ?_
          refine ev_rIN (pc := 145) sh_N_n (by omega) (by decide) d_N_readFrom_145 ?_
          rw [nB_ne (by decide) (by decide), ea]
          refine ev_isub (pc := 146) d_N_readFrom_146 ?_
          rw [nI_sub (by omega), show a + j - a = j by omega]
          refine ev_aload_n (pc := 147) d_N_readFrom_147 rfl rfl (by first | rfl | exact mm_rk_rf _) ?_
          refine ev_gR (pc := 148) sh_N (by rfl) fl_N_87 d_N_readFrom_148 ?_
          refine ev_iconst (pc := 151) (v := nI 1) d_N_readFrom_151 rfl ?_
          refine ev_rIN (pc := 152) sh_N_n (by omega) (by decide) d_N_readFrom_152 ?_
          rw [nB_ne (by decide) (by decide), ec]
          refine ev_icmp_ge (pc := 153) (tgt := 178) d_N_readFrom_153 (by decide) (fun hy => ?_) (fun hy => ?_)
          · exact out
          exact absurd (nI_le (a := c) (b := j) (by omega) (by omega)) hy
        | succ d ih =>
          intro j hj
          refine ev_iload (pc := 127) d_N_readFrom_127 rfl ?_
          refine ev_aload_n (pc := 129) d_N_readFrom_129 rfl rfl (by first | rfl | exact mm_rk_rf _) ?_
          refine ev_gR (pc := 130) sh_N (by rfl) fl_N_38 d_N_readFrom_130 ?_
          refine ev_iload_n (pc := 133) d_N_readFrom_133 rfl rfl ?_
          refine ev_rIN (pc := 134) sh_N_length (by omega) (by decide) d_N_readFrom_134 ?_
          rw [nB_ne (by decide) (by decide), el]
          refine ev_icmp_ge (pc := 135) (tgt := 178) d_N_readFrom_135 (by decide) (fun hx => ?_) (fun hx => ?_)
          · exact absurd hx (nI_ge (by omega) (by omega))
          refine ev_iload (pc := 138) d_N_readFrom_138 rfl ?_
          refine ev_aload_n (pc := 140) d_N_readFrom_140 rfl rfl (by first | rfl | exact mm_rk_rf _) ?_
          refine ev_gR (pc := 141) sh_N (by rfl) fl_N_87 d_N_readFrom_141 ?_
          refine ev_iconst (pc := 144) (v := nI 0) d_N_readFrom_144 rfl ?_
          refine ev_rIN (pc := 145) sh_N_n (by omega) (by decide) d_N_readFrom_145 ?_
          rw [nB_ne (by decide) (by decide), ea]
          refine ev_isub (pc := 146) d_N_readFrom_146 ?_
          rw [nI_sub (by omega), show a + j - a = j by omega]
          refine ev_aload_n (pc := 147) d_N_readFrom_147 rfl rfl (by first | rfl | exact mm_rk_rf _) ?_
          refine ev_gR (pc := 148) sh_N (by rfl) fl_N_87 d_N_readFrom_148 ?_
          refine ev_iconst (pc := 151) (v := nI 1) d_N_readFrom_151 rfl ?_
          refine ev_rIN (pc := 152) sh_N_n (by omega) (by decide) d_N_readFrom_152 ?_
          rw [nB_ne (by decide) (by decide), ec]
          refine ev_icmp_ge (pc := 153) (tgt := 178) d_N_readFrom_153 (by decide) (fun hy => ?_) (fun hy => ?_)
          · exact absurd hy (nI_ge (by omega) (by omega))
          refine ev_aload_n (pc := 156) d_N_readFrom_156 rfl rfl (by first | rfl | exact mm_rk_rf _) ?_
          refine ev_aload_n (pc := 157) d_N_readFrom_157 rfl rfl (by first | rfl | exact mm_rk_rf _) ?_
          refine ev_gR (pc := 158) sh_N (by rfl) fl_N_44 d_N_readFrom_158 ?_
          refine ev_bipush (pc := 161) (v := nI 16) d_N_readFrom_161 (by decide) ?_
          refine ev_iload_n (pc := 163) d_N_readFrom_163 rfl rfl ?_
          first | refine ev_imulN (pc := 164) d_N_readFrom_164 ?_ | refine ev_imul (pc := 164) d_N_readFrom_164 ?_
          refine ev_iload (pc := 165) d_N_readFrom_165 rfl ?_
          first | refine ev_iaddN (pc := 167) d_N_readFrom_167 ?_ | refine ev_iadd (pc := 167) d_N_readFrom_167 ?_
          refine ev_rIN (pc := 168) sh_N_bytes (by omega) (by decide) d_N_readFrom_168 ?_
          rw [nB_ne (by decide) (by decide)]
          refine ev_cVv (pc := 169) (ct_N_tell E _ (nB_k hr j) (by omega) _) cl_N_170 jv_N_tell ⟨(Nat.le_of_ble_eq_true rfl), (Nat.le_of_ble_eq_true rfl)⟩ rfl sh_N rfl (Nat.le_of_ble_eq_true rfl) d_N_readFrom_169 ⟨Nat.zero_le _, Nat.zero_le _⟩ ?_
          refine ev_iinc (pc := 172) d_N_readFrom_172 (Nat.le_of_ble_eq_true rfl) rfl (nx_inc _) rfl ?_
          try dsimp only [List.set]
          refine ev_goto (pc := 175) (tgt := 127) d_N_readFrom_175 (by decide) ?_
          exact ih (j + 1) (by omega)
      refine ev_iload_n (pc := 115) d_N_readFrom_115 rfl rfl ?_
      refine ev_if_ne (pc := 116) (tgt := 183) d_N_readFrom_116 (by decide) (fun h5 => ?_) (fun h5 => ?_)
      · exact absurd hb2 h5
      refine ev_aload_n (pc := 119) d_N_readFrom_119 rfl rfl (by first | rfl | exact mm_rk_rf _) ?_
      refine ev_gR (pc := 120) sh_N (by rfl) fl_N_87 d_N_readFrom_120 ?_
      refine ev_iconst (pc := 123) (v := nI 0) d_N_readFrom_123 rfl ?_
      refine ev_rIN (pc := 124) sh_N_n (by omega) (by decide) d_N_readFrom_124 ?_
      rw [ea]
      refine ev_istore (pc := 125) d_N_readFrom_125 (Nat.le_of_ble_eq_true rfl) rfl ?_
      try dsimp only [List.set]
      exact loop n 0 (by omega)
    · rw [b2_0, Classical.not_not] at h4
      rw [if_neg h4]
      have t115 : ¬ (¬ C 228 0 = 0 ∧ ¬ C 228 0 = C 221 f) → ev_At E K_N_readFrom 115 [some (.ref 204), some (.int (nI f)), some (.int (nI k)), some (.int (b2_P (¬ (C 213 k &&& 2048) = 0))), none, none] [] (hp_H C) 0 0 (mm_D (some (.int (if ¬ C 228 0 = 0 ∧ ¬ C 228 0 = C 221 f then (-7, C) else (nI (nD_f C k a c 99 C 1 0 0).1, cs_C (nD_f C k a c 99 C 1 0 0).2 221 f (C 228 0 + nI (nD_f C k a c 99 C 1 0 0).1))).1)) (if ¬ C 228 0 = 0 ∧ ¬ C 228 0 = C 221 f then (-7, C) else (nI (nD_f C k a c 99 C 1 0 0).1, cs_C (nD_f C k a c 99 C 1 0 0).2 221 f (C 228 0 + nI (nD_f C k a c 99 C 1 0 0).1))).2) := by
        intro hno
        rw [if_neg hno]
        obtain ⟨X, eX⟩ : ∃ X, X = C 228 0 := ⟨_, rfl⟩
        rw [← eX]
        have loop : ∀ d x j n : Nat, x + d = 100 → j < x → n ≤ c → ∀ D : Nat → Nat → Int32, (∀ b l, b ≠ 227 → b ≠ 204 → D b l = C b l) → D 204 26 = nI n → ev_At E K_N_readFrom 189 [some (.ref 204), some (.int (nI f)), some (.int (nI k)), some (.int (b2_P (¬ (C 213 k &&& 2048) = 0))), some (.int (nI j)), some (.int (nI x))] [] (hp_H D) 0 0 (mm_D (some (.int (nI (nD_f C k a c d D x j n).1))) (cs_C (nD_f C k a c d D x j n).2 221 f (X + nI (nD_f C k a c d D x j n).1))) := by
          intro d
          induction d with
          | zero =>
            intro x j n hx hj hn D hD hr0
            refine ev_iload (pc := 189) d_N_readFrom_189 rfl ?_
            refine ev_bipush (pc := 191) (v := 99) d_N_readFrom_191 (by decide) ?_
            refine ev_icmp_gt (pc := 193) (tgt := 248) d_N_readFrom_193 (by decide) (fun hy => ?_) (fun hy => ?_)
            rotate_left
            · exact absurd (nI_lt (a := 99) (b := x) (by omega) (by omega)) hy
            simp only [nD_f]
            refine ev_aload_n (pc := 248) d_N_readFrom_248 rfl rfl (by first | rfl | exact mm_rk_rf _) ?_
            refine ev_gR (pc := 249) sh_N (by rfl) fl_N_66 d_N_readFrom_249 ?_
            refine ev_iload_n (pc := 252) d_N_readFrom_252 rfl rfl ?_
            refine ev_aload_n (pc := 253) d_N_readFrom_253 rfl rfl (by first | rfl | exact mm_rk_rf _) ?_
            refine ev_gR (pc := 254) sh_N (by rfl) fl_N_87 d_N_readFrom_254 ?_
            refine ev_iconst (pc := 257) (v := nI 0) d_N_readFrom_257 rfl ?_
            refine ev_rIN (pc := 258) sh_N_n (by omega) (by decide) d_N_readFrom_258 ?_
            rw [hD 228 0 (by decide) (by decide), ← eX]
            refine ev_aload_n (pc := 259) d_N_readFrom_259 rfl rfl (by first | rfl | exact mm_rk_rf _) ?_
            refine ev_gI (pc := 260) sh_N (by rfl) fl_N_96 d_N_readFrom_260 ?_
            rw [hr0]
            first | refine ev_iaddN (pc := 263) d_N_readFrom_263 ?_ | refine ev_iadd (pc := 263) d_N_readFrom_263 ?_
            refine ev_wIN (pc := 264) sh_N_ended (by omega) (by decide) d_N_readFrom_264 ?_
            refine ev_aload_n (pc := 265) d_N_readFrom_265 rfl rfl (by first | rfl | exact mm_rk_rf _) ?_
            refine ev_gI (pc := 266) sh_N (by rfl) fl_N_96 d_N_readFrom_266 ?_
            rw [cs_ne _ _ (by omega), hr0]
            exact ev_iret (pc := 269) d_N_readFrom_269 rfl (Nat.zero_le _) (Nat.zero_le _) ⟨rfl, rfl⟩
          | succ d ih =>
            intro x j n hx hj hn D hD hr0
            have e6 : D 206 = C 206 := funext (fun l => hD 206 l (by decide) (by decide))
            have e7 : D 207 = C 207 := funext (fun l => hD 207 l (by decide) (by decide))
            have e8 : D 208 = C 208 := funext (fun l => hD 208 l (by decide) (by decide))
            have e9 : D 209 = C 209 := funext (fun l => hD 209 l (by decide) (by decide))
            have hm' := nm_c e6 hm
            refine ev_iload (pc := 189) d_N_readFrom_189 rfl ?_
            refine ev_bipush (pc := 191) (v := 99) d_N_readFrom_191 (by decide) ?_
            refine ev_icmp_gt (pc := 193) (tgt := 248) d_N_readFrom_193 (by decide) (fun hy => ?_) (fun hy => ?_)
            · exact absurd hy (nI_nlt (a := 99) (b := x) (by omega) (by omega))
            refine ev_aload_n (pc := 196) d_N_readFrom_196 rfl rfl (by first | rfl | exact mm_rk_rf _) ?_
            refine ev_iload_n (pc := 197) d_N_readFrom_197 rfl rfl ?_
            refine ev_iload (pc := 198) d_N_readFrom_198 rfl ?_
            refine ev_cV (pc := 200) (ct_N_child E D hm' v1 _) cl_N_181 jv_N_child ⟨(Nat.le_of_ble_eq_true rfl), (Nat.le_of_ble_eq_true rfl)⟩ rfl sh_N rfl (Nat.le_of_ble_eq_true rfl) d_N_readFrom_200 ⟨Nat.zero_le _, Nat.zero_le _⟩ ?_
            rw [nh_c e6 e7 e8 e9]
            cases hq : nh_i C k (nI x) with
            | none =>
              rw [show oI none = -1 from rfl]
              refine ev_if_ge (pc := 203) (tgt := 209) d_N_readFrom_203 (by decide) (fun hz => ?_) (fun hz => ?_)
              · exact absurd hz (by decide)
              refine ev_goto (pc := 206) (tgt := 242) d_N_readFrom_206 (by decide) ?_
              refine ev_iinc (pc := 242) d_N_readFrom_242 (Nat.le_of_ble_eq_true rfl) rfl (nx_inc _) rfl ?_
              try dsimp only [List.set]
              refine ev_goto (pc := 245) (tgt := 189) d_N_readFrom_245 (by decide) ?_
              simp only [nD_f, hq]
              exact ih (x + 1) j n (by omega) (by omega) hn D hD hr0
            | some i =>
              rw [show oI (some i) = nI i from rfl]
              have hi := nh_lt hm v1 hq
              refine ev_if_ge (pc := 203) (tgt := 209) d_N_readFrom_203 (by decide) (fun hz => ?_) (fun hz => ?_)
              rotate_left
              · exact absurd (nI_pos' (by omega)) hz
              have skip : ¬ (a ≤ j ∧ n < c) → ev_At E K_N_readFrom 239 [some (.ref 204), some (.int (nI f)), some (.int (nI k)), some (.int (b2_P (¬ (C 213 k &&& 2048) = 0))), some (.int (nI j)), some (.int (nI x))] [] (hp_H D) 0 0 (mm_D (some (.int (nI (nD_f C k a c (d + 1) D x j n).1))) (cs_C (nD_f C k a c (d + 1) D x j n).2 221 f (X + nI (nD_f C k a c (d + 1) D x j n).1))) := by
                intro hs
                refine ev_iinc (pc := 239) d_N_readFrom_239 (Nat.le_of_ble_eq_true rfl) rfl (nx_inc _) rfl ?_
                try dsimp only [List.set]
                refine ev_iinc (pc := 242) d_N_readFrom_242 (Nat.le_of_ble_eq_true rfl) rfl (nx_inc _) rfl ?_
                try dsimp only [List.set]
                refine ev_goto (pc := 245) (tgt := 189) d_N_readFrom_245 (by decide) ?_
                simp only [nD_f, hq, if_neg hs]
                exact ih (x + 1) (j + 1) n (by omega) (by omega) hn D hD hr0
              refine ev_iload (pc := 209) d_N_readFrom_209 rfl ?_
              refine ev_aload_n (pc := 211) d_N_readFrom_211 rfl rfl (by first | rfl | exact mm_rk_rf _) ?_
              refine ev_gR (pc := 212) sh_N (by rfl) fl_N_87 d_N_readFrom_212 ?_
              refine ev_iconst (pc := 215) (v := nI 0) d_N_readFrom_215 rfl ?_
              refine ev_rIN (pc := 216) sh_N_n (by omega) (by decide) d_N_readFrom_216 ?_
              rw [hD 228 0 (by decide) (by decide), ea]
              refine ev_icmp_lt (pc := 217) (tgt := 239) d_N_readFrom_217 (by decide) (fun hs => ?_) (fun hs => ?_)
              · exact skip (fun z => nI_nlt (a := j) (b := a) z.1 (by omega) hs)
              have hs' : a ≤ j := Nat.not_lt.mp (fun z => hs (nI_lt z ha31))
              refine ev_aload_n (pc := 220) d_N_readFrom_220 rfl rfl (by first | rfl | exact mm_rk_rf _) ?_
              refine ev_gI (pc := 221) sh_N (by rfl) fl_N_96 d_N_readFrom_221 ?_
              refine ev_aload_n (pc := 224) d_N_readFrom_224 rfl rfl (by first | rfl | exact mm_rk_rf _) ?_
              refine ev_gR (pc := 225) sh_N (by rfl) fl_N_87 d_N_readFrom_225 ?_
              refine ev_iconst (pc := 228) (v := nI 1) d_N_readFrom_228 rfl ?_
              refine ev_rIN (pc := 229) sh_N_n (by omega) (by decide) d_N_readFrom_229 ?_
              rw [hr0, hD 228 1 (by decide) (by decide), ec]
              refine ev_icmp_ge (pc := 230) (tgt := 239) d_N_readFrom_230 (by decide) (fun hs2 => ?_) (fun hs2 => ?_)
              · exact skip (fun z => nI_ge z.2 (by omega) hs2)
              have hs2' : n < c := Nat.not_le.mp (fun z => hs2 (nI_le z (by omega)))
              refine ev_aload_n (pc := 233) d_N_readFrom_233 rfl rfl (by first | rfl | exact mm_rk_rf _) ?_
              refine ev_iload (pc := 234) d_N_readFrom_234 rfl ?_
              refine ev_cVv (pc := 236) (ct_N_tell E D hr0 (by omega) _) cl_N_170 jv_N_tell ⟨(Nat.le_of_ble_eq_true rfl), (Nat.le_of_ble_eq_true rfl)⟩ rfl sh_N rfl (Nat.le_of_ble_eq_true rfl) d_N_readFrom_236 ⟨Nat.zero_le _, Nat.zero_le _⟩ ?_
              refine ev_iinc (pc := 239) d_N_readFrom_239 (Nat.le_of_ble_eq_true rfl) rfl (nx_inc _) rfl ?_
              try dsimp only [List.set]
              refine ev_iinc (pc := 242) d_N_readFrom_242 (Nat.le_of_ble_eq_true rfl) rfl (nx_inc _) rfl ?_
              try dsimp only [List.set]
              refine ev_goto (pc := 245) (tgt := 189) d_N_readFrom_245 (by decide) ?_
              simp only [nD_f, hq, if_pos (show a ≤ j ∧ n < c from ⟨hs', hs2'⟩)]
              exact ih (x + 1) (j + 1) (n + 1) (by omega) (by omega) hs2' _ (fun b l q1 q2 => (nt_ne q1 q2).trans (hD b l q1 q2)) (nt_k _ _ _)
        have hb2 : b2_P (¬ (C 213 k &&& 2048) = 0) = 1 := b2_t h4
        refine ev_iload_n (pc := 115) d_N_readFrom_115 rfl rfl ?_
        refine ev_if_ne (pc := 116) (tgt := 183) d_N_readFrom_116 (by decide) (fun h5 => ?_) (fun h5 => ?_)
        rotate_left
        · rw [hb2] at h5
          exact absurd h5 (by decide)
        refine ev_iconst (pc := 183) (v := 0) d_N_readFrom_183 rfl ?_
        refine ev_istore (pc := 184) d_N_readFrom_184 (Nat.le_of_ble_eq_true rfl) rfl ?_
        try dsimp only [List.set]
        refine ev_iconst (pc := 186) (v := 1) d_N_readFrom_186 rfl ?_
        refine ev_istore (pc := 187) d_N_readFrom_187 (Nat.le_of_ble_eq_true rfl) rfl ?_
        try dsimp only [List.set]
        exact loop 99 1 0 0 (by omega) (by omega) (by omega) C (fun _ _ _ _ => rfl) hr
      refine ev_aload_n (pc := 88) d_N_readFrom_88 rfl rfl (by first | rfl | exact mm_rk_rf _) ?_
      refine ev_gR (pc := 89) sh_N (by rfl) fl_N_87 d_N_readFrom_89 ?_
      refine ev_iconst (pc := 92) (v := nI 0) d_N_readFrom_92 rfl ?_
      refine ev_rIN (pc := 93) sh_N_n (by omega) (by decide) d_N_readFrom_93 ?_
      refine ev_if_eq (pc := 94) (tgt := 115) d_N_readFrom_94 (by decide) (fun h6 => ?_) (fun h6 => ?_)
      · exact t115 (fun z => z.1 h6)
      refine ev_aload_n (pc := 97) d_N_readFrom_97 rfl rfl (by first | rfl | exact mm_rk_rf _) ?_
      refine ev_gR (pc := 98) sh_N (by rfl) fl_N_87 d_N_readFrom_98 ?_
      refine ev_iconst (pc := 101) (v := nI 0) d_N_readFrom_101 rfl ?_
      refine ev_rIN (pc := 102) sh_N_n (by omega) (by decide) d_N_readFrom_102 ?_
      refine ev_aload_n (pc := 103) d_N_readFrom_103 rfl rfl (by first | rfl | exact mm_rk_rf _) ?_
      refine ev_gR (pc := 104) sh_N (by rfl) fl_N_66 d_N_readFrom_104 ?_
      refine ev_iload_n (pc := 107) d_N_readFrom_107 rfl rfl ?_
      refine ev_rIN (pc := 108) sh_N_ended (by omega) (by decide) d_N_readFrom_108 ?_
      refine ev_icmp_eq (pc := 109) (tgt := 115) d_N_readFrom_109 (by decide) (fun h7 => ?_) (fun h7 => ?_)
      · exact t115 (fun z => z.2 h7)
      rw [if_pos ⟨h6, h7⟩]
      refine ev_bipush (pc := 112) (v := -7) d_N_readFrom_112 (by decide) ?_
      exact ev_iret (pc := 114) d_N_readFrom_114 rfl (Nat.zero_le _) (Nat.zero_le _) ⟨rfl, rfl⟩
