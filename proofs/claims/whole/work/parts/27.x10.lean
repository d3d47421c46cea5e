/-! Answering a request: the ten kinds; serve. -/
/-- what the class's own ints always are -/
def iv_P (C : Nat → Nat → Int32) : Prop := ln_ok C ∧ (∀ c, c < 2 → ∀ f, f < 6 → ∃ t, t ≤ 4 ∧ C (cn_f c f) 3 = nI t) ∧ (∃ s, s ≤ 4 ∧ C 1 1 = nI s)
/-- request q of connection c: kind kd, fid fd, k numbers -/
noncomputable def xz_K (C : Nat → Nat → Int32) (c q kd fd k : Nat) : Int32 × (Nat → Nat → Int32) := match kd with
  | 0 => xa_R C (cn_f c fd) (C (q + 2) 0) (C (q + 2) 1)
  | 1 => it_P (vp_in (C (q + 2) 0) 6) (xW_R C (cn_f c fd) (cn_f c (C (q + 2) 0).toNatClampNeg) (C (cn_f c fd) 3).toNatClampNeg (q + 1) k) (-7, C)
  | 2 => xo_R C (cn_f c fd) (C (cn_f c fd) 3).toNatClampNeg (C (q + 2) 0)
  | 3 => xe_R C (cn_f c fd) (C (cn_f c fd) 3).toNatClampNeg (C (q + 2) 0) (C (q + 2) 1) (C (q + 2) 2)
  | 4 => xq_R C (cn_f c fd) (C (cn_f c fd) 3).toNatClampNeg (C (q + 2) 0) (C (q + 2) 1)
  | 5 => xw_R C (cn_f c fd) (C (cn_f c fd) 3).toNatClampNeg (q + 1) k
  | 6 => xk_R C (cn_f c fd) (C (cn_f c fd) 3).toNatClampNeg
  | 7 => xv_R C (cn_f c fd) (C (cn_f c fd) 3).toNatClampNeg
  | 8 => xt_R C (cn_f c fd) (C (cn_f c fd) 3).toNatClampNeg
  | _ => xy_R C (cn_f c fd) (C (cn_f c fd) 3).toNatClampNeg (q + 1)
noncomputable def xz_R (C : Nat → Nat → Int32) (c q kd fd k : Nat) : Int32 × (Nat → Nat → Int32) := if ¬ (¬ nI k < st_f kd ∧ ¬ st_g kd < nI k) then (-7, C) else xz_K C c q kd fd k
theorem kd_rng {k a b : Nat} (hk : k ≤ 4) (ha : a < 100) (hb : b < 100) (h : ¬ nI k < nI a ∧ ¬ nI b < nI k) : a ≤ k ∧ k ≤ b :=
  ⟨Nat.not_lt.mp (fun z => h.1 (nI_lt z (by omega))), Nat.not_lt.mp (fun z => h.2 (nI_lt z (by omega)))⟩
theorem d_X_answer_0 : decode b_X_answer 0 = .ok (.aload_n 2, 1) := by decide +kernel
theorem d_X_answer_1 : decode b_X_answer 1 = .ok (.getfield 155, 3) := by decide +kernel
theorem d_X_answer_4 : decode b_X_answer 4 = .ok (.istore_n 3, 1) := by decide +kernel
theorem d_X_answer_5 : decode b_X_answer 5 = .ok (.aload_n 2, 1) := by decide +kernel
theorem d_X_answer_6 : decode b_X_answer 6 = .ok (.getfield 158, 3) := by decide +kernel
theorem d_X_answer_9 : decode b_X_answer 9 = .ok (.astore 4, 2) := by decide +kernel
theorem d_X_answer_11 : decode b_X_answer 11 = .ok (.aload_n 1, 1) := by decide +kernel
theorem d_X_answer_12 : decode b_X_answer 12 = .ok (.aload_n 2, 1) := by decide +kernel
theorem d_X_answer_13 : decode b_X_answer 13 = .ok (.getfield 161, 3) := by decide +kernel
theorem d_X_answer_16 : decode b_X_answer 16 = .ok (.invokevirtual 112, 3) := by decide +kernel
theorem d_X_answer_19 : decode b_X_answer 19 = .ok (.astore 5, 2) := by decide +kernel
theorem d_X_answer_21 : decode b_X_answer 21 = .ok (.aload 5, 2) := by decide +kernel
theorem d_X_answer_23 : decode b_X_answer 23 = .ok (.ifnull 15, 3) := by decide +kernel
theorem d_X_answer_26 : decode b_X_answer 26 = .ok (.iload_n 3, 1) := by decide +kernel
theorem d_X_answer_27 : decode b_X_answer 27 = .ok (.aload 4, 2) := by decide +kernel
theorem d_X_answer_29 : decode b_X_answer 29 = .ok (.getfield 61, 3) := by decide +kernel
theorem d_X_answer_32 : decode b_X_answer 32 = .ok (.invokestatic 164, 3) := by decide +kernel
theorem d_X_answer_35 : decode b_X_answer 35 = .ok (.ifCond .ne 6, 3) := by decide +kernel
theorem d_X_answer_38 : decode b_X_answer 38 = .ok (.bipush (-7), 2) := by decide +kernel
theorem d_X_answer_40 : decode b_X_answer 40 = .ok (.ireturn, 1) := by decide +kernel
theorem d_X_answer_41 : decode b_X_answer 41 = .ok (.iload_n 3, 1) := by decide +kernel
theorem d_X_answer_42 : decode b_X_answer 42 = .ok (.tableswitch 188 0 9 #[54, 73, 92, 105, 130, 149, 158, 165, 172, 179], 54) := by decide +kernel
theorem d_X_answer_96 : decode b_X_answer 96 = .ok (.aload_n 0, 1) := by decide +kernel
theorem d_X_answer_97 : decode b_X_answer 97 = .ok (.aload 5, 2) := by decide +kernel
theorem d_X_answer_99 : decode b_X_answer 99 = .ok (.aload 4, 2) := by decide +kernel
theorem d_X_answer_101 : decode b_X_answer 101 = .ok (.iconst 0, 1) := by decide +kernel
theorem d_X_answer_102 : decode b_X_answer 102 = .ok (.invokevirtual 104, 3) := by decide +kernel
theorem d_X_answer_105 : decode b_X_answer 105 = .ok (.aload 4, 2) := by decide +kernel
theorem d_X_answer_107 : decode b_X_answer 107 = .ok (.iconst 1, 1) := by decide +kernel
theorem d_X_answer_108 : decode b_X_answer 108 = .ok (.invokevirtual 104, 3) := by decide +kernel
theorem d_X_answer_111 : decode b_X_answer 111 = .ok (.invokevirtual 167, 3) := by decide +kernel
theorem d_X_answer_114 : decode b_X_answer 114 = .ok (.ireturn, 1) := by decide +kernel
theorem d_X_answer_115 : decode b_X_answer 115 = .ok (.aload_n 0, 1) := by decide +kernel
theorem d_X_answer_116 : decode b_X_answer 116 = .ok (.aload 5, 2) := by decide +kernel
theorem d_X_answer_118 : decode b_X_answer 118 = .ok (.aload_n 1, 1) := by decide +kernel
theorem d_X_answer_119 : decode b_X_answer 119 = .ok (.aload 4, 2) := by decide +kernel
theorem d_X_answer_121 : decode b_X_answer 121 = .ok (.iconst 0, 1) := by decide +kernel
theorem d_X_answer_122 : decode b_X_answer 122 = .ok (.invokevirtual 104, 3) := by decide +kernel
theorem d_X_answer_125 : decode b_X_answer 125 = .ok (.invokevirtual 112, 3) := by decide +kernel
theorem d_X_answer_128 : decode b_X_answer 128 = .ok (.aload 4, 2) := by decide +kernel
theorem d_X_answer_130 : decode b_X_answer 130 = .ok (.invokevirtual 171, 3) := by decide +kernel
theorem d_X_answer_133 : decode b_X_answer 133 = .ok (.ireturn, 1) := by decide +kernel
theorem d_X_answer_134 : decode b_X_answer 134 = .ok (.aload_n 0, 1) := by decide +kernel
theorem d_X_answer_135 : decode b_X_answer 135 = .ok (.aload 5, 2) := by decide +kernel
theorem d_X_answer_137 : decode b_X_answer 137 = .ok (.aload 4, 2) := by decide +kernel
theorem d_X_answer_139 : decode b_X_answer 139 = .ok (.iconst 0, 1) := by decide +kernel
theorem d_X_answer_140 : decode b_X_answer 140 = .ok (.invokevirtual 104, 3) := by decide +kernel
theorem d_X_answer_143 : decode b_X_answer 143 = .ok (.invokevirtual 175, 3) := by decide +kernel
theorem d_X_answer_146 : decode b_X_answer 146 = .ok (.ireturn, 1) := by decide +kernel
theorem d_X_answer_147 : decode b_X_answer 147 = .ok (.aload_n 0, 1) := by decide +kernel
theorem d_X_answer_148 : decode b_X_answer 148 = .ok (.aload 5, 2) := by decide +kernel
theorem d_X_answer_150 : decode b_X_answer 150 = .ok (.aload 4, 2) := by decide +kernel
theorem d_X_answer_152 : decode b_X_answer 152 = .ok (.iconst 0, 1) := by decide +kernel
theorem d_X_answer_153 : decode b_X_answer 153 = .ok (.invokevirtual 104, 3) := by decide +kernel
theorem d_X_answer_156 : decode b_X_answer 156 = .ok (.aload 4, 2) := by decide +kernel
theorem d_X_answer_158 : decode b_X_answer 158 = .ok (.iconst 1, 1) := by decide +kernel
theorem d_X_answer_159 : decode b_X_answer 159 = .ok (.invokevirtual 104, 3) := by decide +kernel
theorem d_X_answer_162 : decode b_X_answer 162 = .ok (.aload 4, 2) := by decide +kernel
theorem d_X_answer_164 : decode b_X_answer 164 = .ok (.iconst 2, 1) := by decide +kernel
theorem d_X_answer_165 : decode b_X_answer 165 = .ok (.invokevirtual 104, 3) := by decide +kernel
theorem d_X_answer_168 : decode b_X_answer 168 = .ok (.invokevirtual 178, 3) := by decide +kernel
theorem d_X_answer_171 : decode b_X_answer 171 = .ok (.ireturn, 1) := by decide +kernel
theorem d_X_answer_172 : decode b_X_answer 172 = .ok (.aload_n 0, 1) := by decide +kernel
theorem d_X_answer_173 : decode b_X_answer 173 = .ok (.aload 5, 2) := by decide +kernel
theorem d_X_answer_175 : decode b_X_answer 175 = .ok (.aload 4, 2) := by decide +kernel
theorem d_X_answer_177 : decode b_X_answer 177 = .ok (.iconst 0, 1) := by decide +kernel
theorem d_X_answer_178 : decode b_X_answer 178 = .ok (.invokevirtual 104, 3) := by decide +kernel
theorem d_X_answer_181 : decode b_X_answer 181 = .ok (.aload 4, 2) := by decide +kernel
theorem d_X_answer_183 : decode b_X_answer 183 = .ok (.iconst 1, 1) := by decide +kernel
theorem d_X_answer_184 : decode b_X_answer 184 = .ok (.invokevirtual 104, 3) := by decide +kernel
theorem d_X_answer_187 : decode b_X_answer 187 = .ok (.invokevirtual 182, 3) := by decide +kernel
theorem d_X_answer_190 : decode b_X_answer 190 = .ok (.ireturn, 1) := by decide +kernel
theorem d_X_answer_191 : decode b_X_answer 191 = .ok (.aload_n 0, 1) := by decide +kernel
theorem d_X_answer_192 : decode b_X_answer 192 = .ok (.aload 5, 2) := by decide +kernel
theorem d_X_answer_194 : decode b_X_answer 194 = .ok (.aload 4, 2) := by decide +kernel
theorem d_X_answer_196 : decode b_X_answer 196 = .ok (.invokevirtual 185, 3) := by decide +kernel
theorem d_X_answer_199 : decode b_X_answer 199 = .ok (.ireturn, 1) := by decide +kernel
theorem d_X_answer_200 : decode b_X_answer 200 = .ok (.aload_n 0, 1) := by decide +kernel
theorem d_X_answer_201 : decode b_X_answer 201 = .ok (.aload 5, 2) := by decide +kernel
theorem d_X_answer_203 : decode b_X_answer 203 = .ok (.invokevirtual 100, 3) := by decide +kernel
theorem d_X_answer_206 : decode b_X_answer 206 = .ok (.ireturn, 1) := by decide +kernel
theorem d_X_answer_207 : decode b_X_answer 207 = .ok (.aload_n 0, 1) := by decide +kernel
theorem d_X_answer_208 : decode b_X_answer 208 = .ok (.aload 5, 2) := by decide +kernel
theorem d_X_answer_210 : decode b_X_answer 210 = .ok (.invokevirtual 189, 3) := by decide +kernel
theorem d_X_answer_213 : decode b_X_answer 213 = .ok (.ireturn, 1) := by decide +kernel
theorem d_X_answer_214 : decode b_X_answer 214 = .ok (.aload_n 0, 1) := by decide +kernel
theorem d_X_answer_215 : decode b_X_answer 215 = .ok (.aload 5, 2) := by decide +kernel
theorem d_X_answer_217 : decode b_X_answer 217 = .ok (.invokevirtual 192, 3) := by decide +kernel
theorem d_X_answer_220 : decode b_X_answer 220 = .ok (.ireturn, 1) := by decide +kernel
theorem d_X_answer_221 : decode b_X_answer 221 = .ok (.aload_n 0, 1) := by decide +kernel
theorem d_X_answer_222 : decode b_X_answer 222 = .ok (.aload 5, 2) := by decide +kernel
theorem d_X_answer_224 : decode b_X_answer 224 = .ok (.aload 4, 2) := by decide +kernel
theorem d_X_answer_226 : decode b_X_answer 226 = .ok (.invokevirtual 195, 3) := by decide +kernel
theorem d_X_answer_229 : decode b_X_answer 229 = .ok (.ireturn, 1) := by decide +kernel
theorem d_X_answer_230 : decode b_X_answer 230 = .ok (.bipush (-7), 2) := by decide +kernel
theorem d_X_answer_232 : decode b_X_answer 232 = .ok (.ireturn, 1) := by decide +kernel
set_option maxHeartbeats 8000000 in
set_option maxRecDepth 40000 in
theorem ct_X_answer (E : mm_En) (hE : st_ok E) (C : Nat → Nat → Int32) {c t0 kd fd k : Nat} (hc : c < 2) (ht0 : t0 < 8) (hkd : kd < 10) (hfd : fd < 6) (ekd : C (cn_q c t0) 2 = nI kd) (efd : C (cn_q c t0) 3 = nI fd) (hk : C (cn_q c t0 + 1) 1 = nI k) (k4 : k ≤ 4) (iv : iv_P C) (hrp : C 201 1 = nI 0) : mm_MT E K_X_answer [.ref 0, .ref (133 + 33 * c), .ref (cn_q c t0)] (hp_H C) (mm_D (some (.int (xz_R C c (cn_q c t0) kd fd k).1)) (xz_R C c (cn_q c t0) kd fd k).2) := by
  obtain ⟨hln, hft, s, hs4, hs⟩ := iv
  obtain ⟨t, ht, et⟩ := hft c hc fd hfd
  have ecl : (C (cn_f c fd) 3).toNatClampNeg = t := by rw [et, nI_clamp (by omega)]
  have s1 : rq_s (cn_q c t0) := sh_req c hc t0 ht0
  have s2 := sh_con c hc
  have s3 : hp_S[cn_q c t0 + 1]? = some (.inr (5, [some (cn_q c t0 + 1 + 1), none])) := sh_rrow c hc t0 ht0
  have hrow : rw_s (cn_q c t0 + 1) 4 := ⟨s3, sh_rar c hc t0 ht0⟩
  have kq : cn_q c t0 = 133 + 33 * c + 9 + 3 * t0 := rfl
  have kf : cn_f c fd = 133 + 33 * c + 2 + fd := rfl
  have hF : fi_n (cn_f c fd) := ⟨sh_fid c hc fd hfd, by omega, by omega⟩
  have at' : ∀ i, i < k → rw_at C (cn_q c t0 + 1) 4 (nI i) = C (cn_q c t0 + 2) i := fun i hi => rw_at_in hk hi k4 (by decide)
  have M0 : 0 < k → mm_MT E K_R_at [.ref (cn_q c t0 + 1), .int 0] (hp_H C) (mm_D (some (.int (C (cn_q c t0 + 2) 0))) C) := fun h => by
    have h1 := ct_R_at E C hrow (by decide) 0
    rw [show rw_at C (cn_q c t0 + 1) 4 0 = C (cn_q c t0 + 2) 0 from at' 0 h] at h1
    exact h1
  have M1 : 1 < k → mm_MT E K_R_at [.ref (cn_q c t0 + 1), .int 1] (hp_H C) (mm_D (some (.int (C (cn_q c t0 + 2) 1))) C) := fun h => by
    have h1 := ct_R_at E C hrow (by decide) 1
    rw [show rw_at C (cn_q c t0 + 1) 4 1 = C (cn_q c t0 + 2) 1 from at' 1 h] at h1
    exact h1
  have M2 : 2 < k → mm_MT E K_R_at [.ref (cn_q c t0 + 1), .int 2] (hp_H C) (mm_D (some (.int (C (cn_q c t0 + 2) 2))) C) := fun h => by
    have h1 := ct_R_at E C hrow (by decide) 2
    rw [show rw_at C (cn_q c t0 + 1) 4 2 = C (cn_q c t0 + 2) 2 from at' 2 h] at h1
    exact h1
  refine mm_mtL (by decide) (by rfl) (Nat.le_of_ble_eq_true rfl) rfl ?_
  refine ev_aload_n (pc := 0) d_X_answer_0 rfl rfl (by first | rfl | exact mm_rk_rf _) ?_
  refine ev_gI (pc := 1) (by first | with_reducible assumption | assumption) (by rfl) fl_X_155 d_X_answer_1 ?_
  rw [ekd]
  refine ev_istore_n (pc := 4) d_X_answer_4 rfl (Nat.le_of_ble_eq_true rfl) rfl ?_
  try dsimp only [List.set]
  refine ev_aload_n (pc := 5) d_X_answer_5 rfl rfl (by first | rfl | exact mm_rk_rf _) ?_
  refine ev_gR (pc := 6) (by first | with_reducible assumption | assumption) (by rfl) fl_X_158 d_X_answer_6 ?_
  refine ev_astore (pc := 9) d_X_answer_9 (by first | rfl | exact mm_rk_rf _) (Nat.le_of_ble_eq_true rfl) rfl ?_
  try dsimp only [List.set]
  refine ev_aload_n (pc := 11) d_X_answer_11 rfl rfl (by first | rfl | exact mm_rk_rf _) ?_
  refine ev_aload_n (pc := 12) d_X_answer_12 rfl rfl (by first | rfl | exact mm_rk_rf _) ?_
  refine ev_gI (pc := 13) (by first | with_reducible assumption | assumption) (by rfl) fl_X_161 d_X_answer_13 ?_
  rw [efd]
  refine ev_cV (pc := 16) (ct_C_fidAt E C hc hfd) cl_X_112 jv_C_fidAt ⟨(Nat.le_of_ble_eq_true rfl), (Nat.le_of_ble_eq_true rfl)⟩ rfl (by first | with_reducible assumption | assumption) rfl (Nat.le_of_ble_eq_true rfl) d_X_answer_16 ⟨Nat.zero_le _, Nat.zero_le _⟩ ?_
  refine ev_astore (pc := 19) d_X_answer_19 (by first | rfl | exact mm_rk_rf _) (Nat.le_of_ble_eq_true rfl) rfl ?_
  try dsimp only [List.set]
  refine ev_aload (pc := 21) d_X_answer_21 rfl (by first | rfl | exact mm_rk_rf _) ?_
  refine ev_ifnullR (pc := 23) d_X_answer_23 ?_
  refine ev_iload_n (pc := 26) d_X_answer_26 rfl rfl ?_
  refine ev_aload (pc := 27) d_X_answer_27 rfl (by first | rfl | exact mm_rk_rf _) ?_
  refine ev_gI (pc := 29) (by first | exact sh_said | exact sh_rep | with_reducible assumption | assumption) (by rfl) fl_X_61 d_X_answer_29 ?_
  rw [hk]
  refine ev_cS (pc := 32) (ct_X_hasItsNumbers E hE C hkd (nI k)) cl_X_164 js_X_hasItsNumbers ⟨(Nat.le_of_ble_eq_true rfl), (Nat.le_of_ble_eq_true rfl)⟩ rfl rfl (Nat.le_of_ble_eq_true rfl) d_X_answer_32 ⟨Nat.zero_le _, Nat.zero_le _⟩ ?_
  refine ev_if_ne (pc := 35) (tgt := 41) d_X_answer_35 (by decide) (fun hb => ?_) (fun hb => ?_)
  rotate_left
  · rw [b2_0] at hb
    refine ev_bipush (pc := 38) (v := -7) d_X_answer_38 (by decide) ?_
    exact ev_iret (pc := 40) d_X_answer_40 rfl (Nat.zero_le _) (Nat.zero_le _) ⟨by rw [xz_R, if_pos hb], by rw [xz_R, if_pos hb]⟩
  rw [b2_0, Classical.not_not] at hb
  have hb' : ¬ ¬ (¬ nI k < st_f kd ∧ ¬ st_g kd < nI k) := fun z => z hb
  rw [xz_R, if_neg hb']
  refine ev_eq rfl (show _ = [some (.ref 0), some (.ref (133 + 33 * c)), some (.ref (cn_q c t0)), some (.int (nI kd)), some (.ref (cn_q c t0 + 1)), some (.ref (cn_f c fd))] from rfl) rfl rfl rfl rfl ?_
  refine ev_iload_n (pc := 41) d_X_answer_41 rfl rfl ?_
  rcases (show kd = 0 ∨ kd = 1 ∨ kd = 2 ∨ kd = 3 ∨ kd = 4 ∨ kd = 5 ∨ kd = 6 ∨ kd = 7 ∨ kd = 8 ∨ kd = 9 by omega) with rfl | rfl | rfl | rfl | rfl | rfl | rfl | rfl | rfl | rfl
  · obtain ⟨r1, r2⟩ := kd_rng (a := 2) (b := 2) k4 (by decide) (by decide) hb
    refine ev_tableIn (pc := 42) (off := 54) (tgt := 96) d_X_answer_42 (by decide) (by decide) (by decide) (by decide) ?_
    simp only [xz_K]
    refine ev_aload_n (pc := 96) d_X_answer_96 rfl rfl (by first | rfl | exact mm_rk_rf _) ?_
    refine ev_aload (pc := 97) d_X_answer_97 rfl (by first | rfl | exact mm_rk_rf _) ?_
    refine ev_aload (pc := 99) d_X_answer_99 rfl (by first | rfl | exact mm_rk_rf _) ?_
    refine ev_iconst (pc := 101) (v := 0) d_X_answer_101 rfl ?_
    refine ev_cV (pc := 102) (M0 (by omega)) cl_X_104 jv_R_at ⟨(Nat.le_of_ble_eq_true rfl), (Nat.le_of_ble_eq_true rfl)⟩ rfl (by first | exact sh_said | exact sh_rep | with_reducible assumption | assumption) rfl (Nat.le_of_ble_eq_true rfl) d_X_answer_102 ⟨Nat.zero_le _, Nat.zero_le _⟩ ?_
    refine ev_aload (pc := 105) d_X_answer_105 rfl (by first | rfl | exact mm_rk_rf _) ?_
    refine ev_iconst (pc := 107) (v := 1) d_X_answer_107 rfl ?_
    refine ev_cV (pc := 108) (M1 (by omega)) cl_X_104 jv_R_at ⟨(Nat.le_of_ble_eq_true rfl), (Nat.le_of_ble_eq_true rfl)⟩ rfl (by first | exact sh_said | exact sh_rep | with_reducible assumption | assumption) rfl (Nat.le_of_ble_eq_true rfl) d_X_answer_108 ⟨Nat.zero_le _, Nat.zero_le _⟩ ?_
    refine ev_cV (pc := 111) (ct_X_attach E C hF hs hs4 hrp _ _) cl_X_167 jv_X_attach ⟨(Nat.le_of_ble_eq_true rfl), (Nat.le_of_ble_eq_true rfl)⟩ rfl sh_X rfl (Nat.le_of_ble_eq_true rfl) d_X_answer_111 ⟨Nat.zero_le _, Nat.zero_le _⟩ ?_
    exact ev_iret (pc := 114) d_X_answer_114 rfl (Nat.zero_le _) (Nat.zero_le _) ⟨rfl, rfl⟩
  · obtain ⟨r1, r2⟩ := kd_rng (a := 1) (b := 4) k4 (by decide) (by decide) hb
    refine ev_tableIn (pc := 42) (off := 73) (tgt := 115) d_X_answer_42 (by decide) (by decide) (by decide) (by decide) ?_
    simp only [xz_K]
    rw [ecl]
    refine ev_aload_n (pc := 115) d_X_answer_115 rfl rfl (by first | rfl | exact mm_rk_rf _) ?_
    refine ev_aload (pc := 116) d_X_answer_116 rfl (by first | rfl | exact mm_rk_rf _) ?_
    refine ev_aload_n (pc := 118) d_X_answer_118 rfl rfl (by first | rfl | exact mm_rk_rf _) ?_
    refine ev_aload (pc := 119) d_X_answer_119 rfl (by first | rfl | exact mm_rk_rf _) ?_
    refine ev_iconst (pc := 121) (v := 0) d_X_answer_121 rfl ?_
    refine ev_cV (pc := 122) (M0 (by omega)) cl_X_104 jv_R_at ⟨(Nat.le_of_ble_eq_true rfl), (Nat.le_of_ble_eq_true rfl)⟩ rfl (by first | exact sh_said | exact sh_rep | with_reducible assumption | assumption) rfl (Nat.le_of_ble_eq_true rfl) d_X_answer_122 ⟨Nat.zero_le _, Nat.zero_le _⟩ ?_
    rcases ix_or (C (cn_q c t0 + 2) 0) (n := 6) (by decide) with ⟨g, hg, eg⟩ | hno
    · rw [eg]
      refine ev_cV (pc := 125) (ct_C_fidAt E C hc hg) cl_X_112 jv_C_fidAt ⟨(Nat.le_of_ble_eq_true rfl), (Nat.le_of_ble_eq_true rfl)⟩ rfl (by first | with_reducible assumption | assumption) rfl (Nat.le_of_ble_eq_true rfl) d_X_answer_125 ⟨Nat.zero_le _, Nat.zero_le _⟩ ?_
      refine ev_aload (pc := 128) d_X_answer_128 rfl (by first | rfl | exact mm_rk_rf _) ?_
      have kg : cn_f c g = 133 + 33 * c + 2 + g := rfl
      rw [it_t (show vp_in (nI g) 6 from vp_in_nI hg (by decide)), nI_clamp (show g < 2 ^ 31 by omega)]
      refine ev_cV (pc := 130) (ct_X_walk E C (g := cn_f c g) hF ⟨sh_fid c hc g hg, by omega, by omega⟩ ht et hrow (by omega) ⟨by omega, by omega, by omega⟩ hk r1 k4 hrp) cl_X_171 jv_X_walk ⟨(Nat.le_of_ble_eq_true rfl), (Nat.le_of_ble_eq_true rfl)⟩ rfl sh_X rfl (Nat.le_of_ble_eq_true rfl) d_X_answer_130 ⟨Nat.zero_le _, Nat.zero_le _⟩ ?_
      exact ev_iret (pc := 133) d_X_answer_133 rfl (Nat.zero_le _) (Nat.zero_le _) ⟨rfl, rfl⟩
    · refine ev_cV (pc := 125) (ct_C_fidAtN E C hc hno) cl_X_112 jv_C_fidAt ⟨(Nat.le_of_ble_eq_true rfl), (Nat.le_of_ble_eq_true rfl)⟩ rfl (by first | with_reducible assumption | assumption) rfl (Nat.le_of_ble_eq_true rfl) d_X_answer_125 ⟨Nat.zero_le _, Nat.zero_le _⟩ ?_
      refine ev_aload (pc := 128) d_X_answer_128 rfl (by first | rfl | exact mm_rk_rf _) ?_
      refine ev_cV (pc := 130) (ct_X_walkN E C) cl_X_171 jv_X_walk ⟨(Nat.le_of_ble_eq_true rfl), (Nat.le_of_ble_eq_true rfl)⟩ rfl sh_X rfl (Nat.le_of_ble_eq_true rfl) d_X_answer_130 ⟨Nat.zero_le _, Nat.zero_le _⟩ ?_
      have hnv : ¬ vp_in (C (cn_q c t0 + 2) 0) 6 := fun z => by
        obtain ⟨j, hj, ej⟩ := vp_in_of z (by decide)
        rw [ej] at hno
        rcases hno with h | h
        · exact absurd h (nI_pos (by omega))
        · exact absurd h (nI_ge hj (by decide))
      exact ev_iret (pc := 133) d_X_answer_133 rfl (Nat.zero_le _) (Nat.zero_le _) ⟨by rw [it_f hnv], by rw [it_f hnv]⟩
  · obtain ⟨r1, r2⟩ := kd_rng (a := 1) (b := 1) k4 (by decide) (by decide) hb
    refine ev_tableIn (pc := 42) (off := 92) (tgt := 134) d_X_answer_42 (by decide) (by decide) (by decide) (by decide) ?_
    simp only [xz_K]
    rw [ecl]
    refine ev_aload_n (pc := 134) d_X_answer_134 rfl rfl (by first | rfl | exact mm_rk_rf _) ?_
    refine ev_aload (pc := 135) d_X_answer_135 rfl (by first | rfl | exact mm_rk_rf _) ?_
    refine ev_aload (pc := 137) d_X_answer_137 rfl (by first | rfl | exact mm_rk_rf _) ?_
    refine ev_iconst (pc := 139) (v := 0) d_X_answer_139 rfl ?_
    refine ev_cV (pc := 140) (M0 (by omega)) cl_X_104 jv_R_at ⟨(Nat.le_of_ble_eq_true rfl), (Nat.le_of_ble_eq_true rfl)⟩ rfl (by first | exact sh_said | exact sh_rep | with_reducible assumption | assumption) rfl (Nat.le_of_ble_eq_true rfl) d_X_answer_140 ⟨Nat.zero_le _, Nat.zero_le _⟩ ?_
    refine ev_cV (pc := 143) (ct_X_open E C hF ht et hrp hln _) cl_X_175 jv_X_open ⟨(Nat.le_of_ble_eq_true rfl), (Nat.le_of_ble_eq_true rfl)⟩ rfl sh_X rfl (Nat.le_of_ble_eq_true rfl) d_X_answer_143 ⟨Nat.zero_le _, Nat.zero_le _⟩ ?_
    exact ev_iret (pc := 146) d_X_answer_146 rfl (Nat.zero_le _) (Nat.zero_le _) ⟨rfl, rfl⟩
  · obtain ⟨r1, r2⟩ := kd_rng (a := 3) (b := 3) k4 (by decide) (by decide) hb
    refine ev_tableIn (pc := 42) (off := 105) (tgt := 147) d_X_answer_42 (by decide) (by decide) (by decide) (by decide) ?_
    simp only [xz_K]
    rw [ecl]
    refine ev_aload_n (pc := 147) d_X_answer_147 rfl rfl (by first | rfl | exact mm_rk_rf _) ?_
    refine ev_aload (pc := 148) d_X_answer_148 rfl (by first | rfl | exact mm_rk_rf _) ?_
    refine ev_aload (pc := 150) d_X_answer_150 rfl (by first | rfl | exact mm_rk_rf _) ?_
    refine ev_iconst (pc := 152) (v := 0) d_X_answer_152 rfl ?_
    refine ev_cV (pc := 153) (M0 (by omega)) cl_X_104 jv_R_at ⟨(Nat.le_of_ble_eq_true rfl), (Nat.le_of_ble_eq_true rfl)⟩ rfl (by first | exact sh_said | exact sh_rep | with_reducible assumption | assumption) rfl (Nat.le_of_ble_eq_true rfl) d_X_answer_153 ⟨Nat.zero_le _, Nat.zero_le _⟩ ?_
    refine ev_aload (pc := 156) d_X_answer_156 rfl (by first | rfl | exact mm_rk_rf _) ?_
    refine ev_iconst (pc := 158) (v := 1) d_X_answer_158 rfl ?_
    refine ev_cV (pc := 159) (M1 (by omega)) cl_X_104 jv_R_at ⟨(Nat.le_of_ble_eq_true rfl), (Nat.le_of_ble_eq_true rfl)⟩ rfl (by first | exact sh_said | exact sh_rep | with_reducible assumption | assumption) rfl (Nat.le_of_ble_eq_true rfl) d_X_answer_159 ⟨Nat.zero_le _, Nat.zero_le _⟩ ?_
    refine ev_aload (pc := 162) d_X_answer_162 rfl (by first | rfl | exact mm_rk_rf _) ?_
    refine ev_iconst (pc := 164) (v := 2) d_X_answer_164 rfl ?_
    refine ev_cV (pc := 165) (M2 (by omega)) cl_X_104 jv_R_at ⟨(Nat.le_of_ble_eq_true rfl), (Nat.le_of_ble_eq_true rfl)⟩ rfl (by first | exact sh_said | exact sh_rep | with_reducible assumption | assumption) rfl (Nat.le_of_ble_eq_true rfl) d_X_answer_165 ⟨Nat.zero_le _, Nat.zero_le _⟩ ?_
    refine ev_cV (pc := 168) (ct_X_create E C hF ht et hrp _ _ _) cl_X_178 jv_X_create ⟨(Nat.le_of_ble_eq_true rfl), (Nat.le_of_ble_eq_true rfl)⟩ rfl sh_X rfl (Nat.le_of_ble_eq_true rfl) d_X_answer_168 ⟨Nat.zero_le _, Nat.zero_le _⟩ ?_
    exact ev_iret (pc := 171) d_X_answer_171 rfl (Nat.zero_le _) (Nat.zero_le _) ⟨rfl, rfl⟩
  · obtain ⟨r1, r2⟩ := kd_rng (a := 2) (b := 2) k4 (by decide) (by decide) hb
    refine ev_tableIn (pc := 42) (off := 130) (tgt := 172) d_X_answer_42 (by decide) (by decide) (by decide) (by decide) ?_
    simp only [xz_K]
    rw [ecl]
    refine ev_aload_n (pc := 172) d_X_answer_172 rfl rfl (by first | rfl | exact mm_rk_rf _) ?_
    refine ev_aload (pc := 173) d_X_answer_173 rfl (by first | rfl | exact mm_rk_rf _) ?_
    refine ev_aload (pc := 175) d_X_answer_175 rfl (by first | rfl | exact mm_rk_rf _) ?_
    refine ev_iconst (pc := 177) (v := 0) d_X_answer_177 rfl ?_
    refine ev_cV (pc := 178) (M0 (by omega)) cl_X_104 jv_R_at ⟨(Nat.le_of_ble_eq_true rfl), (Nat.le_of_ble_eq_true rfl)⟩ rfl (by first | exact sh_said | exact sh_rep | with_reducible assumption | assumption) rfl (Nat.le_of_ble_eq_true rfl) d_X_answer_178 ⟨Nat.zero_le _, Nat.zero_le _⟩ ?_
    refine ev_aload (pc := 181) d_X_answer_181 rfl (by first | rfl | exact mm_rk_rf _) ?_
    refine ev_iconst (pc := 183) (v := 1) d_X_answer_183 rfl ?_
    refine ev_cV (pc := 184) (M1 (by omega)) cl_X_104 jv_R_at ⟨(Nat.le_of_ble_eq_true rfl), (Nat.le_of_ble_eq_true rfl)⟩ rfl (by first | exact sh_said | exact sh_rep | with_reducible assumption | assumption) rfl (Nat.le_of_ble_eq_true rfl) d_X_answer_184 ⟨Nat.zero_le _, Nat.zero_le _⟩ ?_
    refine ev_cV (pc := 187) (ct_X_read E C hF ht et hrp hln _ _) cl_X_182 jv_X_read ⟨(Nat.le_of_ble_eq_true rfl), (Nat.le_of_ble_eq_true rfl)⟩ rfl sh_X rfl (Nat.le_of_ble_eq_true rfl) d_X_answer_187 ⟨Nat.zero_le _, Nat.zero_le _⟩ ?_
    exact ev_iret (pc := 190) d_X_answer_190 rfl (Nat.zero_le _) (Nat.zero_le _) ⟨rfl, rfl⟩
  · obtain ⟨r1, r2⟩ := kd_rng (a := 1) (b := 4) k4 (by decide) (by decide) hb
    refine ev_tableIn (pc := 42) (off := 149) (tgt := 191) d_X_answer_42 (by decide) (by decide) (by decide) (by decide) ?_
    simp only [xz_K]
    rw [ecl]
    refine ev_aload_n (pc := 191) d_X_answer_191 rfl rfl (by first | rfl | exact mm_rk_rf _) ?_
    refine ev_aload (pc := 192) d_X_answer_192 rfl (by first | rfl | exact mm_rk_rf _) ?_
    refine ev_aload (pc := 194) d_X_answer_194 rfl (by first | rfl | exact mm_rk_rf _) ?_
    refine ev_cV (pc := 196) (ct_X_write E C hF ht et hrow (by omega) hk r1 k4 hln) cl_X_185 jv_X_write ⟨(Nat.le_of_ble_eq_true rfl), (Nat.le_of_ble_eq_true rfl)⟩ rfl sh_X rfl (Nat.le_of_ble_eq_true rfl) d_X_answer_196 ⟨Nat.zero_le _, Nat.zero_le _⟩ ?_
    exact ev_iret (pc := 199) d_X_answer_199 rfl (Nat.zero_le _) (Nat.zero_le _) ⟨rfl, rfl⟩
  · refine ev_tableIn (pc := 42) (off := 158) (tgt := 200) d_X_answer_42 (by decide) (by decide) (by decide) (by decide) ?_
    simp only [xz_K]
    rw [ecl]
    refine ev_aload_n (pc := 200) d_X_answer_200 rfl rfl (by first | rfl | exact mm_rk_rf _) ?_
    refine ev_aload (pc := 201) d_X_answer_201 rfl (by first | rfl | exact mm_rk_rf _) ?_
    refine ev_cV (pc := 203) (ct_X_clunk E C hF ht et) cl_X_100 jv_X_clunk ⟨(Nat.le_of_ble_eq_true rfl), (Nat.le_of_ble_eq_true rfl)⟩ rfl sh_X rfl (Nat.le_of_ble_eq_true rfl) d_X_answer_203 ⟨Nat.zero_le _, Nat.zero_le _⟩ ?_
    exact ev_iret (pc := 206) d_X_answer_206 rfl (Nat.zero_le _) (Nat.zero_le _) ⟨rfl, rfl⟩
  · refine ev_tableIn (pc := 42) (off := 165) (tgt := 207) d_X_answer_42 (by decide) (by decide) (by decide) (by decide) ?_
    simp only [xz_K]
    rw [ecl]
    refine ev_aload_n (pc := 207) d_X_answer_207 rfl rfl (by first | rfl | exact mm_rk_rf _) ?_
    refine ev_aload (pc := 208) d_X_answer_208 rfl (by first | rfl | exact mm_rk_rf _) ?_
    refine ev_cV (pc := 210) (ct_X_remove E C hF ht et) cl_X_189 jv_X_remove ⟨(Nat.le_of_ble_eq_true rfl), (Nat.le_of_ble_eq_true rfl)⟩ rfl sh_X rfl (Nat.le_of_ble_eq_true rfl) d_X_answer_210 ⟨Nat.zero_le _, Nat.zero_le _⟩ ?_
    exact ev_iret (pc := 213) d_X_answer_213 rfl (Nat.zero_le _) (Nat.zero_le _) ⟨rfl, rfl⟩
  · refine ev_tableIn (pc := 42) (off := 172) (tgt := 214) d_X_answer_42 (by decide) (by decide) (by decide) (by decide) ?_
    simp only [xz_K]
    rw [ecl]
    refine ev_aload_n (pc := 214) d_X_answer_214 rfl rfl (by first | rfl | exact mm_rk_rf _) ?_
    refine ev_aload (pc := 215) d_X_answer_215 rfl (by first | rfl | exact mm_rk_rf _) ?_
    refine ev_cV (pc := 217) (ct_X_stat E C hF ht et hrp) cl_X_192 jv_X_stat ⟨(Nat.le_of_ble_eq_true rfl), (Nat.le_of_ble_eq_true rfl)⟩ rfl sh_X rfl (Nat.le_of_ble_eq_true rfl) d_X_answer_217 ⟨Nat.zero_le _, Nat.zero_le _⟩ ?_
    exact ev_iret (pc := 220) d_X_answer_220 rfl (Nat.zero_le _) (Nat.zero_le _) ⟨rfl, rfl⟩
  · refine ev_tableIn (pc := 42) (off := 179) (tgt := 221) d_X_answer_42 (by decide) (by decide) (by decide) (by decide) ?_
    simp only [xz_K]
    rw [ecl]
    refine ev_aload_n (pc := 221) d_X_answer_221 rfl rfl (by first | rfl | exact mm_rk_rf _) ?_
    refine ev_aload (pc := 222) d_X_answer_222 rfl (by first | rfl | exact mm_rk_rf _) ?_
    refine ev_aload (pc := 224) d_X_answer_224 rfl (by first | rfl | exact mm_rk_rf _) ?_
    refine ev_cV (pc := 226) (ct_X_wstat E C hF ht et hrow ⟨by omega, by omega⟩ hln) cl_X_195 jv_X_wstat ⟨(Nat.le_of_ble_eq_true rfl), (Nat.le_of_ble_eq_true rfl)⟩ rfl sh_X rfl (Nat.le_of_ble_eq_true rfl) d_X_answer_226 ⟨Nat.zero_le _, Nat.zero_le _⟩ ?_
    exact ev_iret (pc := 229) d_X_answer_229 rfl (Nat.zero_le _) (Nat.zero_le _) ⟨rfl, rfl⟩
theorem d_X_serve_0 : decode b_X_serve 0 = .ok (.aload_n 0, 1) := by decide +kernel
theorem d_X_serve_1 : decode b_X_serve 1 = .ok (.iload_n 1, 1) := by decide +kernel
theorem d_X_serve_2 : decode b_X_serve 2 = .ok (.invokevirtual 85, 3) := by decide +kernel
theorem d_X_serve_5 : decode b_X_serve 5 = .ok (.astore_n 3, 1) := by decide +kernel
theorem d_X_serve_6 : decode b_X_serve 6 = .ok (.aload_n 0, 1) := by decide +kernel
theorem d_X_serve_7 : decode b_X_serve 7 = .ok (.iload_n 1, 1) := by decide +kernel
theorem d_X_serve_8 : decode b_X_serve 8 = .ok (.iload_n 2, 1) := by decide +kernel
theorem d_X_serve_9 : decode b_X_serve 9 = .ok (.invokevirtual 68, 3) := by decide +kernel
theorem d_X_serve_12 : decode b_X_serve 12 = .ok (.astore 4, 2) := by decide +kernel
theorem d_X_serve_14 : decode b_X_serve 14 = .ok (.aload_n 3, 1) := by decide +kernel
theorem d_X_serve_15 : decode b_X_serve 15 = .ok (.ifnull 16, 3) := by decide +kernel
theorem d_X_serve_18 : decode b_X_serve 18 = .ok (.aload 4, 2) := by decide +kernel
theorem d_X_serve_20 : decode b_X_serve 20 = .ok (.ifnull 11, 3) := by decide +kernel
theorem d_X_serve_23 : decode b_X_serve 23 = .ok (.aload 4, 2) := by decide +kernel
theorem d_X_serve_25 : decode b_X_serve 25 = .ok (.getfield 72, 3) := by decide +kernel
theorem d_X_serve_28 : decode b_X_serve 28 = .ok (.ifCond .ne 6, 3) := by decide +kernel
theorem d_X_serve_31 : decode b_X_serve 31 = .ok (.bipush (-20), 2) := by decide +kernel
theorem d_X_serve_33 : decode b_X_serve 33 = .ok (.ireturn, 1) := by decide +kernel
theorem d_X_serve_34 : decode b_X_serve 34 = .ok (.aload 4, 2) := by decide +kernel
theorem d_X_serve_36 : decode b_X_serve 36 = .ok (.iconst 0, 1) := by decide +kernel
theorem d_X_serve_37 : decode b_X_serve 37 = .ok (.putfield 72, 3) := by decide +kernel
theorem d_X_serve_40 : decode b_X_serve 40 = .ok (.aload_n 0, 1) := by decide +kernel
theorem d_X_serve_41 : decode b_X_serve 41 = .ok (.getfield 39, 3) := by decide +kernel
theorem d_X_serve_44 : decode b_X_serve 44 = .ok (.invokevirtual 82, 3) := by decide +kernel
theorem d_X_serve_47 : decode b_X_serve 47 = .ok (.aload_n 0, 1) := by decide +kernel
theorem d_X_serve_48 : decode b_X_serve 48 = .ok (.aload_n 3, 1) := by decide +kernel
theorem d_X_serve_49 : decode b_X_serve 49 = .ok (.aload 4, 2) := by decide +kernel
theorem d_X_serve_51 : decode b_X_serve 51 = .ok (.invokevirtual 89, 3) := by decide +kernel
theorem d_X_serve_54 : decode b_X_serve 54 = .ok (.ireturn, 1) := by decide +kernel
noncomputable def xS_R (C : Nat → Nat → Int32) (c t kd fd k : Nat) : Int32 × (Nat → Nat → Int32) := if C (cn_q c t) 1 = 0 then (-20, C) else xz_R (cs_C (cs_C C (cn_q c t) 1 0) 201 1 0) c (cn_q c t) kd fd k
set_option maxHeartbeats 4000000 in
set_option maxRecDepth 20000 in
theorem ct_X_serve (E : mm_En) (hE : st_ok E) (C : Nat → Nat → Int32) {c t0 kd fd k : Nat} (hc : c < 2) (ht0 : t0 < 8) (hq : ¬ C (cn_q c t0) 1 = 0 → kd < 10 ∧ fd < 6 ∧ C (cn_q c t0) 2 = nI kd ∧ C (cn_q c t0) 3 = nI fd ∧ C (cn_q c t0 + 1) 1 = nI k ∧ k ≤ 4) (iv : iv_P C) : mm_MT E K_X_serve [.ref 0, .int (nI c), .int (nI t0)] (hp_H C) (mm_D (some (.int (xS_R C c t0 kd fd k).1)) (xS_R C c t0 kd fd k).2) := by
  have s1 : rq_s (cn_q c t0) := sh_req c hc t0 ht0
  have s2 := sh_con c hc
  have kq : cn_q c t0 = 133 + 33 * c + 9 + 3 * t0 := rfl
  refine mm_mtL (by decide) (by rfl) (Nat.le_of_ble_eq_true rfl) rfl ?_
  refine ev_aload_n (pc := 0) d_X_serve_0 rfl rfl (by first | rfl | exact mm_rk_rf _) ?_
  refine ev_iload_n (pc := 1) d_X_serve_1 rfl rfl ?_
  refine ev_cV (pc := 2) (ct_X_connectionAt E C hc) cl_X_85 jv_X_connectionAt ⟨(Nat.le_of_ble_eq_true rfl), (Nat.le_of_ble_eq_true rfl)⟩ rfl sh_X rfl (Nat.le_of_ble_eq_true rfl) d_X_serve_2 ⟨Nat.zero_le _, Nat.zero_le _⟩ ?_
  refine ev_astore_n (pc := 5) d_X_serve_5 rfl (by first | rfl | exact mm_rk_rf _) (Nat.le_of_ble_eq_true rfl) rfl ?_
  try dsimp only [List.set]
  refine ev_aload_n (pc := 6) d_X_serve_6 rfl rfl (by first | rfl | exact mm_rk_rf _) ?_
  refine ev_iload_n (pc := 7) d_X_serve_7 rfl rfl ?_
  refine ev_iload_n (pc := 8) d_X_serve_8 rfl rfl ?_
  refine ev_cV (pc := 9) (ct_X_requestAt E C hc ht0) cl_X_68 jv_X_requestAt ⟨(Nat.le_of_ble_eq_true rfl), (Nat.le_of_ble_eq_true rfl)⟩ rfl sh_X rfl (Nat.le_of_ble_eq_true rfl) d_X_serve_9 ⟨Nat.zero_le _, Nat.zero_le _⟩ ?_
  refine ev_astore (pc := 12) d_X_serve_12 (by first | rfl | exact mm_rk_rf _) (Nat.le_of_ble_eq_true rfl) rfl ?_
  try dsimp only [List.set]
  refine ev_aload_n (pc := 14) d_X_serve_14 rfl rfl (by first | rfl | exact mm_rk_rf _) ?_
  refine ev_ifnullR (pc := 15) d_X_serve_15 ?_
  refine ev_aload (pc := 18) d_X_serve_18 rfl (by first | rfl | exact mm_rk_rf _) ?_
  refine ev_ifnullR (pc := 20) d_X_serve_20 ?_
  refine ev_aload (pc := 23) d_X_serve_23 rfl (by first | rfl | exact mm_rk_rf _) ?_
  refine ev_gI (pc := 25) (by first | with_reducible assumption | assumption) (by rfl) fl_X_72 d_X_serve_25 ?_
  refine ev_if_ne (pc := 28) (tgt := 34) d_X_serve_28 (by decide) (fun ha => ?_) (fun ha => ?_)
  rotate_left
  · refine ev_bipush (pc := 31) (v := -20) d_X_serve_31 (by decide) ?_
    exact ev_iret (pc := 33) d_X_serve_33 rfl (Nat.zero_le _) (Nat.zero_le _) ⟨by rw [xS_R, if_pos ha], by rw [xS_R, if_pos ha]⟩
  obtain ⟨q1, q2, q3, q4, q5, q6⟩ := hq ha
  have iv' : iv_P (cs_C (cs_C C (cn_q c t0) 1 0) 201 1 0) := by
    obtain ⟨hln, hft, s, hs4, hs⟩ := iv
    refine ⟨fun i hi => ?_, fun c' hc' f hf => ?_, s, hs4, ?_⟩
    · obtain ⟨l, h1, h2⟩ := hln i hi
      exact ⟨l, h1, by rw [cs_ne _ _ (by omega), cs_ne _ _ (by omega)]; exact h2⟩
    · obtain ⟨t, h1, h2⟩ := hft c' hc' f hf
      exact ⟨t, h1, by rw [cs_ne _ _ (by omega), cs_ne _ _ (by omega)]; exact h2⟩
    · rw [cs_ne _ _ (by omega), cs_ne _ _ (by omega)]
      exact hs
  rw [xS_R, if_neg ha]
  refine ev_aload (pc := 34) d_X_serve_34 rfl (by first | rfl | exact mm_rk_rf _) ?_
  refine ev_iconst (pc := 36) (v := 0) d_X_serve_36 rfl ?_
  refine ev_pI (pc := 37) (by first | with_reducible assumption | assumption) (by rfl) fl_X_72 fw_4_1 (by rfl) d_X_serve_37 ?_
  refine ev_aload_n (pc := 40) d_X_serve_40 rfl rfl (by first | rfl | exact mm_rk_rf _) ?_
  refine ev_gR (pc := 41) sh_X (by rfl) fl_X_39 d_X_serve_41 ?_
  refine ev_cVv (pc := 44) (ct_R_clear E _ (r := 201) (n := 8) ⟨sh_rep, sh_repA⟩) cl_X_82 jv_R_clear ⟨(Nat.le_of_ble_eq_true rfl), (Nat.le_of_ble_eq_true rfl)⟩ rfl (by first | exact sh_said | exact sh_rep | with_reducible assumption | assumption) rfl (Nat.le_of_ble_eq_true rfl) d_X_serve_44 ⟨Nat.zero_le _, Nat.zero_le _⟩ ?_
  refine ev_aload_n (pc := 47) d_X_serve_47 rfl rfl (by first | rfl | exact mm_rk_rf _) ?_
  refine ev_aload_n (pc := 48) d_X_serve_48 rfl rfl (by first | rfl | exact mm_rk_rf _) ?_
  refine ev_aload (pc := 49) d_X_serve_49 rfl (by first | rfl | exact mm_rk_rf _) ?_
  refine ev_cV (pc := 51) (ct_X_answer E hE _ hc ht0 q1 q2 (by rw [cs_ne _ _ (by omega), cs_ne _ _ (by omega)]; exact q3) (by rw [cs_ne _ _ (by omega), cs_ne _ _ (by omega)]; exact q4) (by rw [cs_ne _ _ (by omega), cs_ne _ _ (by omega)]; exact q5) q6 iv' (cs_at _ _ _ _)) cl_X_89 jv_X_answer ⟨(Nat.le_of_ble_eq_true rfl), (Nat.le_of_ble_eq_true rfl)⟩ rfl sh_X rfl (Nat.le_of_ble_eq_true rfl) d_X_serve_51 ⟨Nat.zero_le _, Nat.zero_le _⟩ ?_
  exact ev_iret (pc := 54) d_X_serve_54 rfl (Nat.zero_le _) (Nat.zero_le _) ⟨rfl, rfl⟩
set_option maxRecDepth 20000 in
theorem ct_X_serveN (E : mm_En) (C : Nat → Nat → Int32) {x y : Int32} (hx : (x < 0 ∨ 2 ≤ x) ∨ (y < 0 ∨ 8 ≤ y)) : mm_MT E K_X_serve [.ref 0, .int x, .int y] (hp_H C) (mm_D (some (.int (-20))) C) := by
  rcases ix_or x (n := 2) (by decide) with ⟨c, hc, rfl⟩ | hn
  · refine mm_mtL (by decide) (by rfl) (Nat.le_of_ble_eq_true rfl) rfl ?_
    refine ev_aload_n (pc := 0) d_X_serve_0 rfl rfl (by first | rfl | exact mm_rk_rf _) ?_
    refine ev_iload_n (pc := 1) d_X_serve_1 rfl rfl ?_
    refine ev_cV (pc := 2) (ct_X_connectionAt E C hc) cl_X_85 jv_X_connectionAt ⟨(Nat.le_of_ble_eq_true rfl), (Nat.le_of_ble_eq_true rfl)⟩ rfl sh_X rfl (Nat.le_of_ble_eq_true rfl) d_X_serve_2 ⟨Nat.zero_le _, Nat.zero_le _⟩ ?_
    refine ev_astore_n (pc := 5) d_X_serve_5 rfl (by first | rfl | exact mm_rk_rf _) (Nat.le_of_ble_eq_true rfl) rfl ?_
    try dsimp only [List.set]
    refine ev_aload_n (pc := 6) d_X_serve_6 rfl rfl (by first | rfl | exact mm_rk_rf _) ?_
    refine ev_iload_n (pc := 7) d_X_serve_7 rfl rfl ?_
    refine ev_iload_n (pc := 8) d_X_serve_8 rfl rfl ?_
    refine ev_cV (pc := 9) (ct_X_requestAtN E C hx) cl_X_68 jv_X_requestAt ⟨(Nat.le_of_ble_eq_true rfl), (Nat.le_of_ble_eq_true rfl)⟩ rfl sh_X rfl (Nat.le_of_ble_eq_true rfl) d_X_serve_9 ⟨Nat.zero_le _, Nat.zero_le _⟩ ?_
    refine ev_astore (pc := 12) d_X_serve_12 (by first | rfl | exact mm_rk_rf _) (Nat.le_of_ble_eq_true rfl) rfl ?_
    try dsimp only [List.set]
    refine ev_aload_n (pc := 14) d_X_serve_14 rfl rfl (by first | rfl | exact mm_rk_rf _) ?_
    refine ev_ifnullR (pc := 15) d_X_serve_15 ?_
    refine ev_aload (pc := 18) d_X_serve_18 rfl (by first | rfl | exact mm_rk_rf _) ?_
    refine ev_ifnullN (pc := 20) (tgt := 31) d_X_serve_20 (by decide) ?_
    refine ev_bipush (pc := 31) (v := -20) d_X_serve_31 (by decide) ?_
    exact ev_iret (pc := 33) d_X_serve_33 rfl (Nat.zero_le _) (Nat.zero_le _) ⟨rfl, rfl⟩
  · refine mm_mtL (by decide) (by rfl) (Nat.le_of_ble_eq_true rfl) rfl ?_
    refine ev_aload_n (pc := 0) d_X_serve_0 rfl rfl (by first | rfl | exact mm_rk_rf _) ?_
    refine ev_iload_n (pc := 1) d_X_serve_1 rfl rfl ?_
    refine ev_cV (pc := 2) (ct_X_connectionAtN E C hn) cl_X_85 jv_X_connectionAt ⟨(Nat.le_of_ble_eq_true rfl), (Nat.le_of_ble_eq_true rfl)⟩ rfl sh_X rfl (Nat.le_of_ble_eq_true rfl) d_X_serve_2 ⟨Nat.zero_le _, Nat.zero_le _⟩ ?_
    refine ev_astore_n (pc := 5) d_X_serve_5 rfl (by first | rfl | exact mm_rk_rf _) (Nat.le_of_ble_eq_true rfl) rfl ?_
    try dsimp only [List.set]
    refine ev_aload_n (pc := 6) d_X_serve_6 rfl rfl (by first | rfl | exact mm_rk_rf _) ?_
    refine ev_iload_n (pc := 7) d_X_serve_7 rfl rfl ?_
    refine ev_iload_n (pc := 8) d_X_serve_8 rfl rfl ?_
    refine ev_cV (pc := 9) (ct_X_requestAtN E C (Or.inl hn)) cl_X_68 jv_X_requestAt ⟨(Nat.le_of_ble_eq_true rfl), (Nat.le_of_ble_eq_true rfl)⟩ rfl sh_X rfl (Nat.le_of_ble_eq_true rfl) d_X_serve_9 ⟨Nat.zero_le _, Nat.zero_le _⟩ ?_
    refine ev_astore (pc := 12) d_X_serve_12 (by first | rfl | exact mm_rk_rf _) (Nat.le_of_ble_eq_true rfl) rfl ?_
    try dsimp only [List.set]
    refine ev_aload_n (pc := 14) d_X_serve_14 rfl rfl (by first | rfl | exact mm_rk_rf _) ?_
    refine ev_ifnullN (pc := 15) (tgt := 31) d_X_serve_15 (by decide) ?_
    refine ev_bipush (pc := 31) (v := -20) d_X_serve_31 (by decide) ?_
    exact ev_iret (pc := 33) d_X_serve_33 rfl (Nat.zero_le _) (Nat.zero_le _) ⟨rfl, rfl⟩
