/-! The law's loop, over an invariant I n C: n calls are done, C are all ints. -/
/-- both sides answer alike, from I n to I (n + 1) -/
def lp_V (E : mm_En) (I : Nat → (Nat → Nat → Int32) → Prop) (J1 J2 : mm_KI) (n : Nat) (C : Nat → Nat → Int32) (As : List Value) : Prop := ∃ (v : Int32) (C1 C2 : Nat → Nat → Int32), mm_MT E J1 (.ref 0 :: As) (hp_H C) (mm_D (some (.int v)) C1) ∧ mm_MT E J2 (.ref 204 :: As) (hp_H C1) (mm_D (some (.int v)) C2) ∧ I (n + 1) C2
def lp_N (E : mm_En) (I : Nat → (Nat → Nat → Int32) → Prop) (J1 J2 : mm_KI) (n : Nat) (C : Nat → Nat → Int32) : Prop := ∃ (C1 C2 : Nat → Nat → Int32), mm_MT E J1 [.ref 0] (hp_H C) (mm_D none C1) ∧ mm_MT E J2 [.ref 204] (hp_H C1) (mm_D none C2) ∧ I (n + 1) C2
def lp_I (E : mm_En) (I : Nat → (Nat → Nat → Int32) → Prop) : Prop := ∀ n C, n < 512 → I n C → I (n + 1) C ∧ (∀ a b : Int32, lp_V E I K_X_member K_N_member n C [.int a, .int b]) ∧ (∀ a : Int32, lp_V E I K_X_say K_N_say n C [.int a]) ∧ (∀ a b c d : Int32, lp_V E I K_X_send K_N_send n C [.int a, .int b, .int c, .int d]) ∧ (∀ a b : Int32, lp_V E I K_X_serve K_N_serve n C [.int a, .int b]) ∧ (∀ a b : Int32, lp_V E I K_X_flush K_N_flush n C [.int a, .int b]) ∧ (∀ a : Int32, lp_V E I K_X_hangUp K_N_hangUp n C [.int a]) ∧ (∀ a : Int32, lp_V E I K_X_reply K_N_reply n C [.int a]) ∧ (∀ a : Int32, lp_V E I K_X_waiting K_N_waiting n C [.int a]) ∧ (∀ a b : Int32, lp_V E I K_X_fid K_N_fid n C [.int a, .int b]) ∧ (∀ a : Int32, lp_V E I K_X_sync K_N_sync n C [.int a]) ∧ lp_V E I K_X_snapshot K_N_snapshot n C [] ∧ lp_N E I K_X_crash K_N_crash n C ∧ lp_V E I K_X_blocks K_N_blocks n C [] ∧ lp_V E I K_X_nodes K_N_nodes n C []
theorem lp_cmp {L i : Nat} (hL : L ≤ 2560) (hi : i ≤ 2565) (h : ¬ Int32.ofNat L - 5 < nI i) : i + 5 ≤ L := by
  rw [Int32.lt_iff_toInt_lt, Int32.toInt_sub, show (Int32.ofNat L).toInt = (L : Int) from nI_toInt (by omega), show (5 : Int32).toInt = 5 from rfl, nI_toInt (by omega), Int.bmod_eq_of_le_mul_two (by omega) (by omega)] at h
  omega
set_option maxRecDepth 40000 in
set_option maxHeartbeats 8000000 in
theorem st_law (E : mm_En) (hE : st_ok E) (I : Nat → (Nat → Nat → Int32) → Prop) (h0 : I 0 mk_C) (hI : lp_I E I) : ev_At E K_L_law 0 [some (.retAddr 0), none, none, none] [] [] 0 0 (fun r _ => r = some (.int 1)) := by
  obtain ⟨hL, -⟩ := hE
  have loop : ∀ d i n : Nat, 2565 ≤ d + i → i = 5 * n → i ≤ 2565 → ∀ C, I n C → ev_At E K_L_law 18 [some (.retAddr 0), some (.ref 0), some (.ref 204), some (.int (nI i))] [] (hp_H C) 229 5352 (fun r _ => r = some (.int 1)) := by
    intro d
    induction d with
    | zero =>
      intro i n hd hn hi C hC
      refine ev_iload_n (pc := 18) d_L_law_18 rfl rfl ?_
      refine ev_aload_n (pc := 19) d_L_law_19 rfl rfl (by first | rfl | exact mm_rk_rf _) ?_
      refine ev_alenX (pc := 20) (by decide) d_L_law_20 ?_
      refine ev_iconst (pc := 21) (v := 5) d_L_law_21 rfl ?_
      refine ev_isub (pc := 22) d_L_law_22 ?_
      refine ev_icmp_gt (pc := 23) (tgt := 460) d_L_law_23 (by decide) (fun ha => ?_) (fun ha => ?_)
      · refine ev_iconst (pc := 460) (v := 1) d_L_law_460 rfl ?_
        exact ev_zret (pc := 461) d_L_law_461 rfl (Or.inr rfl) (by decide) (by decide) rfl
      · have := lp_cmp hL hi ha
        omega
    | succ d ih =>
      intro i n hd hn hi C hC
      refine ev_iload_n (pc := 18) d_L_law_18 rfl rfl ?_
      refine ev_aload_n (pc := 19) d_L_law_19 rfl rfl (by first | rfl | exact mm_rk_rf _) ?_
      refine ev_alenX (pc := 20) (by decide) d_L_law_20 ?_
      refine ev_iconst (pc := 21) (v := 5) d_L_law_21 rfl ?_
      refine ev_isub (pc := 22) d_L_law_22 ?_
      refine ev_icmp_gt (pc := 23) (tgt := 460) d_L_law_23 (by decide) (fun ha => ?_) (fun ha => ?_)
      · refine ev_iconst (pc := 460) (v := 1) d_L_law_460 rfl ?_
        exact ev_zret (pc := 461) d_L_law_461 rfl (Or.inr rfl) (by decide) (by decide) rfl
      have hi5 := lp_cmp hL hi ha
      have hx : ∀ k, k < 5 → vp_in (nI (i + k)) (E.2.2.2.2.2.1 0) := fun k hk => vp_in_nI (by omega) (by omega)
      have next : ∀ C2, I (n + 1) C2 → ev_At E K_L_law 454 [some (.retAddr 0), some (.ref 0), some (.ref 204), some (.int (nI i))] [] (hp_H C2) 229 5352 (fun r _ => r = some (.int 1)) := by
        intro C2 h2
        refine ev_iinc (pc := 454) d_L_law_454 (Nat.le_of_ble_eq_true rfl) rfl (nI_add _ 5) rfl ?_
        try dsimp only [List.set]
        refine ev_goto (pc := 457) (tgt := 18) d_L_law_457 (by decide) ?_
        exact ih (i + 5) (n + 1) (by omega) (by omega) (by omega) C2 h2
      obtain ⟨q, p0, p1, p2, p3, p4, p5, p6, p7, p8, p9, p10, p11, p12, p13⟩ := hI n C (by omega) hC
      refine ev_aload_n (pc := 26) d_L_law_26 rfl rfl (by first | rfl | exact mm_rk_rf _) ?_
      refine ev_iload_n (pc := 27) d_L_law_27 rfl rfl ?_
      refine ev_ialdX (pc := 28) (by decide) (hx 0 (by decide)) d_L_law_28 ?_
      refine ev_bipush (pc := 29) (v := 15) d_L_law_29 (by decide) ?_
      refine ev_iand (pc := 31) d_L_law_31 ?_
      obtain ⟨w, ew⟩ : ∃ w, w = (E.2.2.2.2.2.2 0 (nI i).toNatClampNeg &&& 15) := ⟨_, rfl⟩
      rw [← ew]
      clear ew
      by_cases hr : w.toInt < 0 ∨ 13 < w.toInt
      · refine ev_tableOut (pc := 32) (tgt := 454) d_L_law_32 hr (by decide) ?_
        exact next C q
      by_cases h0 : w = 0
      · subst h0
        refine ev_tableIn (pc := 32) (off := 72) (tgt := 104) d_L_law_32 (by decide) (by decide) (by decide) (by decide) ?_
        obtain ⟨v, C1, C2, M1, M2, h2⟩ := p0 (E.2.2.2.2.2.2 0 (nI (i + 1)).toNatClampNeg) (E.2.2.2.2.2.2 0 (nI (i + 2)).toNatClampNeg)
        refine ev_aload_n (pc := 104) d_L_law_104 rfl rfl (by first | rfl | exact mm_rk_rf _) ?_
        refine ev_aload_n (pc := 105) d_L_law_105 rfl rfl (by first | rfl | exact mm_rk_rf _) ?_
        refine ev_iload_n (pc := 106) d_L_law_106 rfl rfl ?_
        refine ev_iconst (pc := 107) (v := nI 1) d_L_law_107 rfl ?_
        refine ev_iaddN (pc := 108) d_L_law_108 ?_
        refine ev_ialdX (pc := 109) (by decide) (hx 1 (by decide)) d_L_law_109 ?_
        refine ev_aload_n (pc := 110) d_L_law_110 rfl rfl (by first | rfl | exact mm_rk_rf _) ?_
        refine ev_iload_n (pc := 111) d_L_law_111 rfl rfl ?_
        refine ev_iconst (pc := 112) (v := nI 2) d_L_law_112 rfl ?_
        refine ev_iaddN (pc := 113) d_L_law_113 ?_
        refine ev_ialdX (pc := 114) (by decide) (hx 2 (by decide)) d_L_law_114 ?_
        refine ev_cV (pc := 115) M1 cl_L_13 jv_X_member ⟨(Nat.le_of_ble_eq_true rfl), (Nat.le_of_ble_eq_true rfl)⟩ rfl sh_X rfl (Nat.le_of_ble_eq_true rfl) d_L_law_115 (by decide) ?_
        refine ev_aload_n (pc := 118) d_L_law_118 rfl rfl (by first | rfl | exact mm_rk_rf _) ?_
        refine ev_aload_n (pc := 119) d_L_law_119 rfl rfl (by first | rfl | exact mm_rk_rf _) ?_
        refine ev_iload_n (pc := 120) d_L_law_120 rfl rfl ?_
        refine ev_iconst (pc := 121) (v := nI 1) d_L_law_121 rfl ?_
        refine ev_iaddN (pc := 122) d_L_law_122 ?_
        refine ev_ialdX (pc := 123) (by decide) (hx 1 (by decide)) d_L_law_123 ?_
        refine ev_aload_n (pc := 124) d_L_law_124 rfl rfl (by first | rfl | exact mm_rk_rf _) ?_
        refine ev_iload_n (pc := 125) d_L_law_125 rfl rfl ?_
        refine ev_iconst (pc := 126) (v := nI 2) d_L_law_126 rfl ?_
        refine ev_iaddN (pc := 127) d_L_law_127 ?_
        refine ev_ialdX (pc := 128) (by decide) (hx 2 (by decide)) d_L_law_128 ?_
        refine ev_cV (pc := 129) M2 cl_L_17 jv_N_member ⟨(Nat.le_of_ble_eq_true rfl), (Nat.le_of_ble_eq_true rfl)⟩ rfl sh_N rfl (Nat.le_of_ble_eq_true rfl) d_L_law_129 (by decide) ?_
        refine ev_icmp_eq (pc := 132) (tgt := 454) d_L_law_132 (by decide) (fun hz => ?_) (fun hz => ?_)
        · exact next C2 h2
        · exact absurd rfl hz
      by_cases h1 : w = 1
      · subst h1
        refine ev_tableIn (pc := 32) (off := 105) (tgt := 137) d_L_law_32 (by decide) (by decide) (by decide) (by decide) ?_
        obtain ⟨v, C1, C2, M1, M2, h2⟩ := p1 (E.2.2.2.2.2.2 0 (nI (i + 1)).toNatClampNeg)
        refine ev_aload_n (pc := 137) d_L_law_137 rfl rfl (by first | rfl | exact mm_rk_rf _) ?_
        refine ev_aload_n (pc := 138) d_L_law_138 rfl rfl (by first | rfl | exact mm_rk_rf _) ?_
        refine ev_iload_n (pc := 139) d_L_law_139 rfl rfl ?_
        refine ev_iconst (pc := 140) (v := nI 1) d_L_law_140 rfl ?_
        refine ev_iaddN (pc := 141) d_L_law_141 ?_
        refine ev_ialdX (pc := 142) (by decide) (hx 1 (by decide)) d_L_law_142 ?_
        refine ev_cV (pc := 143) M1 cl_L_18 jv_X_say ⟨(Nat.le_of_ble_eq_true rfl), (Nat.le_of_ble_eq_true rfl)⟩ rfl sh_X rfl (Nat.le_of_ble_eq_true rfl) d_L_law_143 (by decide) ?_
        refine ev_aload_n (pc := 146) d_L_law_146 rfl rfl (by first | rfl | exact mm_rk_rf _) ?_
        refine ev_aload_n (pc := 147) d_L_law_147 rfl rfl (by first | rfl | exact mm_rk_rf _) ?_
        refine ev_iload_n (pc := 148) d_L_law_148 rfl rfl ?_
        refine ev_iconst (pc := 149) (v := nI 1) d_L_law_149 rfl ?_
        refine ev_iaddN (pc := 150) d_L_law_150 ?_
        refine ev_ialdX (pc := 151) (by decide) (hx 1 (by decide)) d_L_law_151 ?_
        refine ev_cV (pc := 152) M2 cl_L_22 jv_N_say ⟨(Nat.le_of_ble_eq_true rfl), (Nat.le_of_ble_eq_true rfl)⟩ rfl sh_N rfl (Nat.le_of_ble_eq_true rfl) d_L_law_152 (by decide) ?_
        refine ev_icmp_eq (pc := 155) (tgt := 454) d_L_law_155 (by decide) (fun hz => ?_) (fun hz => ?_)
        · exact next C2 h2
        · exact absurd rfl hz
      by_cases h2 : w = 2
      · subst h2
        refine ev_tableIn (pc := 32) (off := 128) (tgt := 160) d_L_law_32 (by decide) (by decide) (by decide) (by decide) ?_
        obtain ⟨v, C1, C2, M1, M2, h2⟩ := p2 (E.2.2.2.2.2.2 0 (nI (i + 1)).toNatClampNeg) (E.2.2.2.2.2.2 0 (nI (i + 2)).toNatClampNeg) (E.2.2.2.2.2.2 0 (nI (i + 3)).toNatClampNeg) (E.2.2.2.2.2.2 0 (nI (i + 4)).toNatClampNeg)
        refine ev_aload_n (pc := 160) d_L_law_160 rfl rfl (by first | rfl | exact mm_rk_rf _) ?_
        refine ev_aload_n (pc := 161) d_L_law_161 rfl rfl (by first | rfl | exact mm_rk_rf _) ?_
        refine ev_iload_n (pc := 162) d_L_law_162 rfl rfl ?_
        refine ev_iconst (pc := 163) (v := nI 1) d_L_law_163 rfl ?_
        refine ev_iaddN (pc := 164) d_L_law_164 ?_
        refine ev_ialdX (pc := 165) (by decide) (hx 1 (by decide)) d_L_law_165 ?_
        refine ev_aload_n (pc := 166) d_L_law_166 rfl rfl (by first | rfl | exact mm_rk_rf _) ?_
        refine ev_iload_n (pc := 167) d_L_law_167 rfl rfl ?_
        refine ev_iconst (pc := 168) (v := nI 2) d_L_law_168 rfl ?_
        refine ev_iaddN (pc := 169) d_L_law_169 ?_
        refine ev_ialdX (pc := 170) (by decide) (hx 2 (by decide)) d_L_law_170 ?_
        refine ev_aload_n (pc := 171) d_L_law_171 rfl rfl (by first | rfl | exact mm_rk_rf _) ?_
        refine ev_iload_n (pc := 172) d_L_law_172 rfl rfl ?_
        refine ev_iconst (pc := 173) (v := nI 3) d_L_law_173 rfl ?_
        refine ev_iaddN (pc := 174) d_L_law_174 ?_
        refine ev_ialdX (pc := 175) (by decide) (hx 3 (by decide)) d_L_law_175 ?_
        refine ev_aload_n (pc := 176) d_L_law_176 rfl rfl (by first | rfl | exact mm_rk_rf _) ?_
        refine ev_iload_n (pc := 177) d_L_law_177 rfl rfl ?_
        refine ev_iconst (pc := 178) (v := nI 4) d_L_law_178 rfl ?_
        refine ev_iaddN (pc := 179) d_L_law_179 ?_
        refine ev_ialdX (pc := 180) (by decide) (hx 4 (by decide)) d_L_law_180 ?_
        refine ev_cV (pc := 181) M1 cl_L_23 jv_X_send ⟨(Nat.le_of_ble_eq_true rfl), (Nat.le_of_ble_eq_true rfl)⟩ rfl sh_X rfl (Nat.le_of_ble_eq_true rfl) d_L_law_181 (by decide) ?_
        refine ev_aload_n (pc := 184) d_L_law_184 rfl rfl (by first | rfl | exact mm_rk_rf _) ?_
        refine ev_aload_n (pc := 185) d_L_law_185 rfl rfl (by first | rfl | exact mm_rk_rf _) ?_
        refine ev_iload_n (pc := 186) d_L_law_186 rfl rfl ?_
        refine ev_iconst (pc := 187) (v := nI 1) d_L_law_187 rfl ?_
        refine ev_iaddN (pc := 188) d_L_law_188 ?_
        refine ev_ialdX (pc := 189) (by decide) (hx 1 (by decide)) d_L_law_189 ?_
        refine ev_aload_n (pc := 190) d_L_law_190 rfl rfl (by first | rfl | exact mm_rk_rf _) ?_
        refine ev_iload_n (pc := 191) d_L_law_191 rfl rfl ?_
        refine ev_iconst (pc := 192) (v := nI 2) d_L_law_192 rfl ?_
        refine ev_iaddN (pc := 193) d_L_law_193 ?_
        refine ev_ialdX (pc := 194) (by decide) (hx 2 (by decide)) d_L_law_194 ?_
        refine ev_aload_n (pc := 195) d_L_law_195 rfl rfl (by first | rfl | exact mm_rk_rf _) ?_
        refine ev_iload_n (pc := 196) d_L_law_196 rfl rfl ?_
        refine ev_iconst (pc := 197) (v := nI 3) d_L_law_197 rfl ?_
        refine ev_iaddN (pc := 198) d_L_law_198 ?_
        refine ev_ialdX (pc := 199) (by decide) (hx 3 (by decide)) d_L_law_199 ?_
        refine ev_aload_n (pc := 200) d_L_law_200 rfl rfl (by first | rfl | exact mm_rk_rf _) ?_
        refine ev_iload_n (pc := 201) d_L_law_201 rfl rfl ?_
        refine ev_iconst (pc := 202) (v := nI 4) d_L_law_202 rfl ?_
        refine ev_iaddN (pc := 203) d_L_law_203 ?_
        refine ev_ialdX (pc := 204) (by decide) (hx 4 (by decide)) d_L_law_204 ?_
        refine ev_cV (pc := 205) M2 cl_L_27 jv_N_send ⟨(Nat.le_of_ble_eq_true rfl), (Nat.le_of_ble_eq_true rfl)⟩ rfl sh_N rfl (Nat.le_of_ble_eq_true rfl) d_L_law_205 (by decide) ?_
        refine ev_icmp_eq (pc := 208) (tgt := 454) d_L_law_208 (by decide) (fun hz => ?_) (fun hz => ?_)
        · exact next C2 h2
        · exact absurd rfl hz
      by_cases h3 : w = 3
      · subst h3
        refine ev_tableIn (pc := 32) (off := 181) (tgt := 213) d_L_law_32 (by decide) (by decide) (by decide) (by decide) ?_
        obtain ⟨v, C1, C2, M1, M2, h2⟩ := p3 (E.2.2.2.2.2.2 0 (nI (i + 1)).toNatClampNeg) (E.2.2.2.2.2.2 0 (nI (i + 2)).toNatClampNeg)
        refine ev_aload_n (pc := 213) d_L_law_213 rfl rfl (by first | rfl | exact mm_rk_rf _) ?_
        refine ev_aload_n (pc := 214) d_L_law_214 rfl rfl (by first | rfl | exact mm_rk_rf _) ?_
        refine ev_iload_n (pc := 215) d_L_law_215 rfl rfl ?_
        refine ev_iconst (pc := 216) (v := nI 1) d_L_law_216 rfl ?_
        refine ev_iaddN (pc := 217) d_L_law_217 ?_
        refine ev_ialdX (pc := 218) (by decide) (hx 1 (by decide)) d_L_law_218 ?_
        refine ev_aload_n (pc := 219) d_L_law_219 rfl rfl (by first | rfl | exact mm_rk_rf _) ?_
        refine ev_iload_n (pc := 220) d_L_law_220 rfl rfl ?_
        refine ev_iconst (pc := 221) (v := nI 2) d_L_law_221 rfl ?_
        refine ev_iaddN (pc := 222) d_L_law_222 ?_
        refine ev_ialdX (pc := 223) (by decide) (hx 2 (by decide)) d_L_law_223 ?_
        refine ev_cV (pc := 224) M1 cl_L_28 jv_X_serve ⟨(Nat.le_of_ble_eq_true rfl), (Nat.le_of_ble_eq_true rfl)⟩ rfl sh_X rfl (Nat.le_of_ble_eq_true rfl) d_L_law_224 (by decide) ?_
        refine ev_aload_n (pc := 227) d_L_law_227 rfl rfl (by first | rfl | exact mm_rk_rf _) ?_
        refine ev_aload_n (pc := 228) d_L_law_228 rfl rfl (by first | rfl | exact mm_rk_rf _) ?_
        refine ev_iload_n (pc := 229) d_L_law_229 rfl rfl ?_
        refine ev_iconst (pc := 230) (v := nI 1) d_L_law_230 rfl ?_
        refine ev_iaddN (pc := 231) d_L_law_231 ?_
        refine ev_ialdX (pc := 232) (by decide) (hx 1 (by decide)) d_L_law_232 ?_
        refine ev_aload_n (pc := 233) d_L_law_233 rfl rfl (by first | rfl | exact mm_rk_rf _) ?_
        refine ev_iload_n (pc := 234) d_L_law_234 rfl rfl ?_
        refine ev_iconst (pc := 235) (v := nI 2) d_L_law_235 rfl ?_
        refine ev_iaddN (pc := 236) d_L_law_236 ?_
        refine ev_ialdX (pc := 237) (by decide) (hx 2 (by decide)) d_L_law_237 ?_
        refine ev_cV (pc := 238) M2 cl_L_32 jv_N_serve ⟨(Nat.le_of_ble_eq_true rfl), (Nat.le_of_ble_eq_true rfl)⟩ rfl sh_N rfl (Nat.le_of_ble_eq_true rfl) d_L_law_238 (by decide) ?_
        refine ev_icmp_eq (pc := 241) (tgt := 454) d_L_law_241 (by decide) (fun hz => ?_) (fun hz => ?_)
        · exact next C2 h2
        · exact absurd rfl hz
      by_cases h4 : w = 4
      · subst h4
        refine ev_tableIn (pc := 32) (off := 214) (tgt := 246) d_L_law_32 (by decide) (by decide) (by decide) (by decide) ?_
        obtain ⟨v, C1, C2, M1, M2, h2⟩ := p4 (E.2.2.2.2.2.2 0 (nI (i + 1)).toNatClampNeg) (E.2.2.2.2.2.2 0 (nI (i + 2)).toNatClampNeg)
        refine ev_aload_n (pc := 246) d_L_law_246 rfl rfl (by first | rfl | exact mm_rk_rf _) ?_
        refine ev_aload_n (pc := 247) d_L_law_247 rfl rfl (by first | rfl | exact mm_rk_rf _) ?_
        refine ev_iload_n (pc := 248) d_L_law_248 rfl rfl ?_
        refine ev_iconst (pc := 249) (v := nI 1) d_L_law_249 rfl ?_
        refine ev_iaddN (pc := 250) d_L_law_250 ?_
        refine ev_ialdX (pc := 251) (by decide) (hx 1 (by decide)) d_L_law_251 ?_
        refine ev_aload_n (pc := 252) d_L_law_252 rfl rfl (by first | rfl | exact mm_rk_rf _) ?_
        refine ev_iload_n (pc := 253) d_L_law_253 rfl rfl ?_
        refine ev_iconst (pc := 254) (v := nI 2) d_L_law_254 rfl ?_
        refine ev_iaddN (pc := 255) d_L_law_255 ?_
        refine ev_ialdX (pc := 256) (by decide) (hx 2 (by decide)) d_L_law_256 ?_
        refine ev_cV (pc := 257) M1 cl_L_33 jv_X_flush ⟨(Nat.le_of_ble_eq_true rfl), (Nat.le_of_ble_eq_true rfl)⟩ rfl sh_X rfl (Nat.le_of_ble_eq_true rfl) d_L_law_257 (by decide) ?_
        refine ev_aload_n (pc := 260) d_L_law_260 rfl rfl (by first | rfl | exact mm_rk_rf _) ?_
        refine ev_aload_n (pc := 261) d_L_law_261 rfl rfl (by first | rfl | exact mm_rk_rf _) ?_
        refine ev_iload_n (pc := 262) d_L_law_262 rfl rfl ?_
        refine ev_iconst (pc := 263) (v := nI 1) d_L_law_263 rfl ?_
        refine ev_iaddN (pc := 264) d_L_law_264 ?_
        refine ev_ialdX (pc := 265) (by decide) (hx 1 (by decide)) d_L_law_265 ?_
        refine ev_aload_n (pc := 266) d_L_law_266 rfl rfl (by first | rfl | exact mm_rk_rf _) ?_
        refine ev_iload_n (pc := 267) d_L_law_267 rfl rfl ?_
        refine ev_iconst (pc := 268) (v := nI 2) d_L_law_268 rfl ?_
        refine ev_iaddN (pc := 269) d_L_law_269 ?_
        refine ev_ialdX (pc := 270) (by decide) (hx 2 (by decide)) d_L_law_270 ?_
        refine ev_cV (pc := 271) M2 cl_L_36 jv_N_flush ⟨(Nat.le_of_ble_eq_true rfl), (Nat.le_of_ble_eq_true rfl)⟩ rfl sh_N rfl (Nat.le_of_ble_eq_true rfl) d_L_law_271 (by decide) ?_
        refine ev_icmp_eq (pc := 274) (tgt := 454) d_L_law_274 (by decide) (fun hz => ?_) (fun hz => ?_)
        · exact next C2 h2
        · exact absurd rfl hz
      by_cases h5 : w = 5
      · subst h5
        refine ev_tableIn (pc := 32) (off := 247) (tgt := 279) d_L_law_32 (by decide) (by decide) (by decide) (by decide) ?_
        obtain ⟨v, C1, C2, M1, M2, h2⟩ := p5 (E.2.2.2.2.2.2 0 (nI (i + 1)).toNatClampNeg)
        refine ev_aload_n (pc := 279) d_L_law_279 rfl rfl (by first | rfl | exact mm_rk_rf _) ?_
        refine ev_aload_n (pc := 280) d_L_law_280 rfl rfl (by first | rfl | exact mm_rk_rf _) ?_
        refine ev_iload_n (pc := 281) d_L_law_281 rfl rfl ?_
        refine ev_iconst (pc := 282) (v := nI 1) d_L_law_282 rfl ?_
        refine ev_iaddN (pc := 283) d_L_law_283 ?_
        refine ev_ialdX (pc := 284) (by decide) (hx 1 (by decide)) d_L_law_284 ?_
        refine ev_cV (pc := 285) M1 cl_L_37 jv_X_hangUp ⟨(Nat.le_of_ble_eq_true rfl), (Nat.le_of_ble_eq_true rfl)⟩ rfl sh_X rfl (Nat.le_of_ble_eq_true rfl) d_L_law_285 (by decide) ?_
        refine ev_aload_n (pc := 288) d_L_law_288 rfl rfl (by first | rfl | exact mm_rk_rf _) ?_
        refine ev_aload_n (pc := 289) d_L_law_289 rfl rfl (by first | rfl | exact mm_rk_rf _) ?_
        refine ev_iload_n (pc := 290) d_L_law_290 rfl rfl ?_
        refine ev_iconst (pc := 291) (v := nI 1) d_L_law_291 rfl ?_
        refine ev_iaddN (pc := 292) d_L_law_292 ?_
        refine ev_ialdX (pc := 293) (by decide) (hx 1 (by decide)) d_L_law_293 ?_
        refine ev_cV (pc := 294) M2 cl_L_40 jv_N_hangUp ⟨(Nat.le_of_ble_eq_true rfl), (Nat.le_of_ble_eq_true rfl)⟩ rfl sh_N rfl (Nat.le_of_ble_eq_true rfl) d_L_law_294 (by decide) ?_
        refine ev_icmp_eq (pc := 297) (tgt := 454) d_L_law_297 (by decide) (fun hz => ?_) (fun hz => ?_)
        · exact next C2 h2
        · exact absurd rfl hz
      by_cases h6 : w = 6
      · subst h6
        refine ev_tableIn (pc := 32) (off := 270) (tgt := 302) d_L_law_32 (by decide) (by decide) (by decide) (by decide) ?_
        obtain ⟨v, C1, C2, M1, M2, h2⟩ := p6 (E.2.2.2.2.2.2 0 (nI (i + 1)).toNatClampNeg)
        refine ev_aload_n (pc := 302) d_L_law_302 rfl rfl (by first | rfl | exact mm_rk_rf _) ?_
        refine ev_aload_n (pc := 303) d_L_law_303 rfl rfl (by first | rfl | exact mm_rk_rf _) ?_
        refine ev_iload_n (pc := 304) d_L_law_304 rfl rfl ?_
        refine ev_iconst (pc := 305) (v := nI 1) d_L_law_305 rfl ?_
        refine ev_iaddN (pc := 306) d_L_law_306 ?_
        refine ev_ialdX (pc := 307) (by decide) (hx 1 (by decide)) d_L_law_307 ?_
        refine ev_cV (pc := 308) M1 cl_L_41 jv_X_reply ⟨(Nat.le_of_ble_eq_true rfl), (Nat.le_of_ble_eq_true rfl)⟩ rfl sh_X rfl (Nat.le_of_ble_eq_true rfl) d_L_law_308 (by decide) ?_
        refine ev_aload_n (pc := 311) d_L_law_311 rfl rfl (by first | rfl | exact mm_rk_rf _) ?_
        refine ev_aload_n (pc := 312) d_L_law_312 rfl rfl (by first | rfl | exact mm_rk_rf _) ?_
        refine ev_iload_n (pc := 313) d_L_law_313 rfl rfl ?_
        refine ev_iconst (pc := 314) (v := nI 1) d_L_law_314 rfl ?_
        refine ev_iaddN (pc := 315) d_L_law_315 ?_
        refine ev_ialdX (pc := 316) (by decide) (hx 1 (by decide)) d_L_law_316 ?_
        refine ev_cV (pc := 317) M2 cl_L_45 jv_N_reply ⟨(Nat.le_of_ble_eq_true rfl), (Nat.le_of_ble_eq_true rfl)⟩ rfl sh_N rfl (Nat.le_of_ble_eq_true rfl) d_L_law_317 (by decide) ?_
        refine ev_icmp_eq (pc := 320) (tgt := 454) d_L_law_320 (by decide) (fun hz => ?_) (fun hz => ?_)
        · exact next C2 h2
        · exact absurd rfl hz
      by_cases h7 : w = 7
      · subst h7
        refine ev_tableIn (pc := 32) (off := 293) (tgt := 325) d_L_law_32 (by decide) (by decide) (by decide) (by decide) ?_
        obtain ⟨v, C1, C2, M1, M2, h2⟩ := p7 (E.2.2.2.2.2.2 0 (nI (i + 1)).toNatClampNeg)
        refine ev_aload_n (pc := 325) d_L_law_325 rfl rfl (by first | rfl | exact mm_rk_rf _) ?_
        refine ev_aload_n (pc := 326) d_L_law_326 rfl rfl (by first | rfl | exact mm_rk_rf _) ?_
        refine ev_iload_n (pc := 327) d_L_law_327 rfl rfl ?_
        refine ev_iconst (pc := 328) (v := nI 1) d_L_law_328 rfl ?_
        refine ev_iaddN (pc := 329) d_L_law_329 ?_
        refine ev_ialdX (pc := 330) (by decide) (hx 1 (by decide)) d_L_law_330 ?_
        refine ev_cV (pc := 331) M1 cl_L_46 jv_X_waiting ⟨(Nat.le_of_ble_eq_true rfl), (Nat.le_of_ble_eq_true rfl)⟩ rfl sh_X rfl (Nat.le_of_ble_eq_true rfl) d_L_law_331 (by decide) ?_
        refine ev_aload_n (pc := 334) d_L_law_334 rfl rfl (by first | rfl | exact mm_rk_rf _) ?_
        refine ev_aload_n (pc := 335) d_L_law_335 rfl rfl (by first | rfl | exact mm_rk_rf _) ?_
        refine ev_iload_n (pc := 336) d_L_law_336 rfl rfl ?_
        refine ev_iconst (pc := 337) (v := nI 1) d_L_law_337 rfl ?_
        refine ev_iaddN (pc := 338) d_L_law_338 ?_
        refine ev_ialdX (pc := 339) (by decide) (hx 1 (by decide)) d_L_law_339 ?_
        refine ev_cV (pc := 340) M2 cl_L_49 jv_N_waiting ⟨(Nat.le_of_ble_eq_true rfl), (Nat.le_of_ble_eq_true rfl)⟩ rfl sh_N rfl (Nat.le_of_ble_eq_true rfl) d_L_law_340 (by decide) ?_
        refine ev_icmp_eq (pc := 343) (tgt := 454) d_L_law_343 (by decide) (fun hz => ?_) (fun hz => ?_)
        · exact next C2 h2
        · exact absurd rfl hz
      by_cases h8 : w = 8
      · subst h8
        refine ev_tableIn (pc := 32) (off := 316) (tgt := 348) d_L_law_32 (by decide) (by decide) (by decide) (by decide) ?_
        obtain ⟨v, C1, C2, M1, M2, h2⟩ := p8 (E.2.2.2.2.2.2 0 (nI (i + 1)).toNatClampNeg) (E.2.2.2.2.2.2 0 (nI (i + 2)).toNatClampNeg)
        refine ev_aload_n (pc := 348) d_L_law_348 rfl rfl (by first | rfl | exact mm_rk_rf _) ?_
        refine ev_aload_n (pc := 349) d_L_law_349 rfl rfl (by first | rfl | exact mm_rk_rf _) ?_
        refine ev_iload_n (pc := 350) d_L_law_350 rfl rfl ?_
        refine ev_iconst (pc := 351) (v := nI 1) d_L_law_351 rfl ?_
        refine ev_iaddN (pc := 352) d_L_law_352 ?_
        refine ev_ialdX (pc := 353) (by decide) (hx 1 (by decide)) d_L_law_353 ?_
        refine ev_aload_n (pc := 354) d_L_law_354 rfl rfl (by first | rfl | exact mm_rk_rf _) ?_
        refine ev_iload_n (pc := 355) d_L_law_355 rfl rfl ?_
        refine ev_iconst (pc := 356) (v := nI 2) d_L_law_356 rfl ?_
        refine ev_iaddN (pc := 357) d_L_law_357 ?_
        refine ev_ialdX (pc := 358) (by decide) (hx 2 (by decide)) d_L_law_358 ?_
        refine ev_cV (pc := 359) M1 cl_L_50 jv_X_fid ⟨(Nat.le_of_ble_eq_true rfl), (Nat.le_of_ble_eq_true rfl)⟩ rfl sh_X rfl (Nat.le_of_ble_eq_true rfl) d_L_law_359 (by decide) ?_
        refine ev_aload_n (pc := 362) d_L_law_362 rfl rfl (by first | rfl | exact mm_rk_rf _) ?_
        refine ev_aload_n (pc := 363) d_L_law_363 rfl rfl (by first | rfl | exact mm_rk_rf _) ?_
        refine ev_iload_n (pc := 364) d_L_law_364 rfl rfl ?_
        refine ev_iconst (pc := 365) (v := nI 1) d_L_law_365 rfl ?_
        refine ev_iaddN (pc := 366) d_L_law_366 ?_
        refine ev_ialdX (pc := 367) (by decide) (hx 1 (by decide)) d_L_law_367 ?_
        refine ev_aload_n (pc := 368) d_L_law_368 rfl rfl (by first | rfl | exact mm_rk_rf _) ?_
        refine ev_iload_n (pc := 369) d_L_law_369 rfl rfl ?_
        refine ev_iconst (pc := 370) (v := nI 2) d_L_law_370 rfl ?_
        refine ev_iaddN (pc := 371) d_L_law_371 ?_
        refine ev_ialdX (pc := 372) (by decide) (hx 2 (by decide)) d_L_law_372 ?_
        refine ev_cV (pc := 373) M2 cl_L_53 jv_N_fid ⟨(Nat.le_of_ble_eq_true rfl), (Nat.le_of_ble_eq_true rfl)⟩ rfl sh_N rfl (Nat.le_of_ble_eq_true rfl) d_L_law_373 (by decide) ?_
        refine ev_icmp_eq (pc := 376) (tgt := 454) d_L_law_376 (by decide) (fun hz => ?_) (fun hz => ?_)
        · exact next C2 h2
        · exact absurd rfl hz
      by_cases h9 : w = 9
      · subst h9
        refine ev_tableIn (pc := 32) (off := 349) (tgt := 381) d_L_law_32 (by decide) (by decide) (by decide) (by decide) ?_
        obtain ⟨v, C1, C2, M1, M2, h2⟩ := p9 (E.2.2.2.2.2.2 0 (nI (i + 1)).toNatClampNeg)
        refine ev_aload_n (pc := 381) d_L_law_381 rfl rfl (by first | rfl | exact mm_rk_rf _) ?_
        refine ev_aload_n (pc := 382) d_L_law_382 rfl rfl (by first | rfl | exact mm_rk_rf _) ?_
        refine ev_iload_n (pc := 383) d_L_law_383 rfl rfl ?_
        refine ev_iconst (pc := 384) (v := nI 1) d_L_law_384 rfl ?_
        refine ev_iaddN (pc := 385) d_L_law_385 ?_
        refine ev_ialdX (pc := 386) (by decide) (hx 1 (by decide)) d_L_law_386 ?_
        refine ev_cV (pc := 387) M1 cl_L_54 jv_X_sync ⟨(Nat.le_of_ble_eq_true rfl), (Nat.le_of_ble_eq_true rfl)⟩ rfl sh_X rfl (Nat.le_of_ble_eq_true rfl) d_L_law_387 (by decide) ?_
        refine ev_aload_n (pc := 390) d_L_law_390 rfl rfl (by first | rfl | exact mm_rk_rf _) ?_
        refine ev_aload_n (pc := 391) d_L_law_391 rfl rfl (by first | rfl | exact mm_rk_rf _) ?_
        refine ev_iload_n (pc := 392) d_L_law_392 rfl rfl ?_
        refine ev_iconst (pc := 393) (v := nI 1) d_L_law_393 rfl ?_
        refine ev_iaddN (pc := 394) d_L_law_394 ?_
        refine ev_ialdX (pc := 395) (by decide) (hx 1 (by decide)) d_L_law_395 ?_
        refine ev_cV (pc := 396) M2 cl_L_57 jv_N_sync ⟨(Nat.le_of_ble_eq_true rfl), (Nat.le_of_ble_eq_true rfl)⟩ rfl sh_N rfl (Nat.le_of_ble_eq_true rfl) d_L_law_396 (by decide) ?_
        refine ev_icmp_eq (pc := 399) (tgt := 454) d_L_law_399 (by decide) (fun hz => ?_) (fun hz => ?_)
        · exact next C2 h2
        · exact absurd rfl hz
      by_cases h10 : w = 10
      · subst h10
        refine ev_tableIn (pc := 32) (off := 372) (tgt := 404) d_L_law_32 (by decide) (by decide) (by decide) (by decide) ?_
        obtain ⟨v, C1, C2, M1, M2, h2⟩ := p10
        refine ev_aload_n (pc := 404) d_L_law_404 rfl rfl (by first | rfl | exact mm_rk_rf _) ?_
        refine ev_cV (pc := 405) M1 cl_L_58 jv_X_snapshot ⟨(Nat.le_of_ble_eq_true rfl), (Nat.le_of_ble_eq_true rfl)⟩ rfl sh_X rfl (Nat.le_of_ble_eq_true rfl) d_L_law_405 (by decide) ?_
        refine ev_aload_n (pc := 408) d_L_law_408 rfl rfl (by first | rfl | exact mm_rk_rf _) ?_
        refine ev_cV (pc := 409) M2 cl_L_62 jv_N_snapshot ⟨(Nat.le_of_ble_eq_true rfl), (Nat.le_of_ble_eq_true rfl)⟩ rfl sh_N rfl (Nat.le_of_ble_eq_true rfl) d_L_law_409 (by decide) ?_
        refine ev_icmp_eq (pc := 412) (tgt := 454) d_L_law_412 (by decide) (fun hz => ?_) (fun hz => ?_)
        · exact next C2 h2
        · exact absurd rfl hz
      by_cases h11 : w = 11
      · subst h11
        refine ev_tableIn (pc := 32) (off := 385) (tgt := 417) d_L_law_32 (by decide) (by decide) (by decide) (by decide) ?_
        obtain ⟨C1, C2, M1, M2, h2⟩ := p11
        refine ev_aload_n (pc := 417) d_L_law_417 rfl rfl (by first | rfl | exact mm_rk_rf _) ?_
        refine ev_cVv (pc := 418) M1 cl_L_63 jv_X_crash ⟨(Nat.le_of_ble_eq_true rfl), (Nat.le_of_ble_eq_true rfl)⟩ rfl sh_X rfl (Nat.le_of_ble_eq_true rfl) d_L_law_418 (by decide) ?_
        refine ev_aload_n (pc := 421) d_L_law_421 rfl rfl (by first | rfl | exact mm_rk_rf _) ?_
        refine ev_cVv (pc := 422) M2 cl_L_66 jv_N_crash ⟨(Nat.le_of_ble_eq_true rfl), (Nat.le_of_ble_eq_true rfl)⟩ rfl sh_N rfl (Nat.le_of_ble_eq_true rfl) d_L_law_422 (by decide) ?_
        refine ev_goto (pc := 425) (tgt := 454) d_L_law_425 (by decide) ?_
        exact next C2 h2
      by_cases h12 : w = 12
      · subst h12
        refine ev_tableIn (pc := 32) (off := 396) (tgt := 428) d_L_law_32 (by decide) (by decide) (by decide) (by decide) ?_
        obtain ⟨v, C1, C2, M1, M2, h2⟩ := p12
        refine ev_aload_n (pc := 428) d_L_law_428 rfl rfl (by first | rfl | exact mm_rk_rf _) ?_
        refine ev_cV (pc := 429) M1 cl_L_67 jv_X_blocks ⟨(Nat.le_of_ble_eq_true rfl), (Nat.le_of_ble_eq_true rfl)⟩ rfl sh_X rfl (Nat.le_of_ble_eq_true rfl) d_L_law_429 (by decide) ?_
        refine ev_aload_n (pc := 432) d_L_law_432 rfl rfl (by first | rfl | exact mm_rk_rf _) ?_
        refine ev_cV (pc := 433) M2 cl_L_70 jv_N_blocks ⟨(Nat.le_of_ble_eq_true rfl), (Nat.le_of_ble_eq_true rfl)⟩ rfl sh_N rfl (Nat.le_of_ble_eq_true rfl) d_L_law_433 (by decide) ?_
        refine ev_icmp_eq (pc := 436) (tgt := 454) d_L_law_436 (by decide) (fun hz => ?_) (fun hz => ?_)
        · exact next C2 h2
        · exact absurd rfl hz
      by_cases h13 : w = 13
      · subst h13
        refine ev_tableIn (pc := 32) (off := 409) (tgt := 441) d_L_law_32 (by decide) (by decide) (by decide) (by decide) ?_
        obtain ⟨v, C1, C2, M1, M2, h2⟩ := p13
        refine ev_aload_n (pc := 441) d_L_law_441 rfl rfl (by first | rfl | exact mm_rk_rf _) ?_
        refine ev_cV (pc := 442) M1 cl_L_71 jv_X_nodes ⟨(Nat.le_of_ble_eq_true rfl), (Nat.le_of_ble_eq_true rfl)⟩ rfl sh_X rfl (Nat.le_of_ble_eq_true rfl) d_L_law_442 (by decide) ?_
        refine ev_aload_n (pc := 445) d_L_law_445 rfl rfl (by first | rfl | exact mm_rk_rf _) ?_
        refine ev_cV (pc := 446) M2 cl_L_74 jv_N_nodes ⟨(Nat.le_of_ble_eq_true rfl), (Nat.le_of_ble_eq_true rfl)⟩ rfl sh_N rfl (Nat.le_of_ble_eq_true rfl) d_L_law_446 (by decide) ?_
        refine ev_icmp_eq (pc := 449) (tgt := 454) d_L_law_449 (by decide) (fun hz => ?_) (fun hz => ?_)
        · exact next C2 h2
        · exact absurd rfl hz
      have hw : ∀ z : Int32, ¬ (z.toInt < 0 ∨ 13 < z.toInt) → z = 0 ∨ z = 1 ∨ z = 2 ∨ z = 3 ∨ z = 4 ∨ z = 5 ∨ z = 6 ∨ z = 7 ∨ z = 8 ∨ z = 9 ∨ z = 10 ∨ z = 11 ∨ z = 12 ∨ z = 13 := by
        intro z hz
        have h1 : 0 ≤ z.toInt ∧ z.toInt < 14 := by omega
        obtain ⟨j, hj, rfl⟩ := vp_in_of (n := 14) (vp_in_iff.mpr h1) (by decide)
        rcases (show j = 0 ∨ j = 1 ∨ j = 2 ∨ j = 3 ∨ j = 4 ∨ j = 5 ∨ j = 6 ∨ j = 7 ∨ j = 8 ∨ j = 9 ∨ j = 10 ∨ j = 11 ∨ j = 12 ∨ j = 13 by omega) with rfl | rfl | rfl | rfl | rfl | rfl | rfl | rfl | rfl | rfl | rfl | rfl | rfl | rfl <;> decide
      rcases hw w hr with z | z | z | z | z | z | z | z | z | z | z | z | z | z
      · exact absurd z h0
      · exact absurd z h1
      · exact absurd z h2
      · exact absurd z h3
      · exact absurd z h4
      · exact absurd z h5
      · exact absurd z h6
      · exact absurd z h7
      · exact absurd z h8
      · exact absurd z h9
      · exact absurd z h10
      · exact absurd z h11
      · exact absurd z h12
      · exact absurd z h13
  refine ev_new (pc := 0) mm_cfs nc_L_7 d_L_law_0 (by decide) (by decide) ?_
  refine ev_dup (pc := 3) d_L_law_3 (by rfl) ?_
  refine ev_callI (pc := 4) (ct_X_init E) rfl cl_L_9 jf_X_init ji_X_init ⟨(Nat.le_of_ble_eq_true rfl), (Nat.le_of_ble_eq_true rfl)⟩ rfl rfl (Nat.le_of_ble_eq_true rfl) d_L_law_4 (by decide) (fun r h' hd => ?_)
  obtain ⟨rfl, rfl⟩ := hd
  refine ev_astore_n (pc := 7) d_L_law_7 rfl (by first | rfl | exact mm_rk_rf _) (Nat.le_of_ble_eq_true rfl) rfl ?_
  try dsimp only [List.set]
  refine ev_new (pc := 8) mm_cfs nc_L_10 d_L_law_8 (by decide) (by decide) ?_
  rw [mk_Xl]
  refine ev_dup (pc := 11) d_L_law_11 (by rfl) ?_
  refine ev_callI (pc := 12) (ct_N_init E) rfl cl_L_12 jf_N_init ji_N_init ⟨(Nat.le_of_ble_eq_true rfl), (Nat.le_of_ble_eq_true rfl)⟩ rfl rfl (Nat.le_of_ble_eq_true rfl) d_L_law_12 (by decide) (fun r h' hd => ?_)
  obtain ⟨rfl, rfl⟩ := hd
  refine ev_astore_n (pc := 15) d_L_law_15 rfl (by first | rfl | exact mm_rk_rf _) (Nat.le_of_ble_eq_true rfl) rfl ?_
  try dsimp only [List.set]
  refine ev_iconst (pc := 16) (v := nI 0) d_L_law_16 rfl ?_
  refine ev_istore_n (pc := 17) d_L_law_17 rfl (Nat.le_of_ble_eq_true rfl) rfl ?_
  try dsimp only [List.set]
  exact loop 2565 0 0 (by omega) rfl (by omega) mk_C h0
