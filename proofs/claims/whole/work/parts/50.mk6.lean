/-! The reference's constructor, its loops. -/
def mk_m (C : Nat → Nat → Int32) : Nat → Nat → Int32 := cs_C (cs_C (cs_C (cs_C C 205 0 1) 205 5 1) 205 10 1) 205 15 1
def mk_t (C : Nat → Nat → Int32) (t : Nat) : Nat → Nat → Int32 := cs_C (cs_C (cs_C (cs_C C 206 t 1) 213 (20 * t) 2559) 208 (20 * t) (-1)) 215 (20 * t) 0
/-- all ints behind the two constructors -/
def mk_C : Nat → Nat → Int32 := nf_C (mk_t (mk_t (mk_m mk_C1) 0) 1)
set_option maxRecDepth 20000 in
theorem ct_N_init (E : mm_En) : mm_MT E K_N_init [.ref 204] (mk_X ++ [.inr (9, [.null, .null, .null, .null, .null, .null, .null, .null, .null, .null, .null, .null, .int 0, .int 0, .int 0, .null, .null, .null, .null, .null, .null, .null, .null, .null, .int 0, .null, .int 0, .null, .null, .int 0])]) (mk_D (hp_H mk_C)) := by
  refine mm_mtL (by decide) (by rfl) (Nat.le_of_ble_eq_true rfl) rfl ?_
  have h1 := mk_n1 E mk_X (mk_D (hp_H mk_C))
  rw [mk_Xl] at h1
  refine h1 ?_
  rw [mk_XN]
  refine ev_iconst (pc := 205) (v := nI 0) d_N_init_205 rfl ?_
  refine ev_istore_n (pc := 206) d_N_init_206 rfl (Nat.le_of_ble_eq_true rfl) rfl ?_
  try dsimp only [List.set]
  refine ev_iload_n (pc := 207) d_N_init_207 rfl rfl ?_
  refine ev_iconst (pc := 208) (v := 4) d_N_init_208 rfl ?_
  refine ev_icmp_ge (pc := 209) (tgt := 229) d_N_init_209 (by decide) (fun ha => ?_) (fun ha => ?_)
  · exact absurd ha (by decide)
  refine ev_aload_n (pc := 212) d_N_init_212 rfl rfl (by first | rfl | exact mm_rk_rf _) ?_
  refine ev_gR (pc := 213) sh_N (by rfl) fl_N_7 d_N_init_213 ?_
  refine ev_iconst (pc := 216) (v := nI 4) d_N_init_216 rfl ?_
  refine ev_iload_n (pc := 217) d_N_init_217 rfl rfl ?_
  first | refine ev_imulN (pc := 218) d_N_init_218 ?_ | refine ev_imul (pc := 218) d_N_init_218 ?_
  refine ev_iload_n (pc := 219) d_N_init_219 rfl rfl ?_
  first | refine ev_iaddN (pc := 220) d_N_init_220 ?_ | refine ev_iadd (pc := 220) d_N_init_220 ?_
  refine ev_iconst (pc := 221) (v := 1) d_N_init_221 rfl ?_
  refine ev_wZN (pc := 222) sh_N_members (by omega) (by decide) (by rfl) d_N_init_222 ?_
  refine ev_iinc (pc := 223) d_N_init_223 (Nat.le_of_ble_eq_true rfl) rfl (nx_inc _) rfl ?_
  try dsimp only [List.set]
  refine ev_goto (pc := 226) (tgt := 207) d_N_init_226 (by decide) ?_
  refine ev_iload_n (pc := 207) d_N_init_207 rfl rfl ?_
  refine ev_iconst (pc := 208) (v := 4) d_N_init_208 rfl ?_
  refine ev_icmp_ge (pc := 209) (tgt := 229) d_N_init_209 (by decide) (fun ha => ?_) (fun ha => ?_)
  · exact absurd ha (by decide)
  refine ev_aload_n (pc := 212) d_N_init_212 rfl rfl (by first | rfl | exact mm_rk_rf _) ?_
  refine ev_gR (pc := 213) sh_N (by rfl) fl_N_7 d_N_init_213 ?_
  refine ev_iconst (pc := 216) (v := nI 4) d_N_init_216 rfl ?_
  refine ev_iload_n (pc := 217) d_N_init_217 rfl rfl ?_
  first | refine ev_imulN (pc := 218) d_N_init_218 ?_ | refine ev_imul (pc := 218) d_N_init_218 ?_
  refine ev_iload_n (pc := 219) d_N_init_219 rfl rfl ?_
  first | refine ev_iaddN (pc := 220) d_N_init_220 ?_ | refine ev_iadd (pc := 220) d_N_init_220 ?_
  refine ev_iconst (pc := 221) (v := 1) d_N_init_221 rfl ?_
  refine ev_wZN (pc := 222) sh_N_members (by omega) (by decide) (by rfl) d_N_init_222 ?_
  refine ev_iinc (pc := 223) d_N_init_223 (Nat.le_of_ble_eq_true rfl) rfl (nx_inc _) rfl ?_
  try dsimp only [List.set]
  refine ev_goto (pc := 226) (tgt := 207) d_N_init_226 (by decide) ?_
  refine ev_iload_n (pc := 207) d_N_init_207 rfl rfl ?_
  refine ev_iconst (pc := 208) (v := 4) d_N_init_208 rfl ?_
  refine ev_icmp_ge (pc := 209) (tgt := 229) d_N_init_209 (by decide) (fun ha => ?_) (fun ha => ?_)
  · exact absurd ha (by decide)
  refine ev_aload_n (pc := 212) d_N_init_212 rfl rfl (by first | rfl | exact mm_rk_rf _) ?_
  refine ev_gR (pc := 213) sh_N (by rfl) fl_N_7 d_N_init_213 ?_
  refine ev_iconst (pc := 216) (v := nI 4) d_N_init_216 rfl ?_
  refine ev_iload_n (pc := 217) d_N_init_217 rfl rfl ?_
  first | refine ev_imulN (pc := 218) d_N_init_218 ?_ | refine ev_imul (pc := 218) d_N_init_218 ?_
  refine ev_iload_n (pc := 219) d_N_init_219 rfl rfl ?_
  first | refine ev_iaddN (pc := 220) d_N_init_220 ?_ | refine ev_iadd (pc := 220) d_N_init_220 ?_
  refine ev_iconst (pc := 221) (v := 1) d_N_init_221 rfl ?_
  refine ev_wZN (pc := 222) sh_N_members (by omega) (by decide) (by rfl) d_N_init_222 ?_
  refine ev_iinc (pc := 223) d_N_init_223 (Nat.le_of_ble_eq_true rfl) rfl (nx_inc _) rfl ?_
  try dsimp only [List.set]
  refine ev_goto (pc := 226) (tgt := 207) d_N_init_226 (by decide) ?_
  refine ev_iload_n (pc := 207) d_N_init_207 rfl rfl ?_
  refine ev_iconst (pc := 208) (v := 4) d_N_init_208 rfl ?_
  refine ev_icmp_ge (pc := 209) (tgt := 229) d_N_init_209 (by decide) (fun ha => ?_) (fun ha => ?_)
  · exact absurd ha (by decide)
  refine ev_aload_n (pc := 212) d_N_init_212 rfl rfl (by first | rfl | exact mm_rk_rf _) ?_
  refine ev_gR (pc := 213) sh_N (by rfl) fl_N_7 d_N_init_213 ?_
  refine ev_iconst (pc := 216) (v := nI 4) d_N_init_216 rfl ?_
  refine ev_iload_n (pc := 217) d_N_init_217 rfl rfl ?_
  first | refine ev_imulN (pc := 218) d_N_init_218 ?_ | refine ev_imul (pc := 218) d_N_init_218 ?_
  refine ev_iload_n (pc := 219) d_N_init_219 rfl rfl ?_
  first | refine ev_iaddN (pc := 220) d_N_init_220 ?_ | refine ev_iadd (pc := 220) d_N_init_220 ?_
  refine ev_iconst (pc := 221) (v := 1) d_N_init_221 rfl ?_
  refine ev_wZN (pc := 222) sh_N_members (by omega) (by decide) (by rfl) d_N_init_222 ?_
  refine ev_iinc (pc := 223) d_N_init_223 (Nat.le_of_ble_eq_true rfl) rfl (nx_inc _) rfl ?_
  try dsimp only [List.set]
  refine ev_goto (pc := 226) (tgt := 207) d_N_init_226 (by decide) ?_
  refine ev_iload_n (pc := 207) d_N_init_207 rfl rfl ?_
  refine ev_iconst (pc := 208) (v := 4) d_N_init_208 rfl ?_
  refine ev_icmp_ge (pc := 209) (tgt := 229) d_N_init_209 (by decide) (fun ha => ?_) (fun ha => ?_)
  rotate_left
  · exact absurd (by decide) ha
  refine ev_eq rfl rfl rfl (show _ = hp_H (mk_m mk_C1) from rfl) rfl rfl ?_
  refine ev_iconst (pc := 229) (v := nI 0) d_N_init_229 rfl ?_
  refine ev_istore_n (pc := 230) d_N_init_230 rfl (Nat.le_of_ble_eq_true rfl) rfl ?_
  try dsimp only [List.set]
  refine ev_iload_n (pc := 231) d_N_init_231 rfl rfl ?_
  refine ev_iconst (pc := 232) (v := 2) d_N_init_232 rfl ?_
  refine ev_icmp_ge (pc := 233) (tgt := 281) d_N_init_233 (by decide) (fun ha => ?_) (fun ha => ?_)
  · exact absurd ha (by decide)
  refine ev_aload_n (pc := 236) d_N_init_236 rfl rfl (by first | rfl | exact mm_rk_rf _) ?_
  refine ev_gR (pc := 237) sh_N (by rfl) fl_N_13 d_N_init_237 ?_
  refine ev_iload_n (pc := 240) d_N_init_240 rfl rfl ?_
  refine ev_iconst (pc := 241) (v := 1) d_N_init_241 rfl ?_
  refine ev_wIN (pc := 242) sh_N_many (by omega) (by decide) d_N_init_242 ?_
  refine ev_aload_n (pc := 243) d_N_init_243 rfl rfl (by first | rfl | exact mm_rk_rf _) ?_
  refine ev_gR (pc := 244) sh_N (by rfl) fl_N_35 d_N_init_244 ?_
  refine ev_bipush (pc := 247) (v := nI 20) d_N_init_247 (by decide) ?_
  refine ev_iload_n (pc := 249) d_N_init_249 rfl rfl ?_
  first | refine ev_imulN (pc := 250) d_N_init_250 ?_ | refine ev_imul (pc := 250) d_N_init_250 ?_
  refine ev_sipush (pc := 251) (v := 2559) d_N_init_251 (by decide) ?_
  refine ev_wIN (pc := 254) sh_N_mode (by omega) (by decide) d_N_init_254 ?_
  refine ev_aload_n (pc := 255) d_N_init_255 rfl rfl (by first | rfl | exact mm_rk_rf _) ?_
  refine ev_gR (pc := 256) sh_N (by rfl) fl_N_20 d_N_init_256 ?_
  refine ev_bipush (pc := 259) (v := nI 20) d_N_init_259 (by decide) ?_
  refine ev_iload_n (pc := 261) d_N_init_261 rfl rfl ?_
  first | refine ev_imulN (pc := 262) d_N_init_262 ?_ | refine ev_imul (pc := 262) d_N_init_262 ?_
  refine ev_iconst (pc := 263) (v := -1) d_N_init_263 rfl ?_
  refine ev_wIN (pc := 264) sh_N_above (by omega) (by decide) d_N_init_264 ?_
  refine ev_aload_n (pc := 265) d_N_init_265 rfl rfl (by first | rfl | exact mm_rk_rf _) ?_
  refine ev_gR (pc := 266) sh_N (by rfl) fl_N_41 d_N_init_266 ?_
  refine ev_bipush (pc := 269) (v := nI 20) d_N_init_269 (by decide) ?_
  refine ev_iload_n (pc := 271) d_N_init_271 rfl rfl ?_
  first | refine ev_imulN (pc := 272) d_N_init_272 ?_ | refine ev_imul (pc := 272) d_N_init_272 ?_
  refine ev_iconst (pc := 273) (v := 0) d_N_init_273 rfl ?_
  refine ev_wIN (pc := 274) sh_N_block (by omega) (by decide) d_N_init_274 ?_
  refine ev_iinc (pc := 275) d_N_init_275 (Nat.le_of_ble_eq_true rfl) rfl (nx_inc _) rfl ?_
  try dsimp only [List.set]
  refine ev_goto (pc := 278) (tgt := 231) d_N_init_278 (by decide) ?_
  refine ev_iload_n (pc := 231) d_N_init_231 rfl rfl ?_
  refine ev_iconst (pc := 232) (v := 2) d_N_init_232 rfl ?_
  refine ev_icmp_ge (pc := 233) (tgt := 281) d_N_init_233 (by decide) (fun ha => ?_) (fun ha => ?_)
  · exact absurd ha (by decide)
  refine ev_aload_n (pc := 236) d_N_init_236 rfl rfl (by first | rfl | exact mm_rk_rf _) ?_
  refine ev_gR (pc := 237) sh_N (by rfl) fl_N_13 d_N_init_237 ?_
  refine ev_iload_n (pc := 240) d_N_init_240 rfl rfl ?_
  refine ev_iconst (pc := 241) (v := 1) d_N_init_241 rfl ?_
  refine ev_wIN (pc := 242) sh_N_many (by omega) (by decide) d_N_init_242 ?_
  refine ev_aload_n (pc := 243) d_N_init_243 rfl rfl (by first | rfl | exact mm_rk_rf _) ?_
  refine ev_gR (pc := 244) sh_N (by rfl) fl_N_35 d_N_init_244 ?_
  refine ev_bipush (pc := 247) (v := nI 20) d_N_init_247 (by decide) ?_
  refine ev_iload_n (pc := 249) d_N_init_249 rfl rfl ?_
  first | refine ev_imulN (pc := 250) d_N_init_250 ?_ | refine ev_imul (pc := 250) d_N_init_250 ?_
  refine ev_sipush (pc := 251) (v := 2559) d_N_init_251 (by decide) ?_
  refine ev_wIN (pc := 254) sh_N_mode (by omega) (by decide) d_N_init_254 ?_
  refine ev_aload_n (pc := 255) d_N_init_255 rfl rfl (by first | rfl | exact mm_rk_rf _) ?_
  refine ev_gR (pc := 256) sh_N (by rfl) fl_N_20 d_N_init_256 ?_
  refine ev_bipush (pc := 259) (v := nI 20) d_N_init_259 (by decide) ?_
  refine ev_iload_n (pc := 261) d_N_init_261 rfl rfl ?_
  first | refine ev_imulN (pc := 262) d_N_init_262 ?_ | refine ev_imul (pc := 262) d_N_init_262 ?_
  refine ev_iconst (pc := 263) (v := -1) d_N_init_263 rfl ?_
  refine ev_wIN (pc := 264) sh_N_above (by omega) (by decide) d_N_init_264 ?_
  refine ev_aload_n (pc := 265) d_N_init_265 rfl rfl (by first | rfl | exact mm_rk_rf _) ?_
  refine ev_gR (pc := 266) sh_N (by rfl) fl_N_41 d_N_init_266 ?_
  refine ev_bipush (pc := 269) (v := nI 20) d_N_init_269 (by decide) ?_
  refine ev_iload_n (pc := 271) d_N_init_271 rfl rfl ?_
  first | refine ev_imulN (pc := 272) d_N_init_272 ?_ | refine ev_imul (pc := 272) d_N_init_272 ?_
  refine ev_iconst (pc := 273) (v := 0) d_N_init_273 rfl ?_
  refine ev_wIN (pc := 274) sh_N_block (by omega) (by decide) d_N_init_274 ?_
  refine ev_iinc (pc := 275) d_N_init_275 (Nat.le_of_ble_eq_true rfl) rfl (nx_inc _) rfl ?_
  try dsimp only [List.set]
  refine ev_goto (pc := 278) (tgt := 231) d_N_init_278 (by decide) ?_
  refine ev_iload_n (pc := 231) d_N_init_231 rfl rfl ?_
  refine ev_iconst (pc := 232) (v := 2) d_N_init_232 rfl ?_
  refine ev_icmp_ge (pc := 233) (tgt := 281) d_N_init_233 (by decide) (fun ha => ?_) (fun ha => ?_)
  rotate_left
  · exact absurd (by decide) ha
  refine ev_eq rfl rfl rfl (show _ = hp_H (mk_t (mk_t (mk_m mk_C1) 0) 1) from rfl) rfl rfl ?_
  refine ev_aload_n (pc := 281) d_N_init_281 rfl rfl (by first | rfl | exact mm_rk_rf _) ?_
  refine ev_cVv (pc := 282) (ct_N_free E _) cl_N_90 jv_N_free ⟨(Nat.le_of_ble_eq_true rfl), (Nat.le_of_ble_eq_true rfl)⟩ rfl sh_N rfl (Nat.le_of_ble_eq_true rfl) d_N_init_282 (by decide) ?_
  exact ev_vret (pc := 285) d_N_init_285 rfl (by decide) (by decide) ⟨rfl, rfl⟩
