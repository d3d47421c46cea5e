/-! Constructors: the reference; the heap behind both. -/
/-- the class's cells, and the reference's, as they are made -/
def mk_C0 (i j : Nat) : Int32 := if i = 3 then zb j else 0
def mk_C1 (i j : Nat) : Int32 := if i = 3 then zb j else if i = 204 ∧ (j = 12 ∨ j = 13) then 1 else 0
theorem mi_app {α β : Type} (f : Nat → α → β) (a b : List α) : (a ++ b).mapIdx f = a.mapIdx f ++ b.mapIdx (fun i x => f (i + a.length) x) := List.mapIdx_append
theorem mi_map {α β : Type} (f : Nat → α → β) (g : α → β) (l : List α) (h : ∀ i x, f i x = g x) : l.mapIdx f = l.map g := by
  apply List.ext_getElem?
  intro i
  rw [List.getElem?_mapIdx, List.getElem?_map]
  cases l[i]? with
  | none => rfl
  | some x => exact congrArg some (h i x)
def mk_N (b : Nat) : mm_H := .inr (9, [.ref (b + 1), .ref (b + 2), .ref (b + 3), .ref (b + 4), .ref (b + 5), .ref (b + 6), .ref (b + 7), .ref (b + 8), .ref (b + 9), .ref (b + 10), .ref (b + 11), .ref (b + 12), .int 1, .int 1, .int 0, .ref (b + 13), .ref (b + 14), .ref (b + 15), .ref (b + 16), .ref (b + 17), .ref (b + 18), .ref (b + 19), .ref (b + 20), .ref (b + 21), .int 0, .ref (b + 22), .int 0, .ref (b + 23), .ref (b + 24), .int 0]) :: [zc (.inl (1, 16, [])), zc (hp_ar 6), zc (hp_ar 120), zc (hp_ar 120), zc (hp_ar 120), zc (hp_ar 120), zc (hp_ar 120), zc (hp_ar 120), zc (hp_ar 120), zc (hp_ar 120), zc (hp_ar 120), zc (hp_ar 1920), zc (hp_ar 12), zc (hp_ar 12), zc (hp_ar 12), zc (hp_ar 12), zc (hp_ar 12), zc (hp_ar 16), zc (hp_ar 16), zc (hp_ar 16), zc (hp_ar 64), zc (hp_ar 4), zc (hp_ar 16), zc (hp_ar 4)]
theorem mk_NS : mk_N 204 = hp_S2.mapIdx (fun i s => hp_c s (mk_C1 (i + 204))) := by rfl
theorem mk_XS : mk_X = hp_S1.mapIdx (fun i s => hp_c s (mk_C0 i)) := by
  have e : hp_S1 = [.inr (8, [some 1, some 131, some 132, some 199, some 201, some 203]), .inr (6, [some 2, none, none]), .inl (2, 64, hp_pool), hp_blk 3] ++ (hp_ar 16 :: mk_r 1 ++ ([.inr (3, [none]), .inl (3, 2, [133, 166])] ++ (hp_con 133 ++ (hp_con 166 ++ [hp_row 199, hp_ar 4, hp_row 201, hp_ar 8, .inr (7, [none, none, none, none])])))) := by rfl
  rw [e, mi_app, mi_map (fun i x => hp_c x (mk_C0 (i + _))) zc]
  · simp only [List.map_append, List.map_cons, List.map_nil]
    rfl
  · intro i x
    have h : mk_C0 (i + 4) = fun _ => 0 := by
      funext j
      rw [mk_C0, if_neg (by omega)]
    show hp_c x (mk_C0 (i + 4)) = zc x
    rw [h]
    rfl
theorem mk_XN : mk_X ++ mk_N 204 = hp_H mk_C1 := by
  have h204 : hp_S1.length = 204 := by decide +kernel
  have h1 : hp_S1.mapIdx (fun i s => hp_c s (mk_C0 i)) = hp_S1.mapIdx (fun i s => hp_c s (mk_C1 i)) := by
    apply List.ext_getElem?
    intro i
    rw [List.getElem?_mapIdx, List.getElem?_mapIdx]
    by_cases hi : i < hp_S1.length
    · have h : mk_C1 i = mk_C0 i := by
        funext j
        rw [mk_C1, mk_C0]
        by_cases h3 : i = 3
        · rw [if_pos h3, if_pos h3]
        · rw [if_neg h3, if_neg h3, if_neg (by omega)]
      rw [h]
    · rw [List.getElem?_eq_none (by omega)]
      rfl
  rw [hp_Hd, hp_S, mi_app, mk_NS, mk_XS, h1, h204]
theorem mk_Xl : mk_X.length = 204 := by
  rw [mk_XS, List.length_mapIdx]
  decide +kernel
theorem d_N_init_0 : decode b_N_init 0 = .ok (.aload_n 0, 1) := by decide +kernel
theorem d_N_init_1 : decode b_N_init 1 = .ok (.invokespecial 1, 3) := by decide +kernel
theorem d_N_init_4 : decode b_N_init 4 = .ok (.aload_n 0, 1) := by decide +kernel
theorem d_N_init_5 : decode b_N_init 5 = .ok (.bipush 16, 2) := by decide +kernel
theorem d_N_init_7 : decode b_N_init 7 = .ok (.newarray .boolean, 2) := by decide +kernel
theorem d_N_init_9 : decode b_N_init 9 = .ok (.putfield 7, 3) := by decide +kernel
theorem d_N_init_12 : decode b_N_init 12 = .ok (.aload_n 0, 1) := by decide +kernel
theorem d_N_init_13 : decode b_N_init 13 = .ok (.bipush 6, 2) := by decide +kernel
theorem d_N_init_15 : decode b_N_init 15 = .ok (.newarray .int, 2) := by decide +kernel
theorem d_N_init_17 : decode b_N_init 17 = .ok (.putfield 13, 3) := by decide +kernel
theorem d_N_init_20 : decode b_N_init 20 = .ok (.aload_n 0, 1) := by decide +kernel
theorem d_N_init_21 : decode b_N_init 21 = .ok (.bipush 120, 2) := by decide +kernel
theorem d_N_init_23 : decode b_N_init 23 = .ok (.newarray .int, 2) := by decide +kernel
theorem d_N_init_25 : decode b_N_init 25 = .ok (.putfield 17, 3) := by decide +kernel
theorem d_N_init_28 : decode b_N_init 28 = .ok (.aload_n 0, 1) := by decide +kernel
theorem d_N_init_29 : decode b_N_init 29 = .ok (.bipush 120, 2) := by decide +kernel
theorem d_N_init_31 : decode b_N_init 31 = .ok (.newarray .int, 2) := by decide +kernel
theorem d_N_init_33 : decode b_N_init 33 = .ok (.putfield 20, 3) := by decide +kernel
theorem d_N_init_36 : decode b_N_init 36 = .ok (.aload_n 0, 1) := by decide +kernel
theorem d_N_init_37 : decode b_N_init 37 = .ok (.bipush 120, 2) := by decide +kernel
theorem d_N_init_39 : decode b_N_init 39 = .ok (.newarray .int, 2) := by decide +kernel
theorem d_N_init_41 : decode b_N_init 41 = .ok (.putfield 23, 3) := by decide +kernel
theorem d_N_init_44 : decode b_N_init 44 = .ok (.aload_n 0, 1) := by decide +kernel
theorem d_N_init_45 : decode b_N_init 45 = .ok (.bipush 120, 2) := by decide +kernel
theorem d_N_init_47 : decode b_N_init 47 = .ok (.newarray .int, 2) := by decide +kernel
theorem d_N_init_49 : decode b_N_init 49 = .ok (.putfield 26, 3) := by decide +kernel
theorem d_N_init_52 : decode b_N_init 52 = .ok (.aload_n 0, 1) := by decide +kernel
theorem d_N_init_53 : decode b_N_init 53 = .ok (.bipush 120, 2) := by decide +kernel
theorem d_N_init_55 : decode b_N_init 55 = .ok (.newarray .int, 2) := by decide +kernel
theorem d_N_init_57 : decode b_N_init 57 = .ok (.putfield 29, 3) := by decide +kernel
theorem d_N_init_60 : decode b_N_init 60 = .ok (.aload_n 0, 1) := by decide +kernel
theorem d_N_init_61 : decode b_N_init 61 = .ok (.bipush 120, 2) := by decide +kernel
theorem d_N_init_63 : decode b_N_init 63 = .ok (.newarray .int, 2) := by decide +kernel
theorem d_N_init_65 : decode b_N_init 65 = .ok (.putfield 32, 3) := by decide +kernel
theorem d_N_init_68 : decode b_N_init 68 = .ok (.aload_n 0, 1) := by decide +kernel
theorem d_N_init_69 : decode b_N_init 69 = .ok (.bipush 120, 2) := by decide +kernel
theorem d_N_init_71 : decode b_N_init 71 = .ok (.newarray .int, 2) := by decide +kernel
theorem d_N_init_73 : decode b_N_init 73 = .ok (.putfield 35, 3) := by decide +kernel
theorem d_N_init_76 : decode b_N_init 76 = .ok (.aload_n 0, 1) := by decide +kernel
theorem d_N_init_77 : decode b_N_init 77 = .ok (.bipush 120, 2) := by decide +kernel
theorem d_N_init_79 : decode b_N_init 79 = .ok (.newarray .int, 2) := by decide +kernel
theorem d_N_init_81 : decode b_N_init 81 = .ok (.putfield 38, 3) := by decide +kernel
theorem d_N_init_84 : decode b_N_init 84 = .ok (.aload_n 0, 1) := by decide +kernel
theorem d_N_init_85 : decode b_N_init 85 = .ok (.bipush 120, 2) := by decide +kernel
theorem d_N_init_87 : decode b_N_init 87 = .ok (.newarray .int, 2) := by decide +kernel
theorem d_N_init_89 : decode b_N_init 89 = .ok (.putfield 41, 3) := by decide +kernel
theorem d_N_init_92 : decode b_N_init 92 = .ok (.aload_n 0, 1) := by decide +kernel
theorem d_N_init_93 : decode b_N_init 93 = .ok (.sipush 1920, 3) := by decide +kernel
theorem d_N_init_96 : decode b_N_init 96 = .ok (.newarray .int, 2) := by decide +kernel
theorem d_N_init_98 : decode b_N_init 98 = .ok (.putfield 44, 3) := by decide +kernel
theorem d_N_init_101 : decode b_N_init 101 = .ok (.aload_n 0, 1) := by decide +kernel
theorem d_N_init_102 : decode b_N_init 102 = .ok (.iconst 1, 1) := by decide +kernel
theorem d_N_init_103 : decode b_N_init 103 = .ok (.putfield 47, 3) := by decide +kernel
theorem d_N_init_106 : decode b_N_init 106 = .ok (.aload_n 0, 1) := by decide +kernel
theorem d_N_init_107 : decode b_N_init 107 = .ok (.iconst 1, 1) := by decide +kernel
theorem d_N_init_108 : decode b_N_init 108 = .ok (.putfield 51, 3) := by decide +kernel
theorem d_N_init_111 : decode b_N_init 111 = .ok (.aload_n 0, 1) := by decide +kernel
theorem d_N_init_112 : decode b_N_init 112 = .ok (.bipush 12, 2) := by decide +kernel
theorem d_N_init_114 : decode b_N_init 114 = .ok (.newarray .int, 2) := by decide +kernel
theorem d_N_init_116 : decode b_N_init 116 = .ok (.putfield 54, 3) := by decide +kernel
theorem d_N_init_119 : decode b_N_init 119 = .ok (.aload_n 0, 1) := by decide +kernel
theorem d_N_init_120 : decode b_N_init 120 = .ok (.bipush 12, 2) := by decide +kernel
theorem d_N_init_122 : decode b_N_init 122 = .ok (.newarray .int, 2) := by decide +kernel
theorem d_N_init_124 : decode b_N_init 124 = .ok (.putfield 57, 3) := by decide +kernel
theorem d_N_init_127 : decode b_N_init 127 = .ok (.aload_n 0, 1) := by decide +kernel
theorem d_N_init_128 : decode b_N_init 128 = .ok (.bipush 12, 2) := by decide +kernel
theorem d_N_init_130 : decode b_N_init 130 = .ok (.newarray .int, 2) := by decide +kernel
theorem d_N_init_132 : decode b_N_init 132 = .ok (.putfield 60, 3) := by decide +kernel
theorem d_N_init_135 : decode b_N_init 135 = .ok (.aload_n 0, 1) := by decide +kernel
theorem d_N_init_136 : decode b_N_init 136 = .ok (.bipush 12, 2) := by decide +kernel
theorem d_N_init_138 : decode b_N_init 138 = .ok (.newarray .int, 2) := by decide +kernel
theorem d_N_init_140 : decode b_N_init 140 = .ok (.putfield 63, 3) := by decide +kernel
theorem d_N_init_143 : decode b_N_init 143 = .ok (.aload_n 0, 1) := by decide +kernel
theorem d_N_init_144 : decode b_N_init 144 = .ok (.bipush 12, 2) := by decide +kernel
theorem d_N_init_146 : decode b_N_init 146 = .ok (.newarray .int, 2) := by decide +kernel
theorem d_N_init_148 : decode b_N_init 148 = .ok (.putfield 66, 3) := by decide +kernel
theorem d_N_init_151 : decode b_N_init 151 = .ok (.aload_n 0, 1) := by decide +kernel
theorem d_N_init_152 : decode b_N_init 152 = .ok (.bipush 16, 2) := by decide +kernel
theorem d_N_init_154 : decode b_N_init 154 = .ok (.newarray .int, 2) := by decide +kernel
theorem d_N_init_156 : decode b_N_init 156 = .ok (.putfield 69, 3) := by decide +kernel
theorem d_N_init_159 : decode b_N_init 159 = .ok (.aload_n 0, 1) := by decide +kernel
theorem d_N_init_160 : decode b_N_init 160 = .ok (.bipush 16, 2) := by decide +kernel
theorem d_N_init_162 : decode b_N_init 162 = .ok (.newarray .int, 2) := by decide +kernel
theorem d_N_init_164 : decode b_N_init 164 = .ok (.putfield 72, 3) := by decide +kernel
theorem d_N_init_167 : decode b_N_init 167 = .ok (.aload_n 0, 1) := by decide +kernel
theorem d_N_init_168 : decode b_N_init 168 = .ok (.bipush 16, 2) := by decide +kernel
theorem d_N_init_170 : decode b_N_init 170 = .ok (.newarray .int, 2) := by decide +kernel
theorem d_N_init_172 : decode b_N_init 172 = .ok (.putfield 75, 3) := by decide +kernel
theorem d_N_init_175 : decode b_N_init 175 = .ok (.aload_n 0, 1) := by decide +kernel
theorem d_N_init_176 : decode b_N_init 176 = .ok (.bipush 64, 2) := by decide +kernel
theorem d_N_init_178 : decode b_N_init 178 = .ok (.newarray .int, 2) := by decide +kernel
theorem d_N_init_180 : decode b_N_init 180 = .ok (.putfield 78, 3) := by decide +kernel
theorem d_N_init_183 : decode b_N_init 183 = .ok (.aload_n 0, 1) := by decide +kernel
theorem d_N_init_184 : decode b_N_init 184 = .ok (.iconst 4, 1) := by decide +kernel
theorem d_N_init_185 : decode b_N_init 185 = .ok (.newarray .int, 2) := by decide +kernel
theorem d_N_init_187 : decode b_N_init 187 = .ok (.putfield 81, 3) := by decide +kernel
theorem d_N_init_190 : decode b_N_init 190 = .ok (.aload_n 0, 1) := by decide +kernel
theorem d_N_init_191 : decode b_N_init 191 = .ok (.bipush 16, 2) := by decide +kernel
theorem d_N_init_193 : decode b_N_init 193 = .ok (.newarray .int, 2) := by decide +kernel
theorem d_N_init_195 : decode b_N_init 195 = .ok (.putfield 84, 3) := by decide +kernel
theorem d_N_init_198 : decode b_N_init 198 = .ok (.aload_n 0, 1) := by decide +kernel
theorem d_N_init_199 : decode b_N_init 199 = .ok (.iconst 4, 1) := by decide +kernel
theorem d_N_init_200 : decode b_N_init 200 = .ok (.newarray .int, 2) := by decide +kernel
theorem d_N_init_202 : decode b_N_init 202 = .ok (.putfield 87, 3) := by decide +kernel
theorem d_N_init_205 : decode b_N_init 205 = .ok (.iconst 0, 1) := by decide +kernel
theorem d_N_init_206 : decode b_N_init 206 = .ok (.istore_n 1, 1) := by decide +kernel
theorem d_N_init_207 : decode b_N_init 207 = .ok (.iload_n 1, 1) := by decide +kernel
theorem d_N_init_208 : decode b_N_init 208 = .ok (.iconst 4, 1) := by decide +kernel
theorem d_N_init_209 : decode b_N_init 209 = .ok (.if_icmp .ge 20, 3) := by decide +kernel
theorem d_N_init_212 : decode b_N_init 212 = .ok (.aload_n 0, 1) := by decide +kernel
theorem d_N_init_213 : decode b_N_init 213 = .ok (.getfield 7, 3) := by decide +kernel
theorem d_N_init_216 : decode b_N_init 216 = .ok (.iconst 4, 1) := by decide +kernel
theorem d_N_init_217 : decode b_N_init 217 = .ok (.iload_n 1, 1) := by decide +kernel
theorem d_N_init_218 : decode b_N_init 218 = .ok (.imul, 1) := by decide +kernel
theorem d_N_init_219 : decode b_N_init 219 = .ok (.iload_n 1, 1) := by decide +kernel
theorem d_N_init_220 : decode b_N_init 220 = .ok (.iadd, 1) := by decide +kernel
theorem d_N_init_221 : decode b_N_init 221 = .ok (.iconst 1, 1) := by decide +kernel
theorem d_N_init_222 : decode b_N_init 222 = .ok (.bastore, 1) := by decide +kernel
theorem d_N_init_223 : decode b_N_init 223 = .ok (.iinc 1 1, 3) := by decide +kernel
theorem d_N_init_226 : decode b_N_init 226 = .ok (.goto (-19), 3) := by decide +kernel
theorem d_N_init_229 : decode b_N_init 229 = .ok (.iconst 0, 1) := by decide +kernel
theorem d_N_init_230 : decode b_N_init 230 = .ok (.istore_n 1, 1) := by decide +kernel
theorem d_N_init_231 : decode b_N_init 231 = .ok (.iload_n 1, 1) := by decide +kernel
theorem d_N_init_232 : decode b_N_init 232 = .ok (.iconst 2, 1) := by decide +kernel
theorem d_N_init_233 : decode b_N_init 233 = .ok (.if_icmp .ge 48, 3) := by decide +kernel
theorem d_N_init_236 : decode b_N_init 236 = .ok (.aload_n 0, 1) := by decide +kernel
theorem d_N_init_237 : decode b_N_init 237 = .ok (.getfield 13, 3) := by decide +kernel
theorem d_N_init_240 : decode b_N_init 240 = .ok (.iload_n 1, 1) := by decide +kernel
theorem d_N_init_241 : decode b_N_init 241 = .ok (.iconst 1, 1) := by decide +kernel
theorem d_N_init_242 : decode b_N_init 242 = .ok (.iastore, 1) := by decide +kernel
theorem d_N_init_243 : decode b_N_init 243 = .ok (.aload_n 0, 1) := by decide +kernel
theorem d_N_init_244 : decode b_N_init 244 = .ok (.getfield 35, 3) := by decide +kernel
theorem d_N_init_247 : decode b_N_init 247 = .ok (.bipush 20, 2) := by decide +kernel
theorem d_N_init_249 : decode b_N_init 249 = .ok (.iload_n 1, 1) := by decide +kernel
theorem d_N_init_250 : decode b_N_init 250 = .ok (.imul, 1) := by decide +kernel
theorem d_N_init_251 : decode b_N_init 251 = .ok (.sipush 2559, 3) := by decide +kernel
theorem d_N_init_254 : decode b_N_init 254 = .ok (.iastore, 1) := by decide +kernel
theorem d_N_init_255 : decode b_N_init 255 = .ok (.aload_n 0, 1) := by decide +kernel
theorem d_N_init_256 : decode b_N_init 256 = .ok (.getfield 20, 3) := by decide +kernel
theorem d_N_init_259 : decode b_N_init 259 = .ok (.bipush 20, 2) := by decide +kernel
theorem d_N_init_261 : decode b_N_init 261 = .ok (.iload_n 1, 1) := by decide +kernel
theorem d_N_init_262 : decode b_N_init 262 = .ok (.imul, 1) := by decide +kernel
theorem d_N_init_263 : decode b_N_init 263 = .ok (.iconst (-1), 1) := by decide +kernel
theorem d_N_init_264 : decode b_N_init 264 = .ok (.iastore, 1) := by decide +kernel
theorem d_N_init_265 : decode b_N_init 265 = .ok (.aload_n 0, 1) := by decide +kernel
theorem d_N_init_266 : decode b_N_init 266 = .ok (.getfield 41, 3) := by decide +kernel
theorem d_N_init_269 : decode b_N_init 269 = .ok (.bipush 20, 2) := by decide +kernel
theorem d_N_init_271 : decode b_N_init 271 = .ok (.iload_n 1, 1) := by decide +kernel
theorem d_N_init_272 : decode b_N_init 272 = .ok (.imul, 1) := by decide +kernel
theorem d_N_init_273 : decode b_N_init 273 = .ok (.iconst 0, 1) := by decide +kernel
theorem d_N_init_274 : decode b_N_init 274 = .ok (.iastore, 1) := by decide +kernel
theorem d_N_init_275 : decode b_N_init 275 = .ok (.iinc 1 1, 3) := by decide +kernel
theorem d_N_init_278 : decode b_N_init 278 = .ok (.goto (-47), 3) := by decide +kernel
theorem d_N_init_281 : decode b_N_init 281 = .ok (.aload_n 0, 1) := by decide +kernel
theorem d_N_init_282 : decode b_N_init 282 = .ok (.invokevirtual 90, 3) := by decide +kernel
theorem d_N_init_285 : decode b_N_init 285 = .ok (.return_, 1) := by decide +kernel
set_option maxRecDepth 20000 in
theorem mk_n1 (E : mm_En) (p : mm_H) (Q : Option Value → mm_H → Prop) (kk : ev_At E K_N_init 205 [some (.ref p.length), none] [] (p ++ mk_N p.length) 24 3218 Q) : ev_At E K_N_init 0 [some (.ref p.length), none] [] (p ++ [.inr (9, [.null, .null, .null, .null, .null, .null, .null, .null, .null, .null, .null, .null, .int 0, .int 0, .int 0, .null, .null, .null, .null, .null, .null, .null, .null, .null, .int 0, .null, .int 0, .null, .null, .int 0])]) 0 0 Q := by
  refine ev_aload_n (pc := 0) d_N_init_0 rfl rfl (by first | rfl | exact mm_rk_rf _) ?_
  refine ev_objI (pc := 1) cl_N_1 ob_1 ob_2 d_N_init_1 (by decide) (by decide) ?_
  refine ev_aload_n (pc := 4) d_N_init_4 rfl rfl (by first | rfl | exact mm_rk_rf _) ?_
  refine ev_bipush (pc := 5) (v := 16) d_N_init_5 (by decide) ?_
  refine ev_newa (pc := 7) (t := 1) (N := 16) rfl (Or.inr ⟨rfl, rfl⟩) ac_Z d_N_init_7 (by decide) (by decide) (by decide) (by decide) (by decide) ?_
  rw [List.length_append]
  refine ev_putF (pc := 9) (fs := [.null, .null, .null, .null, .null, .null, .null, .null, .null, .null, .null, .null, .int 0, .int 0, .int 0, .null, .null, .null, .null, .null, .null, .null, .null, .null, .int 0, .null, .int 0, .null, .null, .int 0]) mm_cfs rfl ff_N_7 (by rw [List.append_assoc, gx0]; rfl) (show 0 < 30 by decide) (by rfl) d_N_init_9 (h' := p ++ (.inr (9, [.ref (p.length + 1), .null, .null, .null, .null, .null, .null, .null, .null, .null, .null, .null, .int 0, .int 0, .int 0, .null, .null, .null, .null, .null, .null, .null, .null, .null, .int 0, .null, .int 0, .null, .null, .int 0]) :: [zc (.inl (1, 16, []))])) (by rw [List.append_assoc, sx0]; rfl) ?_
  refine ev_aload_n (pc := 12) d_N_init_12 rfl rfl (by first | rfl | exact mm_rk_rf _) ?_
  refine ev_bipush (pc := 13) (v := 6) d_N_init_13 (by decide) ?_
  refine ev_newa (pc := 15) (t := 0) (N := 6) rfl (Or.inl ⟨rfl, rfl⟩) ac_I d_N_init_15 (by decide) (by decide) (by decide) (by decide) (by decide) ?_
  rw [List.length_append]
  refine ev_putF (pc := 17) (fs := [.ref (p.length + 1), .null, .null, .null, .null, .null, .null, .null, .null, .null, .null, .null, .int 0, .int 0, .int 0, .null, .null, .null, .null, .null, .null, .null, .null, .null, .int 0, .null, .int 0, .null, .null, .int 0]) mm_cfs rfl ff_N_13 (by rw [List.append_assoc, gx0]; rfl) (show 1 < 30 by decide) (by rfl) d_N_init_17 (h' := p ++ (.inr (9, [.ref (p.length + 1), .ref (p.length + 2), .null, .null, .null, .null, .null, .null, .null, .null, .null, .null, .int 0, .int 0, .int 0, .null, .null, .null, .null, .null, .null, .null, .null, .null, .int 0, .null, .int 0, .null, .null, .int 0]) :: [zc (.inl (1, 16, [])), zc (hp_ar 6)])) (by rw [List.append_assoc, sx0]; rfl) ?_
  refine ev_aload_n (pc := 20) d_N_init_20 rfl rfl (by first | rfl | exact mm_rk_rf _) ?_
  refine ev_bipush (pc := 21) (v := 120) d_N_init_21 (by decide) ?_
  refine ev_newa (pc := 23) (t := 0) (N := 120) rfl (Or.inl ⟨rfl, rfl⟩) ac_I d_N_init_23 (by decide) (by decide) (by decide) (by decide) (by decide) ?_
  rw [List.length_append]
  refine ev_putF (pc := 25) (fs := [.ref (p.length + 1), .ref (p.length + 2), .null, .null, .null, .null, .null, .null, .null, .null, .null, .null, .int 0, .int 0, .int 0, .null, .null, .null, .null, .null, .null, .null, .null, .null, .int 0, .null, .int 0, .null, .null, .int 0]) mm_cfs rfl ff_N_17 (by rw [List.append_assoc, gx0]; rfl) (show 2 < 30 by decide) (by rfl) d_N_init_25 (h' := p ++ (.inr (9, [.ref (p.length + 1), .ref (p.length + 2), .ref (p.length + 3), .null, .null, .null, .null, .null, .null, .null, .null, .null, .int 0, .int 0, .int 0, .null, .null, .null, .null, .null, .null, .null, .null, .null, .int 0, .null, .int 0, .null, .null, .int 0]) :: [zc (.inl (1, 16, [])), zc (hp_ar 6), zc (hp_ar 120)])) (by rw [List.append_assoc, sx0]; rfl) ?_
  refine ev_aload_n (pc := 28) d_N_init_28 rfl rfl (by first | rfl | exact mm_rk_rf _) ?_
  refine ev_bipush (pc := 29) (v := 120) d_N_init_29 (by decide) ?_
  refine ev_newa (pc := 31) (t := 0) (N := 120) rfl (Or.inl ⟨rfl, rfl⟩) ac_I d_N_init_31 (by decide) (by decide) (by decide) (by decide) (by decide) ?_
  rw [List.length_append]
  refine ev_putF (pc := 33) (fs := [.ref (p.length + 1), .ref (p.length + 2), .ref (p.length + 3), .null, .null, .null, .null, .null, .null, .null, .null, .null, .int 0, .int 0, .int 0, .null, .null, .null, .null, .null, .null, .null, .null, .null, .int 0, .null, .int 0, .null, .null, .int 0]) mm_cfs rfl ff_N_20 (by rw [List.append_assoc, gx0]; rfl) (show 3 < 30 by decide) (by rfl) d_N_init_33 (h' := p ++ (.inr (9, [.ref (p.length + 1), .ref (p.length + 2), .ref (p.length + 3), .ref (p.length + 4), .null, .null, .null, .null, .null, .null, .null, .null, .int 0, .int 0, .int 0, .null, .null, .null, .null, .null, .null, .null, .null, .null, .int 0, .null, .int 0, .null, .null, .int 0]) :: [zc (.inl (1, 16, [])), zc (hp_ar 6), zc (hp_ar 120), zc (hp_ar 120)])) (by rw [List.append_assoc, sx0]; rfl) ?_
  refine ev_aload_n (pc := 36) d_N_init_36 rfl rfl (by first | rfl | exact mm_rk_rf _) ?_
  refine ev_bipush (pc := 37) (v := 120) d_N_init_37 (by decide) ?_
  refine ev_newa (pc := 39) (t := 0) (N := 120) rfl (Or.inl ⟨rfl, rfl⟩) ac_I d_N_init_39 (by decide) (by decide) (by decide) (by decide) (by decide) ?_
  rw [List.length_append]
  refine ev_putF (pc := 41) (fs := [.ref (p.length + 1), .ref (p.length + 2), .ref (p.length + 3), .ref (p.length + 4), .null, .null, .null, .null, .null, .null, .null, .null, .int 0, .int 0, .int 0, .null, .null, .null, .null, .null, .null, .null, .null, .null, .int 0, .null, .int 0, .null, .null, .int 0]) mm_cfs rfl ff_N_23 (by rw [List.append_assoc, gx0]; rfl) (show 4 < 30 by decide) (by rfl) d_N_init_41 (h' := p ++ (.inr (9, [.ref (p.length + 1), .ref (p.length + 2), .ref (p.length + 3), .ref (p.length + 4), .ref (p.length + 5), .null, .null, .null, .null, .null, .null, .null, .int 0, .int 0, .int 0, .null, .null, .null, .null, .null, .null, .null, .null, .null, .int 0, .null, .int 0, .null, .null, .int 0]) :: [zc (.inl (1, 16, [])), zc (hp_ar 6), zc (hp_ar 120), zc (hp_ar 120), zc (hp_ar 120)])) (by rw [List.append_assoc, sx0]; rfl) ?_
  refine ev_aload_n (pc := 44) d_N_init_44 rfl rfl (by first | rfl | exact mm_rk_rf _) ?_
  refine ev_bipush (pc := 45) (v := 120) d_N_init_45 (by decide) ?_
  refine ev_newa (pc := 47) (t := 0) (N := 120) rfl (Or.inl ⟨rfl, rfl⟩) ac_I d_N_init_47 (by decide) (by decide) (by decide) (by decide) (by decide) ?_
  rw [List.length_append]
  refine ev_putF (pc := 49) (fs := [.ref (p.length + 1), .ref (p.length + 2), .ref (p.length + 3), .ref (p.length + 4), .ref (p.length + 5), .null, .null, .null, .null, .null, .null, .null, .int 0, .int 0, .int 0, .null, .null, .null, .null, .null, .null, .null, .null, .null, .int 0, .null, .int 0, .null, .null, .int 0]) mm_cfs rfl ff_N_26 (by rw [List.append_assoc, gx0]; rfl) (show 5 < 30 by decide) (by rfl) d_N_init_49 (h' := p ++ (.inr (9, [.ref (p.length + 1), .ref (p.length + 2), .ref (p.length + 3), .ref (p.length + 4), .ref (p.length + 5), .ref (p.length + 6), .null, .null, .null, .null, .null, .null, .int 0, .int 0, .int 0, .null, .null, .null, .null, .null, .null, .null, .null, .null, .int 0, .null, .int 0, .null, .null, .int 0]) :: [zc (.inl (1, 16, [])), zc (hp_ar 6), zc (hp_ar 120), zc (hp_ar 120), zc (hp_ar 120), zc (hp_ar 120)])) (by rw [List.append_assoc, sx0]; rfl) ?_
  refine ev_aload_n (pc := 52) d_N_init_52 rfl rfl (by first | rfl | exact mm_rk_rf _) ?_
  refine ev_bipush (pc := 53) (v := 120) d_N_init_53 (by decide) ?_
  refine ev_newa (pc := 55) (t := 0) (N := 120) rfl (Or.inl ⟨rfl, rfl⟩) ac_I d_N_init_55 (by decide) (by decide) (by decide) (by decide) (by decide) ?_
  rw [List.length_append]
  refine ev_putF (pc := 57) (fs := [.ref (p.length + 1), .ref (p.length + 2), .ref (p.length + 3), .ref (p.length + 4), .ref (p.length + 5), .ref (p.length + 6), .null, .null, .null, .null, .null, .null, .int 0, .int 0, .int 0, .null, .null, .null, .null, .null, .null, .null, .null, .null, .int 0, .null, .int 0, .null, .null, .int 0]) mm_cfs rfl ff_N_29 (by rw [List.append_assoc, gx0]; rfl) (show 6 < 30 by decide) (by rfl) d_N_init_57 (h' := p ++ (.inr (9, [.ref (p.length + 1), .ref (p.length + 2), .ref (p.length + 3), .ref (p.length + 4), .ref (p.length + 5), .ref (p.length + 6), .ref (p.length + 7), .null, .null, .null, .null, .null, .int 0, .int 0, .int 0, .null, .null, .null, .null, .null, .null, .null, .null, .null, .int 0, .null, .int 0, .null, .null, .int 0]) :: [zc (.inl (1, 16, [])), zc (hp_ar 6), zc (hp_ar 120), zc (hp_ar 120), zc (hp_ar 120), zc (hp_ar 120), zc (hp_ar 120)])) (by rw [List.append_assoc, sx0]; rfl) ?_
  refine ev_aload_n (pc := 60) d_N_init_60 rfl rfl (by first | rfl | exact mm_rk_rf _) ?_
  refine ev_bipush (pc := 61) (v := 120) d_N_init_61 (by decide) ?_
  refine ev_newa (pc := 63) (t := 0) (N := 120) rfl (Or.inl ⟨rfl, rfl⟩) ac_I d_N_init_63 (by decide) (by decide) (by decide) (by decide) (by decide) ?_
  rw [List.length_append]
  refine ev_putF (pc := 65) (fs := [.ref (p.length + 1), .ref (p.length + 2), .ref (p.length + 3), .ref (p.length + 4), .ref (p.length + 5), .ref (p.length + 6), .ref (p.length + 7), .null, .null, .null, .null, .null, .int 0, .int 0, .int 0, .null, .null, .null, .null, .null, .null, .null, .null, .null, .int 0, .null, .int 0, .null, .null, .int 0]) mm_cfs rfl ff_N_32 (by rw [List.append_assoc, gx0]; rfl) (show 7 < 30 by decide) (by rfl) d_N_init_65 (h' := p ++ (.inr (9, [.ref (p.length + 1), .ref (p.length + 2), .ref (p.length + 3), .ref (p.length + 4), .ref (p.length + 5), .ref (p.length + 6), .ref (p.length + 7), .ref (p.length + 8), .null, .null, .null, .null, .int 0, .int 0, .int 0, .null, .null, .null, .null, .null, .null, .null, .null, .null, .int 0, .null, .int 0, .null, .null, .int 0]) :: [zc (.inl (1, 16, [])), zc (hp_ar 6), zc (hp_ar 120), zc (hp_ar 120), zc (hp_ar 120), zc (hp_ar 120), zc (hp_ar 120), zc (hp_ar 120)])) (by rw [List.append_assoc, sx0]; rfl) ?_
  refine ev_aload_n (pc := 68) d_N_init_68 rfl rfl (by first | rfl | exact mm_rk_rf _) ?_
  refine ev_bipush (pc := 69) (v := 120) d_N_init_69 (by decide) ?_
  refine ev_newa (pc := 71) (t := 0) (N := 120) rfl (Or.inl ⟨rfl, rfl⟩) ac_I d_N_init_71 (by decide) (by decide) (by decide) (by decide) (by decide) ?_
  rw [List.length_append]
  refine ev_putF (pc := 73) (fs := [.ref (p.length + 1), .ref (p.length + 2), .ref (p.length + 3), .ref (p.length + 4), .ref (p.length + 5), .ref (p.length + 6), .ref (p.length + 7), .ref (p.length + 8), .null, .null, .null, .null, .int 0, .int 0, .int 0, .null, .null, .null, .null, .null, .null, .null, .null, .null, .int 0, .null, .int 0, .null, .null, .int 0]) mm_cfs rfl ff_N_35 (by rw [List.append_assoc, gx0]; rfl) (show 8 < 30 by decide) (by rfl) d_N_init_73 (h' := p ++ (.inr (9, [.ref (p.length + 1), .ref (p.length + 2), .ref (p.length + 3), .ref (p.length + 4), .ref (p.length + 5), .ref (p.length + 6), .ref (p.length + 7), .ref (p.length + 8), .ref (p.length + 9), .null, .null, .null, .int 0, .int 0, .int 0, .null, .null, .null, .null, .null, .null, .null, .null, .null, .int 0, .null, .int 0, .null, .null, .int 0]) :: [zc (.inl (1, 16, [])), zc (hp_ar 6), zc (hp_ar 120), zc (hp_ar 120), zc (hp_ar 120), zc (hp_ar 120), zc (hp_ar 120), zc (hp_ar 120), zc (hp_ar 120)])) (by rw [List.append_assoc, sx0]; rfl) ?_
  refine ev_aload_n (pc := 76) d_N_init_76 rfl rfl (by first | rfl | exact mm_rk_rf _) ?_
  refine ev_bipush (pc := 77) (v := 120) d_N_init_77 (by decide) ?_
  refine ev_newa (pc := 79) (t := 0) (N := 120) rfl (Or.inl ⟨rfl, rfl⟩) ac_I d_N_init_79 (by decide) (by decide) (by decide) (by decide) (by decide) ?_
  rw [List.length_append]
  refine ev_putF (pc := 81) (fs := [.ref (p.length + 1), .ref (p.length + 2), .ref (p.length + 3), .ref (p.length + 4), .ref (p.length + 5), .ref (p.length + 6), .ref (p.length + 7), .ref (p.length + 8), .ref (p.length + 9), .null, .null, .null, .int 0, .int 0, .int 0, .null, .null, .null, .null, .null, .null, .null, .null, .null, .int 0, .null, .int 0, .null, .null, .int 0]) mm_cfs rfl ff_N_38 (by rw [List.append_assoc, gx0]; rfl) (show 9 < 30 by decide) (by rfl) d_N_init_81 (h' := p ++ (.inr (9, [.ref (p.length + 1), .ref (p.length + 2), .ref (p.length + 3), .ref (p.length + 4), .ref (p.length + 5), .ref (p.length + 6), .ref (p.length + 7), .ref (p.length + 8), .ref (p.length + 9), .ref (p.length + 10), .null, .null, .int 0, .int 0, .int 0, .null, .null, .null, .null, .null, .null, .null, .null, .null, .int 0, .null, .int 0, .null, .null, .int 0]) :: [zc (.inl (1, 16, [])), zc (hp_ar 6), zc (hp_ar 120), zc (hp_ar 120), zc (hp_ar 120), zc (hp_ar 120), zc (hp_ar 120), zc (hp_ar 120), zc (hp_ar 120), zc (hp_ar 120)])) (by rw [List.append_assoc, sx0]; rfl) ?_
  refine ev_aload_n (pc := 84) d_N_init_84 rfl rfl (by first | rfl | exact mm_rk_rf _) ?_
  refine ev_bipush (pc := 85) (v := 120) d_N_init_85 (by decide) ?_
  refine ev_newa (pc := 87) (t := 0) (N := 120) rfl (Or.inl ⟨rfl, rfl⟩) ac_I d_N_init_87 (by decide) (by decide) (by decide) (by decide) (by decide) ?_
  rw [List.length_append]
  refine ev_putF (pc := 89) (fs := [.ref (p.length + 1), .ref (p.length + 2), .ref (p.length + 3), .ref (p.length + 4), .ref (p.length + 5), .ref (p.length + 6), .ref (p.length + 7), .ref (p.length + 8), .ref (p.length + 9), .ref (p.length + 10), .null, .null, .int 0, .int 0, .int 0, .null, .null, .null, .null, .null, .null, .null, .null, .null, .int 0, .null, .int 0, .null, .null, .int 0]) mm_cfs rfl ff_N_41 (by rw [List.append_assoc, gx0]; rfl) (show 10 < 30 by decide) (by rfl) d_N_init_89 (h' := p ++ (.inr (9, [.ref (p.length + 1), .ref (p.length + 2), .ref (p.length + 3), .ref (p.length + 4), .ref (p.length + 5), .ref (p.length + 6), .ref (p.length + 7), .ref (p.length + 8), .ref (p.length + 9), .ref (p.length + 10), .ref (p.length + 11), .null, .int 0, .int 0, .int 0, .null, .null, .null, .null, .null, .null, .null, .null, .null, .int 0, .null, .int 0, .null, .null, .int 0]) :: [zc (.inl (1, 16, [])), zc (hp_ar 6), zc (hp_ar 120), zc (hp_ar 120), zc (hp_ar 120), zc (hp_ar 120), zc (hp_ar 120), zc (hp_ar 120), zc (hp_ar 120), zc (hp_ar 120), zc (hp_ar 120)])) (by rw [List.append_assoc, sx0]; rfl) ?_
  refine ev_aload_n (pc := 92) d_N_init_92 rfl rfl (by first | rfl | exact mm_rk_rf _) ?_
  refine ev_sipush (pc := 93) (v := 1920) d_N_init_93 (by decide) ?_
  refine ev_newa (pc := 96) (t := 0) (N := 1920) rfl (Or.inl ⟨rfl, rfl⟩) ac_I d_N_init_96 (by decide) (by decide) (by decide) (by decide) (by decide) ?_
  rw [List.length_append]
  refine ev_putF (pc := 98) (fs := [.ref (p.length + 1), .ref (p.length + 2), .ref (p.length + 3), .ref (p.length + 4), .ref (p.length + 5), .ref (p.length + 6), .ref (p.length + 7), .ref (p.length + 8), .ref (p.length + 9), .ref (p.length + 10), .ref (p.length + 11), .null, .int 0, .int 0, .int 0, .null, .null, .null, .null, .null, .null, .null, .null, .null, .int 0, .null, .int 0, .null, .null, .int 0]) mm_cfs rfl ff_N_44 (by rw [List.append_assoc, gx0]; rfl) (show 11 < 30 by decide) (by rfl) d_N_init_98 (h' := p ++ (.inr (9, [.ref (p.length + 1), .ref (p.length + 2), .ref (p.length + 3), .ref (p.length + 4), .ref (p.length + 5), .ref (p.length + 6), .ref (p.length + 7), .ref (p.length + 8), .ref (p.length + 9), .ref (p.length + 10), .ref (p.length + 11), .ref (p.length + 12), .int 0, .int 0, .int 0, .null, .null, .null, .null, .null, .null, .null, .null, .null, .int 0, .null, .int 0, .null, .null, .int 0]) :: [zc (.inl (1, 16, [])), zc (hp_ar 6), zc (hp_ar 120), zc (hp_ar 120), zc (hp_ar 120), zc (hp_ar 120), zc (hp_ar 120), zc (hp_ar 120), zc (hp_ar 120), zc (hp_ar 120), zc (hp_ar 120), zc (hp_ar 1920)])) (by rw [List.append_assoc, sx0]; rfl) ?_
  refine ev_aload_n (pc := 101) d_N_init_101 rfl rfl (by first | rfl | exact mm_rk_rf _) ?_
  refine ev_iconst (pc := 102) (v := 1) d_N_init_102 rfl ?_
  refine ev_putf (pc := 103) (fs := [.ref (p.length + 1), .ref (p.length + 2), .ref (p.length + 3), .ref (p.length + 4), .ref (p.length + 5), .ref (p.length + 6), .ref (p.length + 7), .ref (p.length + 8), .ref (p.length + 9), .ref (p.length + 10), .ref (p.length + 11), .ref (p.length + 12), .int 0, .int 0, .int 0, .null, .null, .null, .null, .null, .null, .null, .null, .null, .int 0, .null, .int 0, .null, .null, .int 0]) mm_cfs fl_N_47 fw_9_12 (by rw [gx0]; rfl) (show 12 < 30 by decide) (by rfl) d_N_init_103 (h' := p ++ (.inr (9, [.ref (p.length + 1), .ref (p.length + 2), .ref (p.length + 3), .ref (p.length + 4), .ref (p.length + 5), .ref (p.length + 6), .ref (p.length + 7), .ref (p.length + 8), .ref (p.length + 9), .ref (p.length + 10), .ref (p.length + 11), .ref (p.length + 12), .int 1, .int 0, .int 0, .null, .null, .null, .null, .null, .null, .null, .null, .null, .int 0, .null, .int 0, .null, .null, .int 0]) :: [zc (.inl (1, 16, [])), zc (hp_ar 6), zc (hp_ar 120), zc (hp_ar 120), zc (hp_ar 120), zc (hp_ar 120), zc (hp_ar 120), zc (hp_ar 120), zc (hp_ar 120), zc (hp_ar 120), zc (hp_ar 120), zc (hp_ar 1920)])) (by rw [sx0]; rfl) ?_
  refine ev_aload_n (pc := 106) d_N_init_106 rfl rfl (by first | rfl | exact mm_rk_rf _) ?_
  refine ev_iconst (pc := 107) (v := 1) d_N_init_107 rfl ?_
  refine ev_putf (pc := 108) (fs := [.ref (p.length + 1), .ref (p.length + 2), .ref (p.length + 3), .ref (p.length + 4), .ref (p.length + 5), .ref (p.length + 6), .ref (p.length + 7), .ref (p.length + 8), .ref (p.length + 9), .ref (p.length + 10), .ref (p.length + 11), .ref (p.length + 12), .int 1, .int 0, .int 0, .null, .null, .null, .null, .null, .null, .null, .null, .null, .int 0, .null, .int 0, .null, .null, .int 0]) mm_cfs fl_N_51 fw_9_13 (by rw [gx0]; rfl) (show 13 < 30 by decide) (by rfl) d_N_init_108 (h' := p ++ (.inr (9, [.ref (p.length + 1), .ref (p.length + 2), .ref (p.length + 3), .ref (p.length + 4), .ref (p.length + 5), .ref (p.length + 6), .ref (p.length + 7), .ref (p.length + 8), .ref (p.length + 9), .ref (p.length + 10), .ref (p.length + 11), .ref (p.length + 12), .int 1, .int 1, .int 0, .null, .null, .null, .null, .null, .null, .null, .null, .null, .int 0, .null, .int 0, .null, .null, .int 0]) :: [zc (.inl (1, 16, [])), zc (hp_ar 6), zc (hp_ar 120), zc (hp_ar 120), zc (hp_ar 120), zc (hp_ar 120), zc (hp_ar 120), zc (hp_ar 120), zc (hp_ar 120), zc (hp_ar 120), zc (hp_ar 120), zc (hp_ar 1920)])) (by rw [sx0]; rfl) ?_
  refine ev_aload_n (pc := 111) d_N_init_111 rfl rfl (by first | rfl | exact mm_rk_rf _) ?_
  refine ev_bipush (pc := 112) (v := 12) d_N_init_112 (by decide) ?_
  refine ev_newa (pc := 114) (t := 0) (N := 12) rfl (Or.inl ⟨rfl, rfl⟩) ac_I d_N_init_114 (by decide) (by decide) (by decide) (by decide) (by decide) ?_
  rw [List.length_append]
  refine ev_putF (pc := 116) (fs := [.ref (p.length + 1), .ref (p.length + 2), .ref (p.length + 3), .ref (p.length + 4), .ref (p.length + 5), .ref (p.length + 6), .ref (p.length + 7), .ref (p.length + 8), .ref (p.length + 9), .ref (p.length + 10), .ref (p.length + 11), .ref (p.length + 12), .int 1, .int 1, .int 0, .null, .null, .null, .null, .null, .null, .null, .null, .null, .int 0, .null, .int 0, .null, .null, .int 0]) mm_cfs rfl ff_N_54 (by rw [List.append_assoc, gx0]; rfl) (show 15 < 30 by decide) (by rfl) d_N_init_116 (h' := p ++ (.inr (9, [.ref (p.length + 1), .ref (p.length + 2), .ref (p.length + 3), .ref (p.length + 4), .ref (p.length + 5), .ref (p.length + 6), .ref (p.length + 7), .ref (p.length + 8), .ref (p.length + 9), .ref (p.length + 10), .ref (p.length + 11), .ref (p.length + 12), .int 1, .int 1, .int 0, .ref (p.length + 13), .null, .null, .null, .null, .null, .null, .null, .null, .int 0, .null, .int 0, .null, .null, .int 0]) :: [zc (.inl (1, 16, [])), zc (hp_ar 6), zc (hp_ar 120), zc (hp_ar 120), zc (hp_ar 120), zc (hp_ar 120), zc (hp_ar 120), zc (hp_ar 120), zc (hp_ar 120), zc (hp_ar 120), zc (hp_ar 120), zc (hp_ar 1920), zc (hp_ar 12)])) (by rw [List.append_assoc, sx0]; rfl) ?_
  refine ev_aload_n (pc := 119) d_N_init_119 rfl rfl (by first | rfl | exact mm_rk_rf _) ?_
  refine ev_bipush (pc := 120) (v := 12) d_N_init_120 (by decide) ?_
  refine ev_newa (pc := 122) (t := 0) (N := 12) rfl (Or.inl ⟨rfl, rfl⟩) ac_I d_N_init_122 (by decide) (by decide) (by decide) (by decide) (by decide) ?_
  rw [List.length_append]
  refine ev_putF (pc := 124) (fs := [.ref (p.length + 1), .ref (p.length + 2), .ref (p.length + 3), .ref (p.length + 4), .ref (p.length + 5), .ref (p.length + 6), .ref (p.length + 7), .ref (p.length + 8), .ref (p.length + 9), .ref (p.length + 10), .ref (p.length + 11), .ref (p.length + 12), .int 1, .int 1, .int 0, .ref (p.length + 13), .null, .null, .null, .null, .null, .null, .null, .null, .int 0, .null, .int 0, .null, .null, .int 0]) mm_cfs rfl ff_N_57 (by rw [List.append_assoc, gx0]; rfl) (show 16 < 30 by decide) (by rfl) d_N_init_124 (h' := p ++ (.inr (9, [.ref (p.length + 1), .ref (p.length + 2), .ref (p.length + 3), .ref (p.length + 4), .ref (p.length + 5), .ref (p.length + 6), .ref (p.length + 7), .ref (p.length + 8), .ref (p.length + 9), .ref (p.length + 10), .ref (p.length + 11), .ref (p.length + 12), .int 1, .int 1, .int 0, .ref (p.length + 13), .ref (p.length + 14), .null, .null, .null, .null, .null, .null, .null, .int 0, .null, .int 0, .null, .null, .int 0]) :: [zc (.inl (1, 16, [])), zc (hp_ar 6), zc (hp_ar 120), zc (hp_ar 120), zc (hp_ar 120), zc (hp_ar 120), zc (hp_ar 120), zc (hp_ar 120), zc (hp_ar 120), zc (hp_ar 120), zc (hp_ar 120), zc (hp_ar 1920), zc (hp_ar 12), zc (hp_ar 12)])) (by rw [List.append_assoc, sx0]; rfl) ?_
  refine ev_aload_n (pc := 127) d_N_init_127 rfl rfl (by first | rfl | exact mm_rk_rf _) ?_
  refine ev_bipush (pc := 128) (v := 12) d_N_init_128 (by decide) ?_
  refine ev_newa (pc := 130) (t := 0) (N := 12) rfl (Or.inl ⟨rfl, rfl⟩) ac_I d_N_init_130 (by decide) (by decide) (by decide) (by decide) (by decide) ?_
  rw [List.length_append]
  refine ev_putF (pc := 132) (fs := [.ref (p.length + 1), .ref (p.length + 2), .ref (p.length + 3), .ref (p.length + 4), .ref (p.length + 5), .ref (p.length + 6), .ref (p.length + 7), .ref (p.length + 8), .ref (p.length + 9), .ref (p.length + 10), .ref (p.length + 11), .ref (p.length + 12), .int 1, .int 1, .int 0, .ref (p.length + 13), .ref (p.length + 14), .null, .null, .null, .null, .null, .null, .null, .int 0, .null, .int 0, .null, .null, .int 0]) mm_cfs rfl ff_N_60 (by rw [List.append_assoc, gx0]; rfl) (show 17 < 30 by decide) (by rfl) d_N_init_132 (h' := p ++ (.inr (9, [.ref (p.length + 1), .ref (p.length + 2), .ref (p.length + 3), .ref (p.length + 4), .ref (p.length + 5), .ref (p.length + 6), .ref (p.length + 7), .ref (p.length + 8), .ref (p.length + 9), .ref (p.length + 10), .ref (p.length + 11), .ref (p.length + 12), .int 1, .int 1, .int 0, .ref (p.length + 13), .ref (p.length + 14), .ref (p.length + 15), .null, .null, .null, .null, .null, .null, .int 0, .null, .int 0, .null, .null, .int 0]) :: [zc (.inl (1, 16, [])), zc (hp_ar 6), zc (hp_ar 120), zc (hp_ar 120), zc (hp_ar 120), zc (hp_ar 120), zc (hp_ar 120), zc (hp_ar 120), zc (hp_ar 120), zc (hp_ar 120), zc (hp_ar 120), zc (hp_ar 1920), zc (hp_ar 12), zc (hp_ar 12), zc (hp_ar 12)])) (by rw [List.append_assoc, sx0]; rfl) ?_
  refine ev_aload_n (pc := 135) d_N_init_135 rfl rfl (by first | rfl | exact mm_rk_rf _) ?_
  refine ev_bipush (pc := 136) (v := 12) d_N_init_136 (by decide) ?_
  refine ev_newa (pc := 138) (t := 0) (N := 12) rfl (Or.inl ⟨rfl, rfl⟩) ac_I d_N_init_138 (by decide) (by decide) (by decide) (by decide) (by decide) ?_
  rw [List.length_append]
  refine ev_putF (pc := 140) (fs := [.ref (p.length + 1), .ref (p.length + 2), .ref (p.length + 3), .ref (p.length + 4), .ref (p.length + 5), .ref (p.length + 6), .ref (p.length + 7), .ref (p.length + 8), .ref (p.length + 9), .ref (p.length + 10), .ref (p.length + 11), .ref (p.length + 12), .int 1, .int 1, .int 0, .ref (p.length + 13), .ref (p.length + 14), .ref (p.length + 15), .null, .null, .null, .null, .null, .null, .int 0, .null, .int 0, .null, .null, .int 0]) mm_cfs rfl ff_N_63 (by rw [List.append_assoc, gx0]; rfl) (show 18 < 30 by decide) (by rfl) d_N_init_140 (h' := p ++ (.inr (9, [.ref (p.length + 1), .ref (p.length + 2), .ref (p.length + 3), .ref (p.length + 4), .ref (p.length + 5), .ref (p.length + 6), .ref (p.length + 7), .ref (p.length + 8), .ref (p.length + 9), .ref (p.length + 10), .ref (p.length + 11), .ref (p.length + 12), .int 1, .int 1, .int 0, .ref (p.length + 13), .ref (p.length + 14), .ref (p.length + 15), .ref (p.length + 16), .null, .null, .null, .null, .null, .int 0, .null, .int 0, .null, .null, .int 0]) :: [zc (.inl (1, 16, [])), zc (hp_ar 6), zc (hp_ar 120), zc (hp_ar 120), zc (hp_ar 120), zc (hp_ar 120), zc (hp_ar 120), zc (hp_ar 120), zc (hp_ar 120), zc (hp_ar 120), zc (hp_ar 120), zc (hp_ar 1920), zc (hp_ar 12), zc (hp_ar 12), zc (hp_ar 12), zc (hp_ar 12)])) (by rw [List.append_assoc, sx0]; rfl) ?_
  refine ev_aload_n (pc := 143) d_N_init_143 rfl rfl (by first | rfl | exact mm_rk_rf _) ?_
  refine ev_bipush (pc := 144) (v := 12) d_N_init_144 (by decide) ?_
  refine ev_newa (pc := 146) (t := 0) (N := 12) rfl (Or.inl ⟨rfl, rfl⟩) ac_I d_N_init_146 (by decide) (by decide) (by decide) (by decide) (by decide) ?_
  rw [List.length_append]
  refine ev_putF (pc := 148) (fs := [.ref (p.length + 1), .ref (p.length + 2), .ref (p.length + 3), .ref (p.length + 4), .ref (p.length + 5), .ref (p.length + 6), .ref (p.length + 7), .ref (p.length + 8), .ref (p.length + 9), .ref (p.length + 10), .ref (p.length + 11), .ref (p.length + 12), .int 1, .int 1, .int 0, .ref (p.length + 13), .ref (p.length + 14), .ref (p.length + 15), .ref (p.length + 16), .null, .null, .null, .null, .null, .int 0, .null, .int 0, .null, .null, .int 0]) mm_cfs rfl ff_N_66 (by rw [List.append_assoc, gx0]; rfl) (show 19 < 30 by decide) (by rfl) d_N_init_148 (h' := p ++ (.inr (9, [.ref (p.length + 1), .ref (p.length + 2), .ref (p.length + 3), .ref (p.length + 4), .ref (p.length + 5), .ref (p.length + 6), .ref (p.length + 7), .ref (p.length + 8), .ref (p.length + 9), .ref (p.length + 10), .ref (p.length + 11), .ref (p.length + 12), .int 1, .int 1, .int 0, .ref (p.length + 13), .ref (p.length + 14), .ref (p.length + 15), .ref (p.length + 16), .ref (p.length + 17), .null, .null, .null, .null, .int 0, .null, .int 0, .null, .null, .int 0]) :: [zc (.inl (1, 16, [])), zc (hp_ar 6), zc (hp_ar 120), zc (hp_ar 120), zc (hp_ar 120), zc (hp_ar 120), zc (hp_ar 120), zc (hp_ar 120), zc (hp_ar 120), zc (hp_ar 120), zc (hp_ar 120), zc (hp_ar 1920), zc (hp_ar 12), zc (hp_ar 12), zc (hp_ar 12), zc (hp_ar 12), zc (hp_ar 12)])) (by rw [List.append_assoc, sx0]; rfl) ?_
  refine ev_aload_n (pc := 151) d_N_init_151 rfl rfl (by first | rfl | exact mm_rk_rf _) ?_
  refine ev_bipush (pc := 152) (v := 16) d_N_init_152 (by decide) ?_
  refine ev_newa (pc := 154) (t := 0) (N := 16) rfl (Or.inl ⟨rfl, rfl⟩) ac_I d_N_init_154 (by decide) (by decide) (by decide) (by decide) (by decide) ?_
  rw [List.length_append]
  refine ev_putF (pc := 156) (fs := [.ref (p.length + 1), .ref (p.length + 2), .ref (p.length + 3), .ref (p.length + 4), .ref (p.length + 5), .ref (p.length + 6), .ref (p.length + 7), .ref (p.length + 8), .ref (p.length + 9), .ref (p.length + 10), .ref (p.length + 11), .ref (p.length + 12), .int 1, .int 1, .int 0, .ref (p.length + 13), .ref (p.length + 14), .ref (p.length + 15), .ref (p.length + 16), .ref (p.length + 17), .null, .null, .null, .null, .int 0, .null, .int 0, .null, .null, .int 0]) mm_cfs rfl ff_N_69 (by rw [List.append_assoc, gx0]; rfl) (show 20 < 30 by decide) (by rfl) d_N_init_156 (h' := p ++ (.inr (9, [.ref (p.length + 1), .ref (p.length + 2), .ref (p.length + 3), .ref (p.length + 4), .ref (p.length + 5), .ref (p.length + 6), .ref (p.length + 7), .ref (p.length + 8), .ref (p.length + 9), .ref (p.length + 10), .ref (p.length + 11), .ref (p.length + 12), .int 1, .int 1, .int 0, .ref (p.length + 13), .ref (p.length + 14), .ref (p.length + 15), .ref (p.length + 16), .ref (p.length + 17), .ref (p.length + 18), .null, .null, .null, .int 0, .null, .int 0, .null, .null, .int 0]) :: [zc (.inl (1, 16, [])), zc (hp_ar 6), zc (hp_ar 120), zc (hp_ar 120), zc (hp_ar 120), zc (hp_ar 120), zc (hp_ar 120), zc (hp_ar 120), zc (hp_ar 120), zc (hp_ar 120), zc (hp_ar 120), zc (hp_ar 1920), zc (hp_ar 12), zc (hp_ar 12), zc (hp_ar 12), zc (hp_ar 12), zc (hp_ar 12), zc (hp_ar 16)])) (by rw [List.append_assoc, sx0]; rfl) ?_
  refine ev_aload_n (pc := 159) d_N_init_159 rfl rfl (by first | rfl | exact mm_rk_rf _) ?_
  refine ev_bipush (pc := 160) (v := 16) d_N_init_160 (by decide) ?_
  refine ev_newa (pc := 162) (t := 0) (N := 16) rfl (Or.inl ⟨rfl, rfl⟩) ac_I d_N_init_162 (by decide) (by decide) (by decide) (by decide) (by decide) ?_
  rw [List.length_append]
  refine ev_putF (pc := 164) (fs := [.ref (p.length + 1), .ref (p.length + 2), .ref (p.length + 3), .ref (p.length + 4), .ref (p.length + 5), .ref (p.length + 6), .ref (p.length + 7), .ref (p.length + 8), .ref (p.length + 9), .ref (p.length + 10), .ref (p.length + 11), .ref (p.length + 12), .int 1, .int 1, .int 0, .ref (p.length + 13), .ref (p.length + 14), .ref (p.length + 15), .ref (p.length + 16), .ref (p.length + 17), .ref (p.length + 18), .null, .null, .null, .int 0, .null, .int 0, .null, .null, .int 0]) mm_cfs rfl ff_N_72 (by rw [List.append_assoc, gx0]; rfl) (show 21 < 30 by decide) (by rfl) d_N_init_164 (h' := p ++ (.inr (9, [.ref (p.length + 1), .ref (p.length + 2), .ref (p.length + 3), .ref (p.length + 4), .ref (p.length + 5), .ref (p.length + 6), .ref (p.length + 7), .ref (p.length + 8), .ref (p.length + 9), .ref (p.length + 10), .ref (p.length + 11), .ref (p.length + 12), .int 1, .int 1, .int 0, .ref (p.length + 13), .ref (p.length + 14), .ref (p.length + 15), .ref (p.length + 16), .ref (p.length + 17), .ref (p.length + 18), .ref (p.length + 19), .null, .null, .int 0, .null, .int 0, .null, .null, .int 0]) :: [zc (.inl (1, 16, [])), zc (hp_ar 6), zc (hp_ar 120), zc (hp_ar 120), zc (hp_ar 120), zc (hp_ar 120), zc (hp_ar 120), zc (hp_ar 120), zc (hp_ar 120), zc (hp_ar 120), zc (hp_ar 120), zc (hp_ar 1920), zc (hp_ar 12), zc (hp_ar 12), zc (hp_ar 12), zc (hp_ar 12), zc (hp_ar 12), zc (hp_ar 16), zc (hp_ar 16)])) (by rw [List.append_assoc, sx0]; rfl) ?_
  refine ev_aload_n (pc := 167) d_N_init_167 rfl rfl (by first | rfl | exact mm_rk_rf _) ?_
  refine ev_bipush (pc := 168) (v := 16) d_N_init_168 (by decide) ?_
  refine ev_newa (pc := 170) (t := 0) (N := 16) rfl (Or.inl ⟨rfl, rfl⟩) ac_I d_N_init_170 (by decide) (by decide) (by decide) (by decide) (by decide) ?_
  rw [List.length_append]
  refine ev_putF (pc := 172) (fs := [.ref (p.length + 1), .ref (p.length + 2), .ref (p.length + 3), .ref (p.length + 4), .ref (p.length + 5), .ref (p.length + 6), .ref (p.length + 7), .ref (p.length + 8), .ref (p.length + 9), .ref (p.length + 10), .ref (p.length + 11), .ref (p.length + 12), .int 1, .int 1, .int 0, .ref (p.length + 13), .ref (p.length + 14), .ref (p.length + 15), .ref (p.length + 16), .ref (p.length + 17), .ref (p.length + 18), .ref (p.length + 19), .null, .null, .int 0, .null, .int 0, .null, .null, .int 0]) mm_cfs rfl ff_N_75 (by rw [List.append_assoc, gx0]; rfl) (show 22 < 30 by decide) (by rfl) d_N_init_172 (h' := p ++ (.inr (9, [.ref (p.length + 1), .ref (p.length + 2), .ref (p.length + 3), .ref (p.length + 4), .ref (p.length + 5), .ref (p.length + 6), .ref (p.length + 7), .ref (p.length + 8), .ref (p.length + 9), .ref (p.length + 10), .ref (p.length + 11), .ref (p.length + 12), .int 1, .int 1, .int 0, .ref (p.length + 13), .ref (p.length + 14), .ref (p.length + 15), .ref (p.length + 16), .ref (p.length + 17), .ref (p.length + 18), .ref (p.length + 19), .ref (p.length + 20), .null, .int 0, .null, .int 0, .null, .null, .int 0]) :: [zc (.inl (1, 16, [])), zc (hp_ar 6), zc (hp_ar 120), zc (hp_ar 120), zc (hp_ar 120), zc (hp_ar 120), zc (hp_ar 120), zc (hp_ar 120), zc (hp_ar 120), zc (hp_ar 120), zc (hp_ar 120), zc (hp_ar 1920), zc (hp_ar 12), zc (hp_ar 12), zc (hp_ar 12), zc (hp_ar 12), zc (hp_ar 12), zc (hp_ar 16), zc (hp_ar 16), zc (hp_ar 16)])) (by rw [List.append_assoc, sx0]; rfl) ?_
  refine ev_aload_n (pc := 175) d_N_init_175 rfl rfl (by first | rfl | exact mm_rk_rf _) ?_
  refine ev_bipush (pc := 176) (v := 64) d_N_init_176 (by decide) ?_
  refine ev_newa (pc := 178) (t := 0) (N := 64) rfl (Or.inl ⟨rfl, rfl⟩) ac_I d_N_init_178 (by decide) (by decide) (by decide) (by decide) (by decide) ?_
  rw [List.length_append]
  refine ev_putF (pc := 180) (fs := [.ref (p.length + 1), .ref (p.length + 2), .ref (p.length + 3), .ref (p.length + 4), .ref (p.length + 5), .ref (p.length + 6), .ref (p.length + 7), .ref (p.length + 8), .ref (p.length + 9), .ref (p.length + 10), .ref (p.length + 11), .ref (p.length + 12), .int 1, .int 1, .int 0, .ref (p.length + 13), .ref (p.length + 14), .ref (p.length + 15), .ref (p.length + 16), .ref (p.length + 17), .ref (p.length + 18), .ref (p.length + 19), .ref (p.length + 20), .null, .int 0, .null, .int 0, .null, .null, .int 0]) mm_cfs rfl ff_N_78 (by rw [List.append_assoc, gx0]; rfl) (show 23 < 30 by decide) (by rfl) d_N_init_180 (h' := p ++ (.inr (9, [.ref (p.length + 1), .ref (p.length + 2), .ref (p.length + 3), .ref (p.length + 4), .ref (p.length + 5), .ref (p.length + 6), .ref (p.length + 7), .ref (p.length + 8), .ref (p.length + 9), .ref (p.length + 10), .ref (p.length + 11), .ref (p.length + 12), .int 1, .int 1, .int 0, .ref (p.length + 13), .ref (p.length + 14), .ref (p.length + 15), .ref (p.length + 16), .ref (p.length + 17), .ref (p.length + 18), .ref (p.length + 19), .ref (p.length + 20), .ref (p.length + 21), .int 0, .null, .int 0, .null, .null, .int 0]) :: [zc (.inl (1, 16, [])), zc (hp_ar 6), zc (hp_ar 120), zc (hp_ar 120), zc (hp_ar 120), zc (hp_ar 120), zc (hp_ar 120), zc (hp_ar 120), zc (hp_ar 120), zc (hp_ar 120), zc (hp_ar 120), zc (hp_ar 1920), zc (hp_ar 12), zc (hp_ar 12), zc (hp_ar 12), zc (hp_ar 12), zc (hp_ar 12), zc (hp_ar 16), zc (hp_ar 16), zc (hp_ar 16), zc (hp_ar 64)])) (by rw [List.append_assoc, sx0]; rfl) ?_
  refine ev_aload_n (pc := 183) d_N_init_183 rfl rfl (by first | rfl | exact mm_rk_rf _) ?_
  refine ev_iconst (pc := 184) (v := 4) d_N_init_184 rfl ?_
  refine ev_newa (pc := 185) (t := 0) (N := 4) rfl (Or.inl ⟨rfl, rfl⟩) ac_I d_N_init_185 (by decide) (by decide) (by decide) (by decide) (by decide) ?_
  rw [List.length_append]
  refine ev_putF (pc := 187) (fs := [.ref (p.length + 1), .ref (p.length + 2), .ref (p.length + 3), .ref (p.length + 4), .ref (p.length + 5), .ref (p.length + 6), .ref (p.length + 7), .ref (p.length + 8), .ref (p.length + 9), .ref (p.length + 10), .ref (p.length + 11), .ref (p.length + 12), .int 1, .int 1, .int 0, .ref (p.length + 13), .ref (p.length + 14), .ref (p.length + 15), .ref (p.length + 16), .ref (p.length + 17), .ref (p.length + 18), .ref (p.length + 19), .ref (p.length + 20), .ref (p.length + 21), .int 0, .null, .int 0, .null, .null, .int 0]) mm_cfs rfl ff_N_81 (by rw [List.append_assoc, gx0]; rfl) (show 25 < 30 by decide) (by rfl) d_N_init_187 (h' := p ++ (.inr (9, [.ref (p.length + 1), .ref (p.length + 2), .ref (p.length + 3), .ref (p.length + 4), .ref (p.length + 5), .ref (p.length + 6), .ref (p.length + 7), .ref (p.length + 8), .ref (p.length + 9), .ref (p.length + 10), .ref (p.length + 11), .ref (p.length + 12), .int 1, .int 1, .int 0, .ref (p.length + 13), .ref (p.length + 14), .ref (p.length + 15), .ref (p.length + 16), .ref (p.length + 17), .ref (p.length + 18), .ref (p.length + 19), .ref (p.length + 20), .ref (p.length + 21), .int 0, .ref (p.length + 22), .int 0, .null, .null, .int 0]) :: [zc (.inl (1, 16, [])), zc (hp_ar 6), zc (hp_ar 120), zc (hp_ar 120), zc (hp_ar 120), zc (hp_ar 120), zc (hp_ar 120), zc (hp_ar 120), zc (hp_ar 120), zc (hp_ar 120), zc (hp_ar 120), zc (hp_ar 1920), zc (hp_ar 12), zc (hp_ar 12), zc (hp_ar 12), zc (hp_ar 12), zc (hp_ar 12), zc (hp_ar 16), zc (hp_ar 16), zc (hp_ar 16), zc (hp_ar 64), zc (hp_ar 4)])) (by rw [List.append_assoc, sx0]; rfl) ?_
  refine ev_aload_n (pc := 190) d_N_init_190 rfl rfl (by first | rfl | exact mm_rk_rf _) ?_
  refine ev_bipush (pc := 191) (v := 16) d_N_init_191 (by decide) ?_
  refine ev_newa (pc := 193) (t := 0) (N := 16) rfl (Or.inl ⟨rfl, rfl⟩) ac_I d_N_init_193 (by decide) (by decide) (by decide) (by decide) (by decide) ?_
  rw [List.length_append]
  refine ev_putF (pc := 195) (fs := [.ref (p.length + 1), .ref (p.length + 2), .ref (p.length + 3), .ref (p.length + 4), .ref (p.length + 5), .ref (p.length + 6), .ref (p.length + 7), .ref (p.length + 8), .ref (p.length + 9), .ref (p.length + 10), .ref (p.length + 11), .ref (p.length + 12), .int 1, .int 1, .int 0, .ref (p.length + 13), .ref (p.length + 14), .ref (p.length + 15), .ref (p.length + 16), .ref (p.length + 17), .ref (p.length + 18), .ref (p.length + 19), .ref (p.length + 20), .ref (p.length + 21), .int 0, .ref (p.length + 22), .int 0, .null, .null, .int 0]) mm_cfs rfl ff_N_84 (by rw [List.append_assoc, gx0]; rfl) (show 27 < 30 by decide) (by rfl) d_N_init_195 (h' := p ++ (.inr (9, [.ref (p.length + 1), .ref (p.length + 2), .ref (p.length + 3), .ref (p.length + 4), .ref (p.length + 5), .ref (p.length + 6), .ref (p.length + 7), .ref (p.length + 8), .ref (p.length + 9), .ref (p.length + 10), .ref (p.length + 11), .ref (p.length + 12), .int 1, .int 1, .int 0, .ref (p.length + 13), .ref (p.length + 14), .ref (p.length + 15), .ref (p.length + 16), .ref (p.length + 17), .ref (p.length + 18), .ref (p.length + 19), .ref (p.length + 20), .ref (p.length + 21), .int 0, .ref (p.length + 22), .int 0, .ref (p.length + 23), .null, .int 0]) :: [zc (.inl (1, 16, [])), zc (hp_ar 6), zc (hp_ar 120), zc (hp_ar 120), zc (hp_ar 120), zc (hp_ar 120), zc (hp_ar 120), zc (hp_ar 120), zc (hp_ar 120), zc (hp_ar 120), zc (hp_ar 120), zc (hp_ar 1920), zc (hp_ar 12), zc (hp_ar 12), zc (hp_ar 12), zc (hp_ar 12), zc (hp_ar 12), zc (hp_ar 16), zc (hp_ar 16), zc (hp_ar 16), zc (hp_ar 64), zc (hp_ar 4), zc (hp_ar 16)])) (by rw [List.append_assoc, sx0]; rfl) ?_
  refine ev_aload_n (pc := 198) d_N_init_198 rfl rfl (by first | rfl | exact mm_rk_rf _) ?_
  refine ev_iconst (pc := 199) (v := 4) d_N_init_199 rfl ?_
  refine ev_newa (pc := 200) (t := 0) (N := 4) rfl (Or.inl ⟨rfl, rfl⟩) ac_I d_N_init_200 (by decide) (by decide) (by decide) (by decide) (by decide) ?_
  rw [List.length_append]
  refine ev_putF (pc := 202) (fs := [.ref (p.length + 1), .ref (p.length + 2), .ref (p.length + 3), .ref (p.length + 4), .ref (p.length + 5), .ref (p.length + 6), .ref (p.length + 7), .ref (p.length + 8), .ref (p.length + 9), .ref (p.length + 10), .ref (p.length + 11), .ref (p.length + 12), .int 1, .int 1, .int 0, .ref (p.length + 13), .ref (p.length + 14), .ref (p.length + 15), .ref (p.length + 16), .ref (p.length + 17), .ref (p.length + 18), .ref (p.length + 19), .ref (p.length + 20), .ref (p.length + 21), .int 0, .ref (p.length + 22), .int 0, .ref (p.length + 23), .null, .int 0]) mm_cfs rfl ff_N_87 (by rw [List.append_assoc, gx0]; rfl) (show 28 < 30 by decide) (by rfl) d_N_init_202 (h' := p ++ (.inr (9, [.ref (p.length + 1), .ref (p.length + 2), .ref (p.length + 3), .ref (p.length + 4), .ref (p.length + 5), .ref (p.length + 6), .ref (p.length + 7), .ref (p.length + 8), .ref (p.length + 9), .ref (p.length + 10), .ref (p.length + 11), .ref (p.length + 12), .int 1, .int 1, .int 0, .ref (p.length + 13), .ref (p.length + 14), .ref (p.length + 15), .ref (p.length + 16), .ref (p.length + 17), .ref (p.length + 18), .ref (p.length + 19), .ref (p.length + 20), .ref (p.length + 21), .int 0, .ref (p.length + 22), .int 0, .ref (p.length + 23), .ref (p.length + 24), .int 0]) :: [zc (.inl (1, 16, [])), zc (hp_ar 6), zc (hp_ar 120), zc (hp_ar 120), zc (hp_ar 120), zc (hp_ar 120), zc (hp_ar 120), zc (hp_ar 120), zc (hp_ar 120), zc (hp_ar 120), zc (hp_ar 120), zc (hp_ar 1920), zc (hp_ar 12), zc (hp_ar 12), zc (hp_ar 12), zc (hp_ar 12), zc (hp_ar 12), zc (hp_ar 16), zc (hp_ar 16), zc (hp_ar 16), zc (hp_ar 64), zc (hp_ar 4), zc (hp_ar 16), zc (hp_ar 4)])) (by rw [List.append_assoc, sx0]; rfl) ?_
  exact kk
