/-! Creating. -/
theorem i_mode (md a b : Int32) : (md &&& ((a &&& (b ^^^ (-1))) ^^^ (-1))) = (md &&& ((a ^^^ (-1)) ||| b)) := by
  apply b_ext
  intro i hi
  rw [b_and, b_and, b_xor, b_and, b_xor, b_or, b_xor, b_m1 i hi]
  cases bt md i <;> cases bt a i <;> cases bt b i <;> rfl
theorem i_dir {md y : Int32} (h : (md &&& 2048) = 0) : ((md &&& y) &&& 2048) = 0 := by
  apply b_ext
  intro i hi
  have := congrArg (fun z => bt z i) h
  simp only [b_and, b_0] at this
  rw [b_and, b_and, b_0]
  cases e1 : bt md i <;> cases e2 : bt y i <;> cases e3 : bt 2048 i <;> simp_all
section
variable {X N X' N' : Nat → Nat → Int32} {β : Nat → Nat} {s p d c f : Nat}
/-- what the class's add does, pointwise -/
theorem ad_o (C : Nat → Nat → Int32) {e o : Nat} {x u md : Int32} (heo : e ≠ o) : (∀ a j, a ≠ bk o → a ≠ bk o + 1 → ¬ (a = 1 ∧ j = 2) → ad_C C e o x u md a j = cs_C C (bk e) 7 (C (bk e) 7 + 1) a j) ∧ ad_C C e o x u md (bk o) 1 = C (bk o) 1 ||| ((1 : Int32) <<< (nI 0 &&& 31)) ∧ ad_C C e o x u md 1 2 = C 1 2 + 1 ∧ ad_C C e o x u md (bk o) 2 = C 1 2 + 1 ∧ ad_C C e o x u md (bk o) 3 = C (bk e) 2 ∧ ad_C C e o x u md (bk o) 4 = x ∧ ad_C C e o x u md (bk o) 5 = u ∧ ad_C C e o x u md (bk o) 6 = C (bk e) 6 ∧ ad_C C e o x u md (bk o) 7 = 0 ∧ ad_C C e o x u md (bk o) 8 = ad_m C e md ∧ ad_C C e o x u md (bk o) 9 = 0 := by
  have hne : bk o ≠ bk e := by unfold bk; omega
  have hn1 : bk o ≠ 1 := by unfold bk; omega
  unfold ad_C bl_ent bl_beg
  refine ⟨fun a j h1 h2 h3 => ?_, ?_, ?_, ?_, ?_, ?_, ?_, ?_, ?_, ?_, ?_⟩
  · rw [cs_app, cs_app C (bk e) 7 a j]
    by_cases q : a = bk e ∧ j = 7
    · rw [if_pos q, if_pos q]
    · rw [if_neg q, if_neg q, cs_row _ h1, cs_row _ h1, cs_row _ h1, cs_row _ h1, cs_row _ h1, cs_row _ h1, cs_row _ h1, cs_row _ h1, cs_row _ h1, cs_ne _ _ h3]
  · rw [cs_row _ hne, cs_at, cs_ne _ _ (by omega), cs_ne _ _ (by omega), cs_ne _ _ (by omega), cs_ne _ _ (by omega), cs_ne _ _ (by omega), cs_ne _ _ (by omega), cs_ne _ _ (by omega), cs_ne _ _ (by omega), cs_ne _ _ (by omega)]
  · rw [cs_ne _ _ (by unfold bk; omega), cs_ne _ _ (by unfold bk; omega), cs_ne _ _ (by unfold bk; omega), cs_ne _ _ (by unfold bk; omega), cs_ne _ _ (by unfold bk; omega), cs_ne _ _ (by unfold bk; omega), cs_ne _ _ (by unfold bk; omega), cs_ne _ _ (by unfold bk; omega), cs_ne _ _ (by unfold bk; omega), cs_ne _ _ (by unfold bk; omega), cs_at]
  · rw [cs_row _ hne, cs_ne _ _ (by omega), cs_ne _ _ (by omega), cs_ne _ _ (by omega), cs_ne _ _ (by omega), cs_ne _ _ (by omega), cs_ne _ _ (by omega), cs_ne _ _ (by omega), cs_ne _ _ (by omega), cs_at]
  · rw [cs_row _ hne, cs_ne _ _ (by omega), cs_ne _ _ (by omega), cs_ne _ _ (by omega), cs_ne _ _ (by omega), cs_ne _ _ (by omega), cs_ne _ _ (by omega), cs_ne _ _ (by omega), cs_at]
  · rw [cs_row _ hne, cs_ne _ _ (by omega), cs_ne _ _ (by omega), cs_ne _ _ (by omega), cs_ne _ _ (by omega), cs_ne _ _ (by omega), cs_ne _ _ (by omega), cs_at]
  · rw [cs_row _ hne, cs_ne _ _ (by omega), cs_ne _ _ (by omega), cs_ne _ _ (by omega), cs_ne _ _ (by omega), cs_ne _ _ (by omega), cs_at]
  · rw [cs_row _ hne, cs_ne _ _ (by omega), cs_ne _ _ (by omega), cs_ne _ _ (by omega), cs_ne _ _ (by omega), cs_at]
  · rw [cs_row _ hne, cs_ne _ _ (by omega), cs_ne _ _ (by omega), cs_at]
  · rw [cs_row _ hne, cs_ne _ _ (by omega), cs_ne _ _ (by omega), cs_ne _ _ (by omega), cs_at]
  · rw [cs_row _ hne, cs_ne _ _ (by omega), cs_at]
/-- what the reference's add does, pointwise -/
theorem nE_o (C : Nat → Nat → Int32) {g k e : Nat} {x md : Int32} (hke : k ≠ e) : (∀ a j, ¬ (207 ≤ a ∧ a ≤ 215 ∧ j = e) → ¬ (a = 206 ∧ j = 0) → ¬ (a = 204 ∧ (j = 12 ∨ j = 13)) → nE_N C g k e x md a j = cs_C C 212 k (C 212 k + 1) a j) ∧ nE_N C g k e x md 206 0 = nI (e + 1) ∧ nE_N C g k e x md 204 12 = C 204 12 + 1 ∧ nE_N C g k e x md 204 13 = C 204 13 + 1 ∧ nE_N C g k e x md 207 e = C 204 12 ∧ nE_N C g k e x md 208 e = C 207 k ∧ nE_N C g k e x md 209 e = x ∧ nE_N C g k e x md 210 e = C 217 g ∧ nE_N C g k e x md 211 e = C 211 k ∧ nE_N C g k e x md 212 e = 0 ∧ nE_N C g k e x md 213 e = nE_m C k md ∧ nE_N C g k e x md 214 e = 0 ∧ nE_N C g k e x md 215 e = C 204 13 := by
  unfold nE_N
  refine ⟨fun a j h1 h2 h3 => ?_, ?_, ?_, ?_, ?_, ?_, ?_, ?_, ?_, ?_, ?_, ?_, ?_⟩
  · rw [cs_ne _ _ (by omega), cs_ne _ _ (by omega), cs_ne _ _ (by omega), cs_ne _ _ (by omega), cs_ne _ _ (by omega), cs_ne _ _ (by omega), cs_ne _ _ (by omega), cs_ne _ _ (by omega), cs_ne _ _ (by omega), cs_ne _ _ (by omega), cs_ne _ _ (by omega), cs_ne _ _ (by omega)]
  · rw [cs_ne _ _ (by omega), cs_ne _ _ (by omega), cs_ne _ _ (by omega), cs_ne _ _ (by omega), cs_ne _ _ (by omega), cs_ne _ _ (by omega), cs_ne _ _ (by omega), cs_ne _ _ (by omega), cs_ne _ _ (by omega), cs_ne _ _ (by omega), cs_ne _ _ (by omega), cs_at]
  · rw [cs_ne _ _ (by omega), cs_ne _ _ (by omega), cs_ne _ _ (by omega), cs_ne _ _ (by omega), cs_ne _ _ (by omega), cs_ne _ _ (by omega), cs_ne _ _ (by omega), cs_ne _ _ (by omega), cs_ne _ _ (by omega), cs_at]
  · rw [cs_at]
  · rw [cs_ne _ _ (by omega), cs_ne _ _ (by omega), cs_ne _ _ (by omega), cs_ne _ _ (by omega), cs_ne _ _ (by omega), cs_ne _ _ (by omega), cs_ne _ _ (by omega), cs_ne _ _ (by omega), cs_ne _ _ (by omega), cs_ne _ _ (by omega), cs_at]
  · rw [cs_ne _ _ (by omega), cs_ne _ _ (by omega), cs_ne _ _ (by omega), cs_ne _ _ (by omega), cs_ne _ _ (by omega), cs_ne _ _ (by omega), cs_ne _ _ (by omega), cs_ne _ _ (by omega), cs_at]
  · rw [cs_ne _ _ (by omega), cs_ne _ _ (by omega), cs_ne _ _ (by omega), cs_ne _ _ (by omega), cs_ne _ _ (by omega), cs_ne _ _ (by omega), cs_ne _ _ (by omega), cs_at]
  · rw [cs_ne _ _ (by omega), cs_ne _ _ (by omega), cs_ne _ _ (by omega), cs_ne _ _ (by omega), cs_ne _ _ (by omega), cs_ne _ _ (by omega), cs_at]
  · rw [cs_ne _ _ (by omega), cs_ne _ _ (by omega), cs_ne _ _ (by omega), cs_ne _ _ (by omega), cs_ne _ _ (by omega), cs_at]
  · rw [cs_ne _ _ (by omega), cs_ne _ _ (by omega), cs_ne _ _ (by omega), cs_ne _ _ (by omega), cs_at]
  · rw [cs_ne _ _ (by omega), cs_ne _ _ (by omega), cs_ne _ _ (by omega), cs_at]
  · rw [cs_ne _ _ (by omega), cs_ne _ _ (by omega), cs_at]
  · rw [cs_ne _ _ (by omega), cs_at]
/-- a new node, in a directory whose block is its own -/
theorem rT_add (h : rT X N β s p d) (hp : p < 2 ^ 30) (hd : d < 2 ^ 30) {k o g u : Nat} {x md : Int32} (hk : nv N k) (k0 : k / 20 = 0) (hu : ∀ l, nv N l → β l = β k → l = k) (c20 : nm N 0 < 20) (ho : so_fr X = some o) (hx : ∃ y, 1 ≤ y ∧ y ≤ 99 ∧ x = nI y) (hxu : nh_i N k x = none) (eg : N 217 g = nI u) (hk8 : nk_n N k < 8) (hd6 : nd_n N 20 k < 6) :
    rT (ad_C X (β k) o x (nI u) md) (nE_N N g k (nm N 0) x md) (fun j => if j = nm N 0 then o else β j) s (p + 1) (d + 1) := by
  obtain ⟨o1, o2⟩ := so_fr_ok ho
  obtain ⟨b1, b2, b3⟩ := rT_2 h k hk
  have heo : β k ≠ o := fun e => (l_mask h o1).mpr ⟨k, hk, e⟩ o2
  obtain ⟨k1, k20⟩ := l_lt0 h hk k0
  have hke : k ≠ nm N 0 := by omega
  obtain ⟨x0, x1, x2, x3, x4, x5, x6, x7, x8, x9, x10⟩ := ad_o X (x := x) (u := nI u) (md := md) heo
  obtain ⟨y0, y1, y2, y3, y4, y5, y6, y7, y8, y9, y10, y11, y12⟩ := nE_o N (g := g) (x := x) (md := md) hke
  have r1 := rT_ver h hk hu (N 212 k + 1)
  have e7 : X (bk (β k)) 7 = N 212 k := b3.2.2.2.2.1
  rw [e7] at x0
  have h6 : cs_C N 212 k (N 212 k + 1) 206 = N 206 := cs_row _ (by decide)
  have h7 : cs_C N 212 k (N 212 k + 1) 207 = N 207 := cs_row _ (by decide)
  have h8 : cs_C N 212 k (N 212 k + 1) 208 = N 208 := cs_row _ (by decide)
  have h9 : cs_C N 212 k (N 212 k + 1) 209 = N 209 := cs_row _ (by decide)
  have em : nm (cs_C N 212 k (N 212 k + 1)) 0 = nm N 0 := by unfold nm; rw [h6]
  obtain ⟨a1, a2, a3, a4⟩ := rT_11 h
  have hko : bk (β k) ≠ bk o := by unfold bk; omega
  have hp0 : nI (p - 1) + 1 = nI p := by rw [nI_1, show p - 1 + 1 = p by omega]
  obtain ⟨q, q1, q2⟩ := a4 k hk
  refine rT_new r1 (k := k) (c := nm N 0) (o := o) ((nv_c h6 k).mpr hk) k0 em.symm c20 o1 (by rw [cs_ne _ _ (by unfold bk; omega)]; exact o2) hp hd (fun a j _ g1 g2 g3 => x0 a j g1 g2 g3) (by rw [x1, cs_ne _ _ (by unfold bk; omega)]) (by rw [x2, cs_ne _ _ (by unfold bk; omega)]) y1 (fun t ht => by rw [y0 _ _ (by omega) (by omega) (by omega)]) (fun a j g1 g2 g3 => y0 a j (by omega) (by omega) (by omega)) ?_ ?_ ?_ ?_ ?_ ?_ ?_ ?_ ?_ ?_ y11 ?_ ?_ ?_
  · funext j
    rw [y0 _ _ (by omega) (by omega) (by omega)]
  · rw [y2, a1, nI_1]
  · rw [y3, (rT_10 h).1, nI_1]
  · rw [y0 _ _ (by omega) (by omega) (by omega)]
  · unfold nE
    rw [x3, x4, x5, x6, x7, x8, x9, x10, y4, y5, y6, y7, y8, y9, y10, y11, a2, a1, hp0, b3.1.1, b3.2.2.2.1, eg]
    refine ⟨⟨rfl, ?_⟩, rfl, rfl, rfl, rfl, ?_, rfl, fun j hj => absurd hj (by rw [show (0 : Int32).toNatClampNeg = 0 from rfl]; omega)⟩
    · rw [q2, if_neg (nI_pos (by omega))]
    · unfold ad_m nE_m
      rw [b3.2.2.2.2.2.1, i_mode]
  · rw [y4, a1]
  · rw [y5, h7]
  · rw [y6]; exact hx
  · intro l l1 l2 l3 l4
    rw [nv_c h6] at l1
    rw [h8, h7] at l4
    rw [h9, y6]
    intro z
    obtain ⟨g1, g2⟩ := (l_nh h hk).mpr ⟨l1, by omega, l3⟩
    have := fx_f_none _ _ _ hxu l g1 g2
    rw [decide_eq_false_iff_not] at this
    exact this ⟨l4, z⟩
  · rw [y8]; exact (rT_12 h).2.2 k hk.1
  · rw [y12]; exact (rT_10 h).1
  · rw [nk_c h6 h7 h8]; exact hk8
  · rw [nd_c h6 h7 h8]; exact hd6
theorem l_hcr (h : rR X N β s p d) (hc : c < 2) (hf : f < 6) {t u k : Nat} (ht : t ≤ 4) (et : X (cn_f c f) 3 = nI t) (et' : N 218 (6 * c + f) = nI (if t = 0 then 0 else t + 1)) (hu : u < 4) (eu : X (cn_f c f) 2 = nI u) (hk : nv N k) (ek : k / 20 = (if t = 0 then 0 else t + 1)) (x md om : Int32) : xh_cr X (cn_f c f) (β k) x md om = nh_cr N (6 * c + f) u k x md om := by
  have hT := rR_T h
  obtain ⟨n1, n2⟩ := nE_k h hk
  have e8 : X (bk (β k)) 8 = N 213 k := n1.2.2.2.2.2.1
  have e2 : X (bk (β k)) 2 = N 207 k := n1.1.1
  have ez : X (cn_f c f) 3 = 0 ↔ N 218 (6 * c + f) = 0 := by
    rw [et, et', show (0 : Int32) = nI 0 from rfl, nI_eq (by omega) (by omega), nI_eq (by split <;> omega) (by omega)]
    by_cases e : t = 0
    · simp [e]
    · simp [e]
  unfold xh_cr nh_cr
  rw [e8, e2, eu]
  simp only [ez, i_ge3]
  by_cases q1 : (N 213 k &&& 2048) = 0
  · rw [if_pos q1, if_pos q1]
  · rw [if_neg q1, if_neg q1]
    by_cases q2 : ¬ N 218 (6 * c + f) = 0
    · rw [if_pos q2, if_pos q2]
    · rw [if_neg q2, if_neg q2]
      have t0 : t = 0 := by
        have := ez.mpr (Classical.not_not.mp q2)
        rw [et, show (0 : Int32) = nI 0 from rfl, nI_eq (by omega) (by omega)] at this
        exact this
      have k0 : k / 20 = 0 := by rw [ek, if_pos t0]
      by_cases q3 : ¬ ((¬ x < 1 ∧ ¬ 99 < x) ∧ ¬ md < 0 ∧ ¬ 4095 < md ∧ (om &&& -84) = 0 ∧ ¬ (om &&& 3) = 3)
      · rw [if_pos q3, if_pos (fun z => q3 ⟨z.1, z.2.1, z.2.2.1, z.2.2.2.1⟩)]
      · have q3' := Classical.not_not.mp q3
        rw [if_neg q3]
        by_cases q4 : ¬ (md &&& 2048) = 0 ∧ ¬ om = 0
        · rw [if_pos q4, if_pos (fun z => by
            rcases z.2.2.2.2 with w | w
            · exact q4.1 w
            · exact q4.2 w)]
        · have q5 : (md &&& 2048) = 0 ∨ om = 0 := by
            rcases Classical.em ((md &&& 2048) = 0) with w | w
            · exact Or.inl w
            · exact Or.inr (Classical.byContradiction fun v => q4 ⟨w, v⟩)
          have q7 : ¬ ¬ ((¬ x < 1 ∧ ¬ 99 < x) ∧ ¬ md < 0 ∧ ¬ 4095 < md ∧ ((om &&& -84) = 0 ∧ ¬ (om &&& 3) = 3) ∧ ((md &&& 2048) = 0 ∨ om = 0)) := fun z => z ⟨q3'.1, q3'.2.1, q3'.2.2.1, q3'.2.2.2, q5⟩
          rw [if_neg q4, if_neg q7]
          have lc := l_chi hT hk x
          rw [k0, show tc 0 = 0 from rfl] at lc
          rw [lc]
          by_cases q6 : nY N u k 2
          · rw [it_t ((l_my (rR_M h) hT hk hu 2).mpr q6), if_pos q6]
            cases nh_i N k x <;> simp
          · rw [it_f (fun z => q6 ((l_my (rR_M h) hT hk hu 2).mp z)), if_neg q6]
theorem x_hcr {u k : Nat} {x md om : Int32} {g : Nat} (h : nh_cr N g u k x md om = 0) : N 218 g = 0 ∧ (∃ y, 1 ≤ y ∧ y ≤ 99 ∧ x = nI y) ∧ (om &&& -84) = 0 ∧ ((md &&& 2048) = 0 ∨ om = 0) ∧ nh_i N k x = none := by
  unfold nh_cr at h
  by_cases q1 : (N 213 k &&& 2048) = 0
  · rw [if_pos q1] at h; exact absurd h (by decide)
  · rw [if_neg q1] at h
    by_cases q2 : ¬ N 218 g = 0
    · rw [if_pos q2] at h; exact absurd h (by decide)
    · rw [if_neg q2] at h
      by_cases q3 : ¬ ((¬ x < 1 ∧ ¬ 99 < x) ∧ ¬ md < 0 ∧ ¬ 4095 < md ∧ ((om &&& -84) = 0 ∧ ¬ 3 ≤ (om &&& 3)) ∧ ((md &&& 2048) = 0 ∨ om = 0))
      · rw [if_pos q3] at h; exact absurd h (by decide)
      · rw [if_neg q3] at h
        have q3' := Classical.not_not.mp q3
        refine ⟨Classical.not_not.mp q2, ?_, q3'.2.2.2.1.1, q3'.2.2.2.2, ?_⟩
        · have z1 := q3'.1.1
          have z2 := q3'.1.2
          have : ¬ x < 0 := by
            rw [Int32.lt_iff_toInt_lt] at z1 ⊢
            have e1 : (1 : Int32).toInt = 1 := by decide
            have e0 : (0 : Int32).toInt = 0 := by decide
            omega
          obtain ⟨y, y1, y2⟩ := nI_of this
          rw [y2, show (1 : Int32) = nI 1 from rfl, nI_ltI y1 (by decide)] at z1
          rw [y2, show (99 : Int32) = nI 99 from rfl, nI_ltI (by decide) y1] at z2
          exact ⟨y, by omega, by omega, y2⟩
        · by_cases q6 : nY N u k 2
          · rw [if_pos q6] at h
            by_cases q7 : nh_i N k x = none
            · exact q7
            · rw [if_neg q7] at h; exact absurd h (by decide)
          · rw [if_neg q6] at h; exact absurd h (by decide)
theorem q_create (h : rR X N β s p d) (hp : p < 2 ^ 20) (hd : d ≤ 2 ^ 20) (hc : c < 2) (hf : f < 6) (h0 : X 201 1 = nI 0) (h0' : N 204 26 = nI 0) {t : Nat} (ht : t ≤ 4) (et : X (cn_f c f) 3 = nI t) {x md om : Int32} (e0 : N 228 0 = x) (e1 : N 228 1 = md) (e2 : N 228 2 = om) : rZ s p d (xe_R X (cn_f c f) t x md om) (nE_R N (6 * c + f) (if t = 0 then 0 else t + 1) s) := by
  obtain ⟨t', t1, t2, t3, u1, u2, u3⟩ := f_view h hc hf
  have e : t' = t := by
    rw [et, nI_eq (by omega) (by omega)] at t2
    exact t2.symm
  subst e
  have hT := rR_T h
  unfold xe_R nE_R
  rw [e0, e1, e2]
  by_cases q1 : X (cn_f c f) 0 = 0
  · rw [if_pos q1, if_pos (u1.mp q1)]
    exact rZ_e h h0' _
  · rw [if_neg q1, if_neg (fun z => q1 (u1.mpr z))]
    obtain ⟨v1, v2, v3, v4⟩ := u3 q1
    by_cases q2 : ¬ X (cn_f c f) 1 = 0
    · rw [if_pos q2, if_pos (fun z => q2 (v2.mpr z))]
      exact rZ_e h h0' _
    · rw [if_neg q2, if_neg (fun z => q2 (fun w => z (v2.mp w)))]
      rw [v4]
      cases e : nc_i N (if t' = 0 then 0 else t' + 1) (N 219 (6 * c + f)) with
      | none => exact rZ_e h h0' _
      | some k =>
        simp only [Option.map_some]
        obtain ⟨_, k1, k2, k3⟩ := nc_v (tc_n t1).2 (rT_nm hT) e
        obtain ⟨u, w1, w2, w3⟩ := v1.2.1
        have eus : nus N (6 * c + f) = u := by unfold nus; rw [w3, nI_clamp (by omega)]
        have eh := l_hcr h hc hf t1 et t3 w1 w2 k2 k1 x md om
        rw [eus, eh]
        by_cases q3 : ¬ nh_cr N (6 * c + f) u k x md om = 0
        · rw [if_pos q3, if_pos q3]
          exact rZ_e h h0' _
        · rw [if_neg q3, if_neg q3]
          obtain ⟨x1, x2, x3, x4, x5⟩ := x_hcr (Classical.not_not.mp q3)
          have t0 : t' = 0 := by
            rw [t3, show (0 : Int32) = nI 0 from rfl, nI_eq (by split <;> omega) (by omega)] at x1
            split at x1
            · assumption
            · omega
          have k0 : k / 20 = 0 := by rw [k1, if_pos t0]
          have lk := l_nk hT k2
          rw [k0, show tc 0 = 0 from rfl] at lk
          obtain ⟨m8, m6⟩ := rT_14 hT k k2
          have m20 := (rT_nm hT 0 (by decide)).1
          rw [(rT_2 hT k k2).2.2.1.1, lk, l_dep hT k2 k0, l_nn hT, l_nb hT, l_need hT k2 k0]
          by_cases q4 : nk_n N k < 8 ∧ nd_n N 20 k < 6 ∧ nm N 0 < 20 ∧ nb_n N s + (1 + nn_n N s k) ≤ 64
          · rw [if_pos q4, if_pos ⟨by omega, by omega, by omega, by omega⟩]
            obtain ⟨β1, d1, g1, g2, g3, g4, g5, g6, g7, g8⟩ := rT_chg hT k2 k0 (by rw [l_nb hT, l_need hT k2 k0]; omega) hd
            rw [l_nb hT] at g8
            obtain ⟨o, ho⟩ := fr_ex (X := cg_C X (β k)) (by omega)
            rw [ho]
            simp only
            obtain ⟨n1, n2⟩ := nE_k h k2
            have e6 : nx_C N s k 206 = N 206 := nx_Cc N s _ (by decide) (by decide)
            have e7 : nx_C N s k 207 = N 207 := nx_Cc N s _ (by decide) (by decide)
            have e8 : nx_C N s k 208 = N 208 := nx_Cc N s _ (by decide) (by decide)
            have e9 : nx_C N s k 209 = N 209 := nx_Cc N s _ (by decide) (by decide)
            have e13 : nx_C N s k 213 = N 213 := nx_Cc N s _ (by decide) (by decide)
            have e17 : nx_C N s k 217 = N 217 := nx_Cc N s _ (by decide) (by decide)
            have em : nm (nx_C N s k) 0 = nm N 0 := by unfold nm; rw [e6]
            have kv := (nv_c e6 k).mpr k2
            have kc : k ≠ nm N 0 := by have := (l_lt0 hT k2 k0).1; omega
            have rA := rT_add g1 (by omega) (by omega) (g := 6 * c + f) (u := u) (x := x) (md := md) kv k0 (fun l hl => g6 l ((nv_c e6 l).mp hl)) (by omega) ho x2 (by rw [nh_c e6 e7 e8 e9]; exact x5) (by rw [e17]; exact w3) (by rw [nk_c e6 e7 e8]; exact q4.1) (by rw [nd_c e6 e7 e8]; exact q4.2.1)
            rw [em, g4] at rA
            obtain ⟨o1, o2⟩ := so_fr_ok ho
            have hgo : ob_i X (β k) ≠ o := by
              intro z
              have := (l_mask g1 o1).mpr ⟨k, kv, by rw [g4, z]⟩
              exact this o2
            obtain ⟨y0, y1, y2, y3, y4, y5, y6, y7, y8, y9, y10⟩ := ad_o (cg_C X (β k)) (x := x) (u := nI u) (md := md) hgo
            obtain ⟨z0, z1, z2, z3, z4, z5, z6, z7, z8, z9, z10, z11, z12⟩ := nE_o (nx_C N s k) (g := 6 * c + f) (x := x) (md := md) kc
            have ob64 := ob_i_lt (C := X) n2
            have hXr : ∀ a, 131 ≤ a → ad_C (cg_C X (β k)) (ob_i X (β k)) o x (nI u) md a = X a := by
              intro a a1
              funext j
              rw [y0 a j (by unfold bk; omega) (by unfold bk; omega) (by omega), cs_ne _ _ (by unfold bk; omega), cg_out n2 (Or.inr a1)]
            have hNr : ∀ a, (a = 205 ∨ 217 ≤ a) → nE_N (nx_C N s k) (6 * c + f) k (nm N 0) x md a = N a := by
              intro a a1
              funext j
              rw [z0 a j (by omega) (by omega) (by omega), cs_ne _ _ (by omega), nx_Cc N s _ (by omega) (by omega)]
            obtain ⟨a1, a2, a3, a4⟩ := rT_11 hT
            have p4 : nx_C N s k 204 12 = nI p := by rw [nx_C4 N s _ (by decide)]; exact a1
            have hR : rR (ad_C (cg_C X (β k)) (ob_i X (β k)) o x (nI u) md) (nE_N (nx_C N s k) (6 * c + f) k (nm N 0) x md) (fun j => if j = nm N 0 then o else β1 j) s (p + 1) (d1 + 1) := by
              refine rR_cT h (fun a a1 _ => hXr a a1) hNr (fun j hj => ?_) rA ?_
              · rw [z0 204 j (by omega) (by omega) (by omega), cs_ne _ _ (by omega), nx_C4 N s _ (by omega)]
              · refine rF_c (fun a ha => hXr a (by omega)) (fun a g1 g2 => hNr a (by omega)) (Nat.le_refl _) (by omega) (by omega) (fun l hl l0 => ?_) (rR_F h)
                by_cases e : l = nm N 0
                · refine Or.inl ?_
                  rw [e, z4, p4]
                · refine Or.inr ⟨l, ?_, l0, ?_, ?_⟩
                  · have := hl.2
                    rw [l0] at this
                    have mB : nm (nE_N (nx_C N s k) (6 * c + f) k (nm N 0) x md) 0 = nm N 0 + 1 := by
                      show (nE_N (nx_C N s k) (6 * c + f) k (nm N 0) x md 206 0).toNatClampNeg = _
                      rw [z1, nI_clamp (by omega)]
                    rw [mB] at this
                    refine ⟨hl.1, ?_⟩
                    rw [l0]
                    omega
                  · rw [z0 207 l (by omega) (by omega) (by omega), cs_ne _ _ (by omega), e7]
                  · rw [z0 213 l (by omega) (by omega) (by omega), cs_ne _ _ (by omega), e13]
            have epath : ad_C (cg_C X (β k)) (ob_i X (β k)) o x (nI u) md (bk o) 2 = nI p := by
              rw [y3, cg_out n2 (Or.inl (by decide)), a2, nI_1, show p - 1 + 1 = p by omega]
            have hF : 131 ≤ cn_f c f := by unfold cn_f; omega
            unfold xe_C nE_C
            rw [w2, epath, a1]
            generalize hA : ad_C (cg_C X (β k)) (ob_i X (β k)) o x (nI u) md = A at *
            generalize hB : nE_N (nx_C N s k) (6 * c + f) k (nm N 0) x md = B at *
            have hR2 : rR (fi_take A (cn_f c f) (nI u) (nI 0) (nI p)) (cs_C (cs_C B 219 (6 * c + f) (nI p)) 220 (6 * c + f) (-1)) (fun j => if j = nm N 0 then o else β1 j) s (p + 1) (d1 + 1) := by
              refine rR_take hR hc hf (Nat.zero_le _) w1 (by omega) (fun a b1 b2 => ?_) (fun a j b1 b2 b3 => ?_) ?_ ?_ ?_ ?_
              · rw [cs_row _ (by omega), cs_row _ (by omega)]
              · rw [cs_ne _ _ (by omega), cs_ne _ _ (by omega)]
              · rw [cs_ne _ _ (by omega), cs_ne _ _ (by omega), hNr 217 (by omega)]
                exact w3
              · rw [cs_ne _ _ (by omega), cs_ne _ _ (by omega), hNr 218 (by omega)]
                exact x1
              · rw [cs_ne _ _ (by omega), cs_at]
              · rw [cs_at]
                decide
            have hR3 : rR (fi_open (fi_take A (cn_f c f) (nI u) (nI 0) (nI p)) (cn_f c f) om) (cs_C (cs_C (cs_C B 219 (6 * c + f) (nI p)) 220 (6 * c + f) om) 221 (6 * c + f) 0) (fun j => if j = nm N 0 then o else β1 j) s (p + 1) (d1 + 1) := by
              refine rR_open hR2 hc hf (i_om x3) ?_ (fun w => ⟨?_, fun l l1 l2 l3 => ?_⟩) (fun a b1 b2 => ?_) (fun a j b1 b2 b3 => ?_) ?_ ?_ ?_ ?_ ?_
              · unfold fi_take
                rw [cs_ne _ _ (by omega), cs_ne _ _ (by omega), cs_ne _ _ (by omega), cs_ne _ _ (by omega), cs_at]
                decide
              · unfold fi_take
                rw [cs_ne _ _ (by omega), cs_at]
              · have hv : nv B l := (nv_c (by rw [cs_row _ (by decide), cs_row _ (by decide)]) l).mp l1
                rw [cs_ne _ _ (by omega), cs_ne _ _ (by omega), cs_ne _ _ (by omega), cs_at] at l3
                rw [cs_ne _ _ (by omega), cs_ne _ _ (by omega)]
                have : l = nm N 0 := by
                  have v0 : nv B (nm N 0) := by
                    refine ⟨by omega, ?_⟩
                    rw [show nm N 0 / 20 = 0 by omega]
                    show _ < (B 206 0).toNatClampNeg
                    rw [z1, nI_clamp (by omega)]
                    omega
                  refine rT_4 (rR_T hR) l _ hv v0 (by omega) ?_
                  rw [l3, z4, p4]
                rw [this, z10]
                unfold nE_m
                refine i_dir ?_
                rcases x4 with r | r
                · exact r
                · exact absurd (by rw [r]; decide) w
              · rw [cs_row _ (by omega), cs_row _ (by omega), cs_row _ (by omega), cs_row _ (by omega), cs_row _ (by omega)]
              · rw [cs_ne _ _ (by omega), cs_ne _ _ (by omega), cs_ne _ _ (by omega), cs_ne _ _ (by omega), cs_ne _ _ (by omega)]
              · rw [cs_ne _ _ (by omega), cs_ne _ _ (by omega), cs_ne _ _ (by omega), cs_ne _ _ (by omega), cs_ne _ _ (by omega)]
              · rw [cs_ne _ _ (by omega), cs_ne _ _ (by omega), cs_ne _ _ (by omega), cs_ne _ _ (by omega), cs_ne _ _ (by omega)]
              · rw [cs_ne _ _ (by omega), cs_ne _ _ (by omega), cs_at, cs_ne _ _ (by omega), cs_at]
              · rw [cs_ne _ _ (by omega), cs_at]
              · rw [cs_at]
            have v0 : nv (cs_C (cs_C (cs_C B 219 (6 * c + f) (nI p)) 220 (6 * c + f) om) 221 (6 * c + f) 0) (nm N 0) := by
              refine (nv_c (C := B) (by rw [cs_row _ (by decide), cs_row _ (by decide), cs_row _ (by decide)]) _).mpr ⟨by omega, ?_⟩
              rw [show nm N 0 / 20 = 0 by omega]
              show _ < (B 206 0).toNatClampNeg
              rw [z1, nI_clamp (by omega)]
              omega
            have hR4 := rR_v hR3 (by omega) v0 (by
              unfold fi_open fi_take
              rw [cs_row _ (by unfold cn_f; omega), cs_row _ (by unfold cn_f; omega), cs_row _ (by unfold cn_f; omega), cs_row _ (by unfold cn_f; omega), cs_row _ (by unfold cn_f; omega), cs_row _ (by unfold cn_f; omega), cs_row _ (by unfold cn_f; omega), cs_row _ (by unfold cn_f; omega), hXr 201 (by decide)]
              exact h0)
            simp only [if_true] at hR4
            have eF : nE_F B (6 * c + f) (nI p) om = nt_v (cs_C (cs_C (cs_C B 219 (6 * c + f) (nI p)) 220 (6 * c + f) om) 221 (6 * c + f) 0) (nm N 0) 0 := by
              unfold nE_F nt_v
              rw [cs_ne _ _ (show ¬ (207 = 221 ∧ nm N 0 = 6 * c + f) by omega), cs_ne _ _ (show ¬ (207 = 220 ∧ nm N 0 = 6 * c + f) by omega), cs_ne _ _ (show ¬ (207 = 219 ∧ nm N 0 = 6 * c + f) by omega), cs_ne _ _ (show ¬ (212 = 221 ∧ nm N 0 = 6 * c + f) by omega), cs_ne _ _ (show ¬ (212 = 220 ∧ nm N 0 = 6 * c + f) by omega), cs_ne _ _ (show ¬ (212 = 219 ∧ nm N 0 = 6 * c + f) by omega), z4, z9, p4]
            rw [eF]
            exact rZ_k hR4 0 (by decide) (by omega) (Nat.le_refl _) (by omega)
          · rw [if_neg q4, if_neg (fun z => q4 ⟨by omega, by omega, by omega, by omega⟩)]
            exact rZ_e h h0' _
end
