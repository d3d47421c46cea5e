/-! Opening. -/
theorem i_neg (x : Int32) : x < 0 ↔ bt x 31 = true := by
  have e : x.toBitVec.msb = decide (x.toBitVec.toInt < 0) := BitVec.msb_eq_toInt
  rw [Int32.lt_iff_toInt_lt]
  show x.toBitVec.toInt < (0 : Int32).toInt ↔ x.toBitVec.getLsbD 31 = true
  rw [BitVec.msb_eq_getLsbD_last] at e
  rw [show x.toBitVec.getLsbD 31 = x.toBitVec.getLsbD (32 - 1) from rfl, e, decide_eq_true_eq]
  rfl
theorem i_om {m : Int32} (h : (m &&& -84) = 0) : ¬ m < 0 := by
  rw [i_neg]
  intro z
  have := congrArg (fun y => bt y 31) h
  simp only [b_and, b_0, z] at this
  revert this
  decide +kernel
theorem i_3 (m : Int32) : (m &&& 3) = 0 ∨ (m &&& 3) = 1 ∨ (m &&& 3) = 2 ∨ (m &&& 3) = 3 := by
  have e3 : ∀ i, i < 32 → bt 3 i = decide (i < 2) := by decide +kernel
  have e : ∀ y : Int32, (∀ i, i < 32 → bt y i = (bt m i && decide (i < 2))) → (m &&& 3) = y := by
    intro y hy
    apply b_ext
    intro i hi
    rw [b_and, e3 i hi, hy i hi]
  have k0 : ∀ i, i < 32 → bt 0 i = false := by decide +kernel
  have k1 : ∀ i, i < 32 → bt 1 i = decide (i = 0) := by decide +kernel
  have k2 : ∀ i, i < 32 → bt 2 i = decide (i = 1) := by decide +kernel
  cases a : bt m 0 <;> cases b : bt m 1
  · refine Or.inl (e 0 fun i hi => ?_)
    rw [k0 i hi]
    rcases Nat.lt_or_ge i 2 with q | q
    · have : i = 0 ∨ i = 1 := by omega
      rcases this with r | r <;> simp [r, a, b]
    · simp [Nat.not_lt.mpr q]
  · refine Or.inr (Or.inr (Or.inl (e 2 fun i hi => ?_)))
    rw [k2 i hi]
    rcases Nat.lt_or_ge i 2 with q | q
    · have : i = 0 ∨ i = 1 := by omega
      rcases this with r | r <;> simp [r, a, b]
    · have : i ≠ 1 := by omega
      simp [Nat.not_lt.mpr q, this]
  · refine Or.inr (Or.inl (e 1 fun i hi => ?_))
    rw [k1 i hi]
    rcases Nat.lt_or_ge i 2 with q | q
    · have : i = 0 ∨ i = 1 := by omega
      rcases this with r | r <;> simp [r, a, b]
    · have : i ≠ 0 := by omega
      simp [Nat.not_lt.mpr q, this]
  · refine Or.inr (Or.inr (Or.inr (e 3 fun i hi => ?_)))
    rw [e3 i hi]
    rcases Nat.lt_or_ge i 2 with q | q
    · have : i = 0 ∨ i = 1 := by omega
      rcases this with r | r <;> simp [r, a, b]
    · simp [Nat.not_lt.mpr q]
theorem i_ge3 (m : Int32) : 3 ≤ (m &&& 3) ↔ (m &&& 3) = 3 := by
  rcases i_3 m with e | e | e | e <;> rw [e] <;> decide
theorem i_le0 (m : Int32) : (m &&& 3) ≤ 0 ↔ (m &&& 3) = 0 := by
  rcases i_3 m with e | e | e | e <;> rw [e] <;> decide
theorem it_c {α : Type} {P Q : Prop} (h : P ↔ Q) (a b : α) : it_P P a b = it_P Q a b := by rw [propext h]
theorem bl_z0 (C : Nat → Nat → Int32) (b l : Nat) : bl_z C b l 0 = C := by
  funext i j
  unfold bl_z
  rw [if_neg (by omega)]
section
variable {X N X' N' : Nat → Nat → Int32} {β : Nat → Nat} {s p d c f : Nat}
/-- is a node open -/
theorem l_open (h : rR X N β s p d) {t q : Nat} (ht : t ≤ 4) (hp : p < 2 ^ 30) (hq : q < p) : fo_a X (nI t) (nI q) ↔ nb_a N (nI (if t = 0 then 0 else t + 1)) (nI q) := by
  have key : ∀ c f, c < 2 → f < 6 → (fo_P X (cn_f c f) (nI t) (nI q) ↔ nb_o N (nI (if t = 0 then 0 else t + 1)) (nI q) (6 * c + f)) := by
    intro c f hc hf
    obtain ⟨t', t1, t2, t3, t4⟩ := rR_F h c hc f hf
    unfold fo_P nb_o
    rw [t2, t3]
    rcases t4 with t4 | ⟨t5, t6, t7⟩
    · exact ⟨fun z => absurd t4.2.1 z.1, fun z => absurd t4.2.2 z.1⟩
    · obtain ⟨a1, a2, ⟨q', q1, q2, q3⟩, a4⟩ := t7
      rw [q2, q3]
      have e : nI t' = nI t ↔ nI (if t' = 0 then 0 else t' + 1) = nI (if t = 0 then 0 else t + 1) := by
        rw [nI_eq (by omega) (by omega), nI_eq (by split <;> omega) (by split <;> omega)]
        constructor
        · intro z; rw [z]
        · intro z; split at z <;> split at z <;> omega
      rw [e]
      rcases a4 with w | w
      · exact ⟨fun z => absurd w.1 z.1, fun z => absurd w.2 z.2.1⟩
      · exact ⟨fun z => ⟨t6, w.2.1, z.2⟩, fun z => ⟨w.1, z.2.2⟩⟩
  constructor
  · rintro ⟨c, f, c1, f1, z⟩
    exact ⟨6 * c + f, by omega, (key c f c1 f1).mp z⟩
  · rintro ⟨g, g1, z⟩
    refine ⟨g / 6, g % 6, by omega, by omega, (key _ _ (by omega) (by omega)).mpr ?_⟩
    rw [show 6 * (g / 6) + g % 6 = g by omega]
    exact z
theorem l_myo (h : rR X N β s p d) {k u : Nat} (hk : nv N k) (hu : u < 4) (x : Int32) : my_o X (nI u) (so_abi X (tc (k / 20)) (β k)) x ↔ ¬ N 208 k < 0 ∧ nY N u (np N k) x := by
  have hT := rR_T h
  unfold my_o
  rw [l_abi hT hk]
  by_cases e : k % 20 = 0
  · rw [if_pos e]
    constructor
    · rintro ⟨a, z, _⟩; cases z
    · rintro ⟨z, _⟩; exact absurd ((l_neg hT hk).mpr e) z
  · obtain ⟨c1, c2, c3, c4, c5, c6, c7⟩ := l_par hT hk e
    rw [if_neg e]
    constructor
    · rintro ⟨a, z, w⟩
      have := Option.some.inj z
      subst this
      exact ⟨c6, (l_my (rR_M h) hT c2 hu x).mp w⟩
    · rintro ⟨_, w⟩
      exact ⟨_, rfl, (l_my (rR_M h) hT c2 hu x).mpr w⟩
theorem l_hop (h : rR X N β s p d) (hp : p < 2 ^ 30) (hc : c < 2) (hf : f < 6) {t u k : Nat} (ht : t ≤ 4) (et : X (cn_f c f) 3 = nI t) (et' : N 218 (6 * c + f) = nI (if t = 0 then 0 else t + 1)) (hu : u < 4) (eu : X (cn_f c f) 2 = nI u) (hk : nv N k) (ek : k / 20 = (if t = 0 then 0 else t + 1)) (e9 : N 219 (6 * c + f) = N 207 k) (m : Int32) : xh_open X (cn_f c f) t (β k) m = nh_open N (6 * c + f) u k m := by
  have hT := rR_T h
  obtain ⟨n1, n2⟩ := nE_k h hk
  have e8 : X (bk (β k)) 8 = N 213 k := n1.2.2.2.2.2.1
  have e2 : X (bk (β k)) 2 = N 207 k := n1.1.1
  obtain ⟨q, q1, q2⟩ := (rT_11 hT).2.2.2 k hk
  have tct : tc (k / 20) = t := by rw [ek]; exact (tc_n ht).1
  have ez : X (cn_f c f) 3 = 0 ↔ N 218 (6 * c + f) = 0 := by
    rw [et, et', show (0 : Int32) = nI 0 from rfl, nI_eq (by omega) (by omega), nI_eq (by split <;> omega) (by omega)]
    by_cases e : t = 0
    · simp [e]
    · simp [e]
  have m1 : xo_may X (X (cn_f c f) 2) t (β k) m ↔ nm_may N u k m := by
    unfold xo_may nm_may
    rw [eu, l_my (rR_M h) hT hk hu, l_my (rR_M h) hT hk hu, i_le0]
    have := l_myo h hk hu 2
    rw [tct] at this
    rw [this]
  have m2 : fo_a X (X (cn_f c f) 3) (X (bk (β k)) 2) ↔ nb_a N (N 218 (6 * c + f)) (N 219 (6 * c + f)) := by
    rw [et, et', e2, e9, q2]
    exact l_open h ht hp q1
  unfold xh_open nh_open
  rw [e8, it_c m1, it_c (and_congr Iff.rfl m2)]
  simp only [ez, i_ge3]
theorem x_hop {t i : Nat} {m : Int32} (h : xh_open X (cn_f c f) t i m = 0) : (m &&& -84) = 0 ∧ ¬ (¬ (X (bk i) 8 &&& 2048) = 0 ∧ ¬ m = 0) ∧ ¬ (¬ X (cn_f c f) 3 = 0 ∧ ¬ m = 0) := by
  unfold xh_open at h
  by_cases q1 : ¬ ((m &&& -84) = 0 ∧ ¬ (m &&& 3) = 3)
  · rw [if_pos q1] at h; exact absurd h (by decide)
  · rw [if_neg q1] at h
    by_cases q2 : ¬ (X (bk i) 8 &&& 2048) = 0 ∧ ¬ m = 0
    · rw [if_pos q2] at h; exact absurd h (by decide)
    · rw [if_neg q2] at h
      by_cases q3 : ¬ X (cn_f c f) 3 = 0 ∧ ¬ m = 0
      · rw [if_pos q3] at h; exact absurd h (by decide)
      · exact ⟨(Classical.not_not.mp q1).1, q2, q3⟩
/-- a node is cut to length 0 -/
theorem rT_cut (h : rT X N β s p d) {k : Nat} (hk : nv N k) (hu : ∀ l, nv N l → β l = β k → l = k) : rT (cs_C X (bk (β k)) 9 (nI 0)) (cs_C N 214 k 0) β s p d := by
  obtain ⟨b1, b2, b3⟩ := rT_2 h k hk
  have o : ∀ j, j ≠ 9 → cs_C X (bk (β k)) 9 (nI 0) (bk (β k)) j = X (bk (β k)) j := fun j hj => cs_ne _ _ (by omega)
  have o2 : ∀ a, a ≠ 214 → cs_C N 214 k 0 a = N a := fun a ha => cs_row _ ha
  refine rT_edit h hk hu (fun a j _ h1 h2 => cs_ne _ _ (by omega)) (o 1 (by decide)) (fun a j h1 h2 h3 => cs_ne _ _ (by omega)) (fun j _ => cs_ne _ _ (by omega)) (fun j _ _ => cs_ne _ _ (by omega)) ?_ (Or.inl (cs_ne _ _ (by omega))) ?_ ?_ ?_
  · unfold nE at b3 ⊢
    rw [o 2 (by decide), o 3 (by decide), o 4 (by decide), o 5 (by decide), o 6 (by decide), o 7 (by decide), o 8 (by decide), cs_at, o2 207 (by decide), o2 208 (by decide), o2 209 (by decide), o2 210 (by decide), o2 211 (by decide), o2 212 (by decide), o2 213 (by decide), cs_at]
    exact ⟨b3.1, b3.2.1, b3.2.2.1, b3.2.2.2.1, b3.2.2.2.2.1, b3.2.2.2.2.2.1, rfl, fun j hj => absurd hj (by rw [show (0 : Int32).toNatClampNeg = 0 from rfl]; omega)⟩
  · rw [cs_at]
    exact fun _ => rfl
  · rw [o2 211 (by decide)]
    exact (rT_12 h).2.2 k hk.1
  · rw [cs_at]
    decide
theorem rR_opn (h : rR X N β s p d) (hp : p < 2 ^ 30) (hc : c < 2) (hf : f < 6) (h0 : X 201 1 = nI 0) {t k : Nat} {m : Int32} (hk : nv N k) (ek : k / 20 = (if t = 0 then 0 else t + 1)) (ht : t ≤ 4) (et : X (cn_f c f) 3 = nI t) (hm : (m &&& -84) = 0) (huse : ¬ X (cn_f c f) 0 = 0) (e9 : N 219 (6 * c + f) = N 207 k) (hw1 : ¬ (¬ (N 213 k &&& 2048) = 0 ∧ ¬ m = 0)) (hw2 : ¬ (¬ X (cn_f c f) 3 = 0 ∧ ¬ m = 0)) : rR (rp_v (fi_open X (cn_f c f) m) (bk (β k)) 0) (nO_fin N (6 * c + f) k m) β s p d := by
  have hT := rR_T h
  have m0 : ¬ (m &&& 3) = 0 → ¬ m = 0 := by
    intro z e
    apply z
    rw [e]
    decide
  have hR : rR (fi_open X (cn_f c f) m) (cs_C (cs_C N 220 (6 * c + f) m) 221 (6 * c + f) 0) β s p d := by
    refine rR_open h hc hf (i_om hm) huse (fun z => ?_) (fun a a1 a2 => ?_) (fun a j a1 a2 a3 => ?_) ?_ ?_ ?_ ?_ ?_
    · have z1 : X (cn_f c f) 3 = 0 := Classical.byContradiction fun w => hw2 ⟨w, m0 z⟩
      refine ⟨z1, fun l l1 l2 l3 => ?_⟩
      have t0 : t = 0 := by
        rw [et, show (0 : Int32) = nI 0 from rfl, nI_eq (by omega) (by omega)] at z1
        exact z1
      rw [if_pos t0] at ek
      have : l = k := rT_4 hT l k l1 hk (by omega) (by rw [l3, e9])
      rw [this]
      exact Classical.byContradiction fun w => hw1 ⟨w, m0 z⟩
    · rw [cs_row _ (by omega), cs_row _ (by omega)]
    · rw [cs_ne _ _ (by omega), cs_ne _ _ (by omega)]
    · rw [cs_ne _ _ (by omega), cs_ne _ _ (by omega)]
    · rw [cs_ne _ _ (by omega), cs_ne _ _ (by omega)]
    · rw [cs_ne _ _ (by omega), cs_ne _ _ (by omega)]
    · rw [cs_ne _ _ (by omega), cs_at]
    · rw [cs_at]
  unfold nO_fin
  refine rR_v hR hp ((nv_c ?_ k).mpr hk) ?_
  · rw [cs_row _ (by decide), cs_row _ (by decide)]
  · unfold fi_open
    rw [cs_row _ (by unfold cn_f; omega), cs_row _ (by unfold cn_f; omega), cs_row _ (by unfold cn_f; omega)]
    exact h0
/-- trees change, but neither paths nor modes -/
theorem rR_chg {β' : Nat → Nat} {d' : Nat} (h : rR X N β s p d) (hp : p < 2 ^ 30) (hX : ∀ a, 131 ≤ a → X' a = X a) (hN : ∀ a, (a ≤ 208 ∨ a = 213 ∨ 217 ≤ a) → a ≠ 204 → N' a = N a) (hN4 : ∀ j, j ≠ 13 → N' 204 j = N 204 j) (hT : rT X' N' β' s p d') : rR X' N' β' s p d' :=
  rR_cT h (fun a a1 _ => hX a a1) (fun a ha => hN a (by omega) (by omega)) (fun j hj => hN4 j (by omega)) hT (rF_t (fun a ha => hX a (by omega)) (fun a a1 a2 => hN a (by omega) (by omega)) (hN _ (by decide) (by decide)) (hN _ (by decide) (by decide)) (hN _ (by decide) (by decide)) hp (rR_F h))
theorem q_open (h : rR X N β s p d) (hp : p < 2 ^ 30) (hd : d ≤ 2 ^ 20) (hc : c < 2) (hf : f < 6) (h0 : X 201 1 = nI 0) (h0' : N 204 26 = nI 0) {t : Nat} (ht : t ≤ 4) (et : X (cn_f c f) 3 = nI t) {m : Int32} (em : N 228 0 = m) : rZ s p d (xo_R X (cn_f c f) t m) (nO_R N (6 * c + f) (if t = 0 then 0 else t + 1) s) := by
  obtain ⟨t', t1, t2, t3, u1, u2, u3⟩ := f_view h hc hf
  have e : t' = t := by
    rw [et, nI_eq (by omega) (by omega)] at t2
    exact t2.symm
  subst e
  have hT := rR_T h
  unfold xo_R nO_R
  rw [em]
  by_cases q1 : X (cn_f c f) 0 = 0
  · rw [if_pos q1, if_pos (u1.mp q1)]
    exact rZ_e h h0' _
  · rw [if_neg q1, if_neg (fun z => q1 (u1.mpr z))]
    obtain ⟨v1, v2, v3, v4⟩ := u3 q1
    by_cases q2 : ¬ X (cn_f c f) 1 = 0
    · rw [if_pos q2, if_pos (fun z => q2 (v2.mpr z))]
      exact rZ_e h h0' _
    · rw [if_neg q2, if_neg (fun z => q2 (fun w => z (v2.mp w)))]
      rw [v4]
      cases e : nc_i N (if t' = 0 then 0 else t' + 1) (N 219 (6 * c + f)) with
      | none => exact rZ_e h h0' _
      | some k =>
        simp only [Option.map_some]
        obtain ⟨_, k1, k2, k3⟩ := nc_v (tc_n t1).2 (rT_nm hT) e
        obtain ⟨u, w1, w2, w3⟩ := v1.2.1
        have eus : nus N (6 * c + f) = u := by unfold nus; rw [w3, nI_clamp (by omega)]
        have eh := l_hop h hp hc hf t1 et t3 w1 w2 k2 k1 k3.symm m
        rw [eus, ← eh]
        by_cases q3 : ¬ xh_open X (cn_f c f) t' (β k) m = 0
        · rw [if_pos q3, if_pos q3]
          exact rZ_e h h0' _
        · rw [if_neg q3, if_neg q3]
          obtain ⟨x1, x2, x3⟩ := x_hop (Classical.not_not.mp q3)
          obtain ⟨n1, n2⟩ := nE_k h k2
          have e8 : X (bk (β k)) 8 = N 213 k := n1.2.2.2.2.2.1
          rw [e8] at x2 ⊢
          by_cases q4 : ¬ (m &&& 16) = 0 ∧ (N 213 k &&& 512) = 0
          · rw [if_pos q4, if_pos q4]
            have hm0 : ¬ m = 0 := by
              intro z
              apply q4.1
              rw [z]
              decide
            have t0 : t' = 0 := by
              refine Classical.byContradiction fun z => x3 ⟨?_, hm0⟩
              rw [et]
              exact nI_ne0 (by omega) (by omega)
            have k0 : k / 20 = 0 := by rw [k1, if_pos t0]
            rw [l_nb hT, l_need hT k2 k0, Nat.zero_add]
            by_cases q5 : nb_n N s + nn_n N s k ≤ 64
            · rw [if_pos q5, if_pos q5]
              obtain ⟨β1, d1, g1, g2, g3, g4, g5, g6, g7, g8⟩ := rT_chg hT k2 k0 (by rw [l_nb hT, l_need hT k2 k0]; exact q5) hd
              have e6 : nx_C N s k 206 = N 206 := nx_Cc N s _ (by decide) (by decide)
              have kv := (nv_c e6 k).mpr k2
              have r1 := rT_cut g1 kv (fun l hl => g6 l ((nv_c e6 l).mp hl))
              have e6' : cs_C (nx_C N s k) 214 k 0 206 = N 206 := by rw [cs_row _ (by decide), e6]
              have r2 := rT_ver r1 ((nv_c e6' k).mpr k2) (fun l hl => g6 l ((nv_c e6' l).mp hl)) (N 212 k + 1)
              have nx7 : cg_C X (β k) (bk (ob_i X (β k))) 7 = N 212 k := by
                have := (rT_2 g1 k kv).2.2.2.2.2.2.1
                rw [g4] at this
                rw [this, nx_Cc N s _ (by decide) (by decide)]
              have eX : xo_cut X (β k) = cs_C (cs_C (cg_C X (β k)) (bk (β1 k)) 9 (nI 0)) (bk (β1 k)) 7 (N 212 k + 1) := by
                unfold xo_cut bl_sl
                rw [bl_z0, nx7, g4]
              have eN : nO_cut N s k = cs_C (cs_C (nx_C N s k) 214 k 0) 212 k (N 212 k + 1) := rfl
              obtain ⟨b1, _, _⟩ := rT_2 g1 k kv
              have hXr : ∀ a, 131 ≤ a → xo_cut X (β k) a = X a := by
                intro a a1
                rw [eX, cs_row _ (by unfold bk; omega), cs_row _ (by unfold bk; omega), cg_row n2 (Or.inr a1)]
              have hR : rR (xo_cut X (β k)) (nO_cut N s k) β1 s p d1 := by
                refine rR_chg h hp hXr (fun a a1 a2 => ?_) (fun j hj => ?_) (by rw [eX, eN]; exact r2)
                · rw [eN, cs_row _ (by omega), cs_row _ (by omega), nx_Cc N s _ (by omega) a2]
                · rw [eN, cs_row _ (by omega), cs_row _ (by omega), nx_C4 N s _ hj]
              have eNr : ∀ a, (a ≤ 208 ∨ a = 213 ∨ 217 ≤ a) → a ≠ 204 → nO_cut N s k a = N a := by
                intro a a1 a2
                rw [eN, cs_row _ (by omega), cs_row _ (by omega), nx_Cc N s _ (by omega) a2]
              have hF : 131 ≤ cn_f c f := by unfold cn_f; omega
              rw [← g4]
              refine rZ_k (rR_opn hR hp hc hf (by rw [hXr 201 (by decide)]; exact h0) ((nv_c (eNr 206 (by decide) (by decide)) k).mpr k2) k1 t1 (by rw [hXr _ hF]; exact et) x1 (by rw [hXr _ hF]; exact q1) ?_ ?_ ?_) 0 (by decide) (Nat.le_refl _) (by omega) (by omega)
              · rw [eNr 219 (by decide) (by decide), eNr 207 (by decide) (by decide), k3]
              · rw [eNr 213 (by decide) (by decide)]; exact x2
              · rw [hXr _ hF]; exact x3
            · rw [if_neg q5, if_neg q5]
              exact rZ_e h h0' _
          · rw [if_neg q4, if_neg q4]
            exact rZ_k (rR_opn h hp hc hf h0 k2 k1 t1 et x1 q1 k3.symm x2 x3) 0 (by decide) (Nat.le_refl _) (by omega) (by omega)
end
