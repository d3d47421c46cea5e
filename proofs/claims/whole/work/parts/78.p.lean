/-! Changing what a node is: the request. -/
theorem cs_comm (C : Nat → Nat → Int32) {i k j l : Nat} {v w : Int32} (h : ¬ (i = j ∧ k = l)) : cs_C (cs_C C i k v) j l w = cs_C (cs_C C j l w) i k v := by
  funext a b
  rw [cs_app, cs_app, cs_app, cs_app]
  by_cases q1 : a = j ∧ b = l
  · have q2 : ¬ (a = i ∧ b = k) := fun z => h ⟨z.1.symm.trans q1.1, z.2.symm.trans q1.2⟩
    rw [if_pos q1, if_neg q2, if_pos q1]
  · rw [if_neg q1, if_neg q1]
section
variable {X N X' N' W : Nat → Nat → Int32} {β : Nat → Nat} {s p d c f : Nat}
theorem rR_w (h : rR X N β s p d) (hp : p < 2 ^ 30) (hW : ∀ a, a < 204 → a ≠ 203 → W a = X a) : rR W N β s p d :=
  ⟨rM_c (hW _ (by decide) (by decide)) rfl (rR_M h), rS_c (hW _ (by decide) (by decide)) (hW _ (by decide) (by decide)) rfl rfl (rR_S h), rP_c (hW _ (by decide) (by decide)) (hW _ (by decide) (by decide)) rfl rfl (rR_P h),
    rQ_c (fun a ha => hW a (by omega) (by omega)) (fun _ _ _ => rfl) (rR_Q h), rF_t (fun a ha => hW a (by omega) (by omega)) (fun _ _ _ => rfl) rfl rfl rfl hp (rR_F h), rT_c (fun a ha => hW a (by omega) (by omega)) (fun _ _ _ => rfl) (fun _ _ _ => rfl) (rR_T h)⟩
theorem l_can (h : rR W N β s p d) {k : Nat} (hk : nv N k) (hw : ∀ j, j < 4 → W 203 j = N 228 j) : xw_can W (β k) ↔ nU_can N k := by
  have hT := rR_T h
  obtain ⟨n1, n2⟩ := nE_k h hk
  have r : ¬ N 207 k = 0 ↔ ¬ N 208 k < 0 := by rw [l_0 hT hk, l_neg hT hk]
  unfold xw_can nU_can nU_wi
  rw [hw 0 (by decide), hw 1 (by decide), hw 2 (by decide), hw 3 (by decide), n1.1.1, n1.2.2.2.2.2.1, r]
  have e1 := i_2047 (N 228 1)
  have e3 := i_34 (N 228 3)
  constructor
  · rintro ⟨a0, a2, a1, a1', a3⟩
    refine ⟨⟨?_, e1.mp ⟨a1, a1'⟩, ?_, ?_⟩, ?_, ?_⟩
    · rcases a0 with a | a
      · exact Or.inl a
      · exact Or.inr ⟨a.1, a.2.1⟩
    · rcases a2 with a | a
      · exact Or.inl a
      · exact Or.inr ⟨a.1, a.2.1⟩
    · rcases a3 with a | a
      · exact Or.inl a
      · exact Or.inr ⟨a.1, fun z => a.2 (e3.mpr z)⟩
    · rcases a0 with a | a
      · exact Or.inl a
      · exact Or.inr a.2.2
    · rcases a2 with a | a
      · exact Or.inl a
      · exact Or.inr a.2.2
  · rintro ⟨⟨b0, b1, b2, b3⟩, b4, b5⟩
    obtain ⟨b1, b1'⟩ := e1.mpr b1
    refine ⟨?_, ?_, b1, b1', ?_⟩
    · rcases b0 with a | a
      · exact Or.inl a
      · rcases b4 with b | b
        · exact Or.inl b
        · exact Or.inr ⟨a.1, a.2, b⟩
    · rcases b2 with a | a
      · exact Or.inl a
      · rcases b5 with b | b
        · exact Or.inl b
        · exact Or.inr ⟨a.1, a.2, b⟩
    · rcases b3 with a | a
      · exact Or.inl a
      · exact Or.inr ⟨a.1, fun z => a.2 (e3.mp z)⟩
theorem l_nd (h : rR W N β s p d) {k : Nat} (hk : nv N k) (hn : ¬ N 208 k < 0) : nU_d N k = np N k ∧ ¬ k % 20 = 0 := by
  have hT := rR_T h
  have r : ¬ k % 20 = 0 := fun z => hn ((l_neg hT hk).mpr z)
  unfold nU_d np_i
  rw [if_neg hn, (l_par hT hk r).1]
  exact ⟨rfl, r⟩
theorem w_grp {N : Nat → Nat → Int32} {k : Nat} (hcan : nU_can N k) : N 228 3 = -1 ∨ ∃ g, g < 4 ∧ N 228 3 = nI g := by
  rcases hcan.1.2.2.2 with a | a
  · exact Or.inl a
  · obtain ⟨y, y1, y2⟩ := nI_of a.1
    have := a.2
    rw [y2, show (3 : Int32) = nI 3 from rfl, nI_ltI (by decide) y1] at this
    exact Or.inr ⟨y, by omega, y2⟩
theorem l_wmay (h : rR W N β s p d) {k u : Nat} (hk : nv N k) (k0 : k / 20 = 0) (hu : u < 4) (hw : ∀ j, j < 4 → W 203 j = N 228 j) (hcan : nU_can N k) : xw_may W (nI u) (β k) ↔ nU_may N u k := by
  have hT := rR_T h
  obtain ⟨n1, n2⟩ := nE_k h hk
  have m1 := l_myo h hk hu 2
  rw [k0, show tc 0 = 0 from rfl] at m1
  have p0 : (N 228 0 = -1 ∨ my_o W (nI u) (so_abi W 0 (β k)) 2) ↔ (N 228 0 = -1 ∨ nY N u (nU_d N k) 2) := by
    rw [m1]
    by_cases q : N 228 0 = -1
    · exact ⟨fun _ => Or.inl q, fun _ => Or.inl q⟩
    · have hn : ¬ N 208 k < 0 := hcan.2.1.resolve_left q
      rw [(l_nd h hk hn).1]
      exact ⟨fun z => z.imp_right (fun y => y.2), fun z => z.imp_right (fun y => ⟨hn, y⟩)⟩
  have p3 : (N 228 3 = -1 ∨ ¬ me_b W (nI u) (N 228 3) = 0) ↔ (N 228 3 = -1 ∨ ¬ N 205 (4 * u + (N 228 3).toNatClampNeg) = 0) := by
    rcases w_grp hcan with q | ⟨g, g1, g2⟩
    · exact ⟨fun _ => Or.inl q, fun _ => Or.inl q⟩
    · rw [g2, nI_clamp (by omega), l_me (rR_M h) hu g1]
  unfold xw_may nU_may
  rw [hw 0 (by decide), hw 1 (by decide), hw 2 (by decide), hw 3 (by decide), n1.2.2.1, p0, p3, l_my (rR_M h) hT hk hu, eq_comm (a := nI u)]
theorem q_wfin (h : rR W N β s p d) (hp : p < 2 ^ 30) (hd : d ≤ 2 ^ 20) {k : Nat} (hk : nv N k) (k0 : k / 20 = 0) (hw : ∀ j, j < 4 → W 203 j = N 228 j) (hcan : nU_can N k) (hA : nb_n N s + nn_n N s k ≤ 64) (hren : nU_ren N k → nh_i N (nU_d N k) (N 228 0) = none) : ∃ β' d', rR (xu_C W (β k)) (nU_C N s k) β' s p d' ∧ d' ≤ d + 22 := by
  have hT := rR_T h
  obtain ⟨n1, n2⟩ := nE_k h hk
  obtain ⟨β1, d1, g1, g2, g3, g4, g5, g6, g7, g8⟩ := rT_chg hT hk k0 (by rw [l_nb hT, l_need hT hk k0]; exact hA) hd
  have ex : ∀ a, a ≠ 215 → a ≠ 204 → nx_C N s k a = N a := fun a a1 a2 => nx_Cc N s k a1 a2
  have e6 := ex 206 (by decide) (by decide)
  have kv := (nv_c e6 k).mpr hk
  have f1 := (rT_2 g1 k kv).2.2
  have o64 : β1 k < 64 := (rT_2 g1 k kv).1
  have f9 : ln_ (cg_C W (β k)) (bk (ob_i W (β k))) = (N 214 k).toNatClampNeg := by
    rw [← g4]
    unfold ln_
    rw [f1.2.2.2.2.2.2.1, ex 214 (by decide) (by decide)]
  have c203 : ∀ j, cg_C W (β k) 203 j = W 203 j := fun j => cg_out n2 (Or.inr (by decide))
  have hu1 : ∀ l, nv (nx_C N s k) l → β1 l = β1 k → l = k := fun l hl => g6 l ((nv_c e6 l).mp hl)
  have hcon : xu_ren W (β k) ↔ nU_ren N k := by
    unfold xu_ren nU_ren
    rw [hw 0 (by decide), n1.2.1]
  -- both sides as one edit of one node, behind the parent's
  have key : ∃ XA NA ti, rT XA NA β1 s p d1 ∧ xu_C W (β k) = wa_C (cs_C XA (bk (β1 k)) 4 ti) (β1 k) (N 214 k).toNatClampNeg (N 228 2).toNatClampNeg ∧ nU_C N s k = nU_3 (nU_2 (cs_C NA 209 k ti) k (nU_m N k) (nU_g N k)) k (N 214 k).toNatClampNeg (N 228 2) ∧ (∀ a, 131 ≤ a → XA a = W a) ∧ (∀ a, a ≠ 215 → a ≠ 204 → a ≠ 212 → NA a = N a) ∧ (∀ j, j ≠ 13 → NA 204 j = N 204 j) ∧
      (ti = N 209 k ∨ ((∃ x, 1 ≤ x ∧ x ≤ 99 ∧ ti = nI x) ∧ ∀ l, nv N l → l / 20 = k / 20 → ¬ l % 20 = 0 → N 208 l = N 208 k → N 209 l = ti → l = k)) := by
    by_cases q : nU_ren N k
    · have hn : ¬ N 208 k < 0 := hcan.2.1.resolve_left q.1
      obtain ⟨d0, kr⟩ := l_nd h hk hn
      obtain ⟨c1, c2, c3, c4, c5, c6, c7⟩ := l_par hT hk kr
      have v2 := (nv_c e6 (np N k)).mpr c2
      have hv := rT_ver g1 v2 (fun l hl => g7 kr l ((nv_c e6 l).mp hl)) (N 212 (np N k) + 1)
      have p64 := (rT_2 g1 _ v2).1
      have e7 : cg_C W (β k) (bk (β1 (np N k))) 7 = N 212 (np N k) := by rw [(rT_2 g1 _ v2).2.2.2.2.2.2.1, ex 212 (by decide) (by decide)]
      have eab := l_abi g1 kv
      rw [k0, show tc 0 = 0 from rfl, if_neg kr, np_c e6 (ex 207 (by decide) (by decide)) (ex 208 (by decide) (by decide)), g4] at eab
      have hne : β1 k ≠ β1 (np N k) := fun z => by have := g7 kr k hk z; omega
      refine ⟨_, _, N 228 0, hv, ?_, ?_, fun a a1 => ?_, fun a a1 a2 a3 => ?_, fun j hj => ?_, Or.inr ⟨?_, fun l l1 l2 l3 l4 l5 => ?_⟩⟩
      · unfold xu_C
        rw [it_t (hcon.mpr q), f9, hw 2 (by decide), ← g4]
        unfold xu_2
        rw [eab, hw 0 (by decide)]
        simp only
        rw [e7, ← g4, cs_comm _ (by unfold bk; omega)]
      · unfold nU_C nU_1
        rw [if_pos q, d0, ex 212 (by decide) (by decide)]
      · rw [cs_row _ (by unfold bk; omega), cg_row n2 (Or.inr a1)]
      · rw [cs_row _ a3, ex a a1 a2]
      · rw [cs_row _ (by decide), nx_C4 N s k hj]
      · have z1 := (hcan.1.1.resolve_left q.1)
        have : ¬ N 228 0 < 0 := by
          have z := z1.1
          rw [Int32.lt_iff_toInt_lt] at z ⊢
          have e1 : (1 : Int32).toInt = 1 := by decide
          have e0 : (0 : Int32).toInt = 0 := by decide
          omega
        obtain ⟨y, y1, y2⟩ := nI_of this
        have z2 := z1.1
        have z3 := z1.2
        rw [y2, show (1 : Int32) = nI 1 from rfl, nI_ltI y1 (by decide)] at z2
        rw [y2, show (99 : Int32) = nI 99 from rfl, nI_ltI (by decide) y1] at z3
        exact ⟨y, by omega, by omega, y2⟩
      · exfalso
        have hno := hren q
        rw [d0] at hno
        obtain ⟨w1, w2⟩ := (l_nh hT c2).mpr ⟨l1, by omega, l3⟩
        have := fx_f_none _ _ _ hno l w1 w2
        rw [decide_eq_false_iff_not] at this
        exact this ⟨by rw [l4, c5], l5⟩
    · refine ⟨_, _, N 209 k, g1, ?_, ?_, fun a a1 => cg_row n2 (Or.inr a1), fun a a1 a2 _ => ex a a1 a2, fun j hj => nx_C4 N s k hj, Or.inl rfl⟩
      · unfold xu_C
        rw [it_f (fun z => q (hcon.mp z)), f9, hw 2 (by decide), ← g4, cs_id (by rw [f1.2.1, ex 209 (by decide) (by decide)])]
      · unfold nU_C nU_1
        rw [if_neg q, cs_id (by rw [ex 209 (by decide) (by decide)])]
  obtain ⟨XA, NA, ti, k1, k2, k3, k4, k5, k6, k7⟩ := key
  have a6 := k5 206 (by decide) (by decide) (by decide)
  have a7 := k5 207 (by decide) (by decide) (by decide)
  have a8 := k5 208 (by decide) (by decide) (by decide)
  have a9 := k5 209 (by decide) (by decide) (by decide)
  have a11 := k5 211 (by decide) (by decide) (by decide)
  have a13 := k5 213 (by decide) (by decide) (by decide)
  have a14 := k5 214 (by decide) (by decide) (by decide)
  have w203 : ∀ j, j < 4 → XA 203 j = N 228 j := fun j hj => by rw [k4 203 (by decide)]; exact hw j hj
  have rW := rT_ws k1 (k := k) (ti := ti) ((nv_c a6 k).mpr hk) (fun l hl => g6 l ((nv_c a6 l).mp hl)) (w203 1 (by decide)) (w203 2 (by decide)) (w203 3 (by decide))
    (by
      rw [a9]
      rcases k7 with z | ⟨z1, z2⟩
      · exact Or.inl z
      · exact Or.inr ⟨z1, fun l l1 l2 l3 l4 l5 => z2 l ((nv_c a6 l).mp l1) l2 l3 (by rw [← a8]; exact l4) l5⟩)
    hcan.1.2.1
    (by
      rw [a13]
      rcases hcan.1.2.2.1 with z | z
      · exact Or.inl z
      · rcases hcan.2.2 with y | y
        · exact Or.inl y
        · exact Or.inr ⟨z.1, z.2, y⟩)
    (w_grp hcan)
  rw [a11, a13, a14] at rW
  obtain ⟨x0, _⟩ := wa_o (cs_C XA (bk (β1 k)) 4 ti) (l := (N 214 k).toNatClampNeg) (n := (N 228 2).toNatClampNeg) o64
  obtain ⟨m0, m13, _⟩ := nU_o (cs_C NA 209 k ti) (k := k) (l := (N 214 k).toNatClampNeg) (md := nU_m N k) (g := nU_g N k) (x := N 228 2)
  rw [k2, k3]
  have hXr : ∀ a, 131 ≤ a → wa_C (cs_C XA (bk (β1 k)) 4 ti) (β1 k) (N 214 k).toNatClampNeg (N 228 2).toNatClampNeg a = W a := by
    intro a a1
    funext j
    rw [x0 a j (by unfold bk; omega) (by unfold bk; omega), cs_ne _ _ (by unfold bk; omega), k4 a a1]
  have hNr : ∀ a, (a ≤ 208 ∨ 217 ≤ a) → a ≠ 204 → nU_3 (nU_2 (cs_C NA 209 k ti) k (nU_m N k) (nU_g N k)) k (N 214 k).toNatClampNeg (N 228 2) a = N a := by
    intro a a1 a2
    funext j
    rw [m0 a j (by omega) (by omega), cs_ne _ _ (by omega), k5 a (by omega) a2 (by omega)]
  refine ⟨β1, d1, rR_cT h (fun a a1 _ => hXr a a1) (fun a ha => hNr a (by omega) (by omega)) (fun j hj => ?_) rW ?_, by omega⟩
  · rw [m0 204 j (by omega) (by omega), cs_ne _ _ (by omega), k6 j (by omega)]
  · refine rF_c (fun a ha => hXr a (by omega)) (fun a q1 q2 => hNr a (by omega) (by omega)) (Nat.le_refl _) (Nat.le_refl _) hp (fun l hl l0 => Or.inr ⟨l, (nv_c (hNr 206 (by omega) (by omega)) l).mp hl, l0, by rw [hNr 207 (by omega) (by omega)], ?_⟩) (rR_F h)
    by_cases e : l = k
    · rw [e, m13]
      unfold nU_m
      rcases hcan.1.2.1 with z | z
      · rw [if_pos z]
      · by_cases y : N 228 1 = -1
        · rw [if_pos y]
        · rw [if_neg y, i_keep _ _ (i_2048 z.1 z.2)]
    · rw [m0 213 l (by omega) (by omega), cs_ne _ _ (by omega), a13]
theorem q_wstat (h : rR X N β s p d) (hp : p < 2 ^ 30) (hd : d ≤ 2 ^ 20) (hc : c < 2) (hf : f < 6) (h0' : N 204 26 = nI 0) {t r : Nat} (ht : t ≤ 4) (et : X (cn_f c f) 3 = nI t) (hr1 : X r 1 = nI 4) (hr : 131 < r ∧ r + 1 < 203) (ha : ∀ i, i < 4 → X (r + 1) i = N 228 i) : rZ s p d (xy_R X (cn_f c f) t r) (nU_R N (6 * c + f) (if t = 0 then 0 else t + 1) s) := by
  obtain ⟨t', t1, t2, t3, u1, u2, u3⟩ := f_view h hc hf
  have e : t' = t := by
    rw [et, nI_eq (by omega) (by omega)] at t2
    exact t2.symm
  subst e
  have hT := rR_T h
  unfold xy_R nU_R
  by_cases q1 : X (cn_f c f) 0 = 0
  · rw [if_pos q1, if_pos (u1.mp q1)]
    exact rZ_e h h0' _
  · rw [if_neg q1, if_neg (fun z => q1 (u1.mpr z))]
    obtain ⟨v1, v2, v3, v4⟩ := u3 q1
    rw [v4]
    cases e : nc_i N (if t' = 0 then 0 else t' + 1) (N 219 (6 * c + f)) with
    | none => exact rZ_e h h0' _
    | some k =>
      simp only [Option.map_some]
      obtain ⟨_, k1, k2, k3⟩ := nc_v (tc_n t1).2 (rT_nm hT) e
      have ez : X (cn_f c f) 3 = 0 ↔ N 218 (6 * c + f) = 0 := by
        rw [et, t3, show (0 : Int32) = nI 0 from rfl, nI_eq (by omega) (by omega), nI_eq (by split <;> omega) (by omega)]
        by_cases e : t' = 0
        · simp [e]
        · simp [e]
      by_cases q2 : ¬ X (cn_f c f) 3 = 0
      · rw [if_pos q2, if_pos (fun z => q2 (ez.mpr z))]
        exact rZ_e h h0' _
      · have q2' : ¬ ¬ N 218 (6 * c + f) = 0 := fun z => q2 (fun y => z (ez.mp y))
        rw [if_neg q2, if_neg q2']
        have t0 : t' = 0 := by
          have := Classical.not_not.mp q2
          rw [et, show (0 : Int32) = nI 0 from rfl, nI_eq (by omega) (by omega)] at this
          exact this
        have k0 : k / 20 = 0 := by rw [k1, if_pos t0]
        obtain ⟨u, w1, w2, w3⟩ := v1.2.1
        have eus : nus N (6 * c + f) = u := by unfold nus; rw [w3, nI_clamp (by omega)]
        rw [eus, w2]
        have wr : ∀ a, a ≠ 203 → wi_bec X r 4 a = X a := by
          intro a a1
          unfold wi_bec
          rw [cs_row _ a1, cs_row _ a1, cs_row _ a1, cs_row _ a1]
        have ra : ∀ j, j < 4 → rw_at X r 4 (nI j) = N 228 j := fun j hj => by rw [rw_at_in hr1 hj (Nat.le_refl _) (by decide)]; exact ha j hj
        have hw : ∀ j, j < 4 → wi_bec X r 4 203 j = N 228 j := by
          intro j hj
          unfold wi_bec
          have : j = 0 ∨ j = 1 ∨ j = 2 ∨ j = 3 := by omega
          rcases this with z | z | z | z
          · rw [z, cs_ne _ _ (by omega), cs_ne _ _ (by omega), cs_ne _ _ (by omega), cs_at]; exact ra 0 (by decide)
          · rw [z, cs_ne _ _ (by omega), cs_ne _ _ (by omega), cs_at]; exact ra 1 (by decide)
          · rw [z, cs_ne _ _ (by omega), cs_at]; exact ra 2 (by decide)
          · rw [z, cs_at]; exact ra 3 (by decide)
        generalize wi_bec X r 4 = W at wr hw
        have hR : rR W N β s p d := rR_w h hp (fun a _ a2 => wr a a2)
        have hT' := rR_T hR
        rw [it_c (l_can hR k2 hw)]
        by_cases q3 : nU_can N k
        · rw [it_t q3, it_t q3, it_c (l_wmay hR k2 k0 w1 hw q3)]
          by_cases q4 : nU_may N u k
          · rw [it_t q4, it_t q4]
            obtain ⟨n1, n2⟩ := nE_k hR k2
            have hcon : xu_ren W (β k) ↔ nU_ren N k := by
              unfold xu_ren nU_ren
              rw [hw 0 (by decide), n1.2.1]
            have c1 : (xu_ren W (β k) ∧ ∃ a, so_abi W 0 (β k) = some a ∧ ¬ so_chi W 0 (W (bk a) 2) (W 203 0) = none) ↔ (nU_ren N k ∧ ¬ nh_i N (nU_d N k) (N 228 0) = none) := by
              rw [hcon]
              refine and_congr_right fun q => ?_
              have hn : ¬ N 208 k < 0 := q3.2.1.resolve_left q.1
              obtain ⟨d0, kr⟩ := l_nd hR k2 hn
              obtain ⟨c1, c2, c3, c4, c5, c6, c7⟩ := l_par hT' k2 kr
              have eab := l_abi hT' k2
              rw [k0, show tc 0 = 0 from rfl, if_neg kr] at eab
              have lc := l_chi hT' c2 (N 228 0)
              rw [c3, k0, show tc 0 = 0 from rfl, ← (rT_2 hT' _ c2).2.2.1.1] at lc
              rw [eab, d0, hw 0 (by decide)]
              constructor
              · rintro ⟨a, z1, z2⟩
                have := Option.some.inj z1
                subst this
                rw [lc] at z2
                exact fun y => z2 (by rw [y]; rfl)
              · intro z
                refine ⟨_, rfl, ?_⟩
                rw [lc]
                intro y
                cases hx : nh_i N (np N k) (N 228 0) with
                | none => exact z hx
                | some _ => rw [hx] at y; cases y
            have c2 : (¬ xu_ren W (β k) ∧ (W 203 1 = -1 ∧ W 203 2 = -1 ∧ W 203 3 = -1)) ↔ (¬ nU_ren N k ∧ N 228 1 = -1 ∧ N 228 2 = -1 ∧ N 228 3 = -1) := by
              rw [hcon, hw 1 (by decide), hw 2 (by decide), hw 3 (by decide)]
            unfold xu_R nU_K
            rw [it_c c1, it_c c2]
            by_cases q5 : nU_ren N k ∧ ¬ nh_i N (nU_d N k) (N 228 0) = none
            · rw [it_t q5, if_pos q5]
              exact rZ_e hR h0' _
            · rw [it_f q5, if_neg q5]
              by_cases q6 : ¬ nU_ren N k ∧ N 228 1 = -1 ∧ N 228 2 = -1 ∧ N 228 3 = -1
              · rw [it_t q6, if_pos q6]
                exact rZ_e hR h0' _
              · rw [it_f q6, if_neg q6, l_nb hT', l_need hT' k2 k0, Nat.zero_add]
                by_cases q7 : nb_n N s + nn_n N s k ≤ 64
                · rw [if_pos q7, if_pos q7]
                  obtain ⟨β', d', r1, r2⟩ := q_wfin hR hp hd k2 k0 hw q3 q7 (fun z => Classical.byContradiction fun y => q5 ⟨z, y⟩)
                  exact rZ_k r1 0 (by decide) (Nat.le_refl _) (by omega) r2
                · rw [if_neg q7, if_neg q7]
                  exact rZ_e hR h0' _
          · rw [it_f q4, it_f q4]
            exact rZ_e hR h0' _
        · rw [it_f q3, it_f q3]
          exact rZ_e hR h0' _
end
