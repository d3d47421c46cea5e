/-! A node is taken away; clunk and remove. -/
/-- both sides answer alike; z: how many replies there were -/
def rY (z : Int32) (s p d : Nat) (r q : Int32 × (Nat → Nat → Int32)) : Prop := r.1 = q.1 ∧ (r.1 < 0 → q.2 204 26 = z) ∧ ∃ β' p' d', rR r.2 q.2 β' s p' d' ∧ p ≤ p' ∧ p' ≤ p + 1 ∧ d' ≤ d + 22
section
variable {X N X' N' : Nat → Nat → Int32} {β : Nat → Nat} {s p d c f : Nat}
/-- a node's version -/
theorem rT_ver (h : rT X N β s p d) {k : Nat} (hk : nv N k) (hu : ∀ l, nv N l → β l = β k → l = k) (v : Int32) : rT (cs_C X (bk (β k)) 7 v) (cs_C N 212 k v) β s p d := by
  obtain ⟨b1, b2, b3⟩ := rT_2 h k hk
  have o : ∀ j, j ≠ 7 → cs_C X (bk (β k)) 7 v (bk (β k)) j = X (bk (β k)) j := fun j hj => cs_ne _ _ (by omega)
  have o2 : ∀ a, a ≠ 212 → cs_C N 212 k v a = N a := fun a ha => cs_row _ ha
  refine rT_edit h hk hu (fun a j _ h1 h2 => cs_ne _ _ (by omega)) (o 1 (by decide)) (fun a j h1 h2 h3 => cs_ne _ _ (by omega)) (fun j _ => cs_ne _ _ (by omega)) (fun j _ _ => cs_ne _ _ (by omega)) ?_ (Or.inl (cs_ne _ _ (by omega))) ?_ ?_ ?_
  · unfold nE at b3 ⊢
    rw [o 2 (by decide), o 3 (by decide), o 4 (by decide), o 5 (by decide), o 6 (by decide), cs_at, o 8 (by decide), o 9 (by decide), cs_row X (show bk (β k) + 1 ≠ bk (β k) by omega), o2 207 (by decide), o2 208 (by decide), o2 209 (by decide), o2 210 (by decide), o2 211 (by decide), cs_at, o2 213 (by decide), o2 214 (by decide), o2 216 (by decide)]
    exact ⟨b3.1, b3.2.1, b3.2.2.1, b3.2.2.2.1, rfl, b3.2.2.2.2.2⟩
  · rw [o2 213 (by decide), o2 214 (by decide)]
    exact rT_13 h k hk
  · rw [o2 211 (by decide)]
    exact (rT_12 h).2.2 k hk.1
  · rw [o2 214 (by decide)]
    exact (rT_12 h).2.1 k hk.1
/-- behind a change the nodes are as they were -/
theorem cg_row {i a : Nat} (hi : i < 64) (h : a < 3 ∨ 131 ≤ a) : cg_C X i a = X a := by
  funext j
  exact cg_out hi h
theorem sh_a (k n : Nat) (a j : Nat) (h1 : 207 ≤ a) (h2 : a ≤ 215) : sh_n N k n a j = if k ≤ j ∧ j < k + n then N a (j + 1) else N a j := by
  unfold sh_n
  by_cases q : k ≤ j ∧ j < k + n
  · rw [if_pos ⟨h1, h2, q⟩, if_pos q]
  · rw [if_neg (fun z => q z.2.2), if_neg (by omega), if_neg q]
theorem sh_row (k n : Nat) {a : Nat} (h : a < 207 ∨ 217 ≤ a) : sh_n N k n a = N a := by
  funext j
  unfold sh_n
  rw [if_neg (by omega), if_neg (by omega)]
theorem q_fin (h : rR X N β s p d) (hp : p < 2 ^ 30) (hd : d ≤ 2 ^ 20) {k : Nat} (hk : nv N k) (k0 : k / 20 = 0) (kr : ¬ k % 20 = 0) (hk0 : nk_n N k = 0) (hA : so_nb X + hr_n X 20 (some (β (np N k))) ≤ 64) : ∃ β' d', rR (xr_fin X (β k) (β (np N k))) (nR_C N s k) β' s p d' ∧ d' ≤ d + 22 := by
  have hT := rR_T h
  obtain ⟨c1, c2, c3, c4, c5, c6, c7⟩ := l_par hT hk kr
  obtain ⟨β1, d1, g1, g2, g3, g4, g5, g6, g7, g8⟩ := rT_chg hT c2 (by omega) hA hd
  have e6 : nx_C N s (np N k) 206 = N 206 := nx_Cc N s _ (by decide) (by decide)
  have e7 : nx_C N s (np N k) 207 = N 207 := nx_Cc N s _ (by decide) (by decide)
  have e8 : nx_C N s (np N k) 208 = N 208 := nx_Cc N s _ (by decide) (by decide)
  have e12 : nx_C N s (np N k) 212 = N 212 := nx_Cc N s _ (by decide) (by decide)
  have v1 := (nv_c e6 (np N k)).mpr c2
  have n1 := (rT_2 g1 _ v1).2.2.2.2.2.2.1
  rw [g4, e12] at n1
  have r2 := rT_ver g1 v1 (fun l hl => g6 l ((nv_c e6 l).mp hl)) (N 212 (np N k) + 1)
  have h6 : cs_C (nx_C N s (np N k)) 212 (np N k) (N 212 (np N k) + 1) 206 = N 206 := by rw [cs_row _ (by decide), e6]
  have h7 : cs_C (nx_C N s (np N k)) 212 (np N k) (N 212 (np N k) + 1) 207 = N 207 := by rw [cs_row _ (by decide), e7]
  have h8 : cs_C (nx_C N s (np N k)) 212 (np N k) (N 212 (np N k) + 1) 208 = N 208 := by rw [cs_row _ (by decide), e8]
  have r3 := rT_rm r2 ((nv_c h6 k).mpr hk) k0 kr (by rw [nk_c h6 h7 h8]; exact hk0)
  have em : nm (cs_C (nx_C N s (np N k)) 212 (np N k) (N 212 (np N k) + 1)) 0 = nm N 0 := by unfold nm; rw [h6]
  rw [em, g5 k c4] at r3
  obtain ⟨pa1, _, _⟩ := rT_2 hT _ c2
  have eX : xr_fin X (β k) (β (np N k)) = bl_lv (cs_C (cg_C X (β (np N k))) (bk (β1 (np N k))) 7 (N 212 (np N k) + 1)) (bk (β k)) 0 := by
    unfold xr_fin
    rw [g4, n1]
  have eN : nR_C N s k = sh_n (cs_C (cs_C (nx_C N s (np N k)) 212 (np N k) (N 212 (np N k) + 1)) 206 0 (nI (nm N 0 - 1))) k (nm N 0 - 1 - k) := rfl
  rw [eX, eN]
  obtain ⟨q1, _, _⟩ := rT_2 g1 _ v1
  obtain ⟨q2, _, _⟩ := rT_2 hT _ hk
  obtain ⟨k1, k20⟩ := l_lt0 hT hk k0
  have m20 := (rT_nm hT 0 (by decide)).1
  have hXr : ∀ a, 131 ≤ a → bl_lv (cs_C (cg_C X (β (np N k))) (bk (β1 (np N k))) 7 (N 212 (np N k) + 1)) (bk (β k)) 0 a = X a := by
    intro a a1
    unfold bl_lv
    rw [cs_row _ (by unfold bk; omega), cs_row _ (by unfold bk; omega), cg_row pa1 (Or.inr a1)]
  refine ⟨_, d1, rR_cT h (fun a a1 a2 => hXr a a1) (fun a ha => ?_) (fun j hj => ?_) r3 ?_, by omega⟩
  · rw [sh_row _ _ (by omega), cs_row _ (by omega), cs_row _ (by omega), nx_Cc N s _ (by omega) (by omega)]
  · rw [sh_row _ _ (by omega), cs_row _ (by omega), cs_row _ (by omega), nx_C4 N s _ (by omega)]
  · refine rF_c (fun a ha => hXr a (by omega)) (fun a a1 a2 => ?_) (Nat.le_refl _) (Nat.le_refl _) hp (fun j hj j0 => Or.inr ?_) (rR_F h)
    · rw [sh_row _ _ (by omega), cs_row _ (by omega), cs_row _ (by omega), nx_Cc N s _ (by omega) (by omega)]
    · have hj2 : j < nm N 0 - 1 := by
        have := hj.2
        rw [j0] at this
        unfold nm at this ⊢
        rw [sh_row _ _ (by omega), cs_at, nI_clamp (by have : (N 206 0).toNatClampNeg ≤ 20 := m20; omega)] at this
        omega
      rw [sh_a _ _ _ _ (by decide) (by decide), sh_a _ _ _ _ (by decide) (by decide), cs_row _ (show 207 ≠ 206 by decide), cs_row _ (show 213 ≠ 206 by decide), h7, cs_row _ (show 213 ≠ 212 by decide), nx_Cc N s _ (show 213 ≠ 215 by decide) (by decide)]
      by_cases e : k ≤ j ∧ j < k + (nm N 0 - 1 - k)
      · obtain ⟨w1, w2⟩ := l_t0 hT (j := j + 1) (by omega)
        exact ⟨j + 1, w1, w2, by rw [if_pos e], by rw [if_pos e]⟩
      · obtain ⟨w1, w2⟩ := l_t0 hT (j := j) (by omega)
        exact ⟨j, w1, w2, by rw [if_neg e], by rw [if_neg e]⟩
theorem rY_e (h : rR X N β s p d) (v : Int32) : rY (N 204 26) s p d (v, X) (v, N) := ⟨rfl, fun _ => rfl, β, p, d, h, Nat.le_refl _, by omega, by omega⟩
theorem rY_k {z : Int32} {β' : Nat → Nat} {p' d' : Nat} (h : rR X N β' s p' d') (v : Int32) (hv : ¬ v < 0) (h1 : p ≤ p') (h2 : p' ≤ p + 1) (h3 : d' ≤ d + 22) : rY z s p d (v, X) (v, N) := ⟨rfl, fun z => absurd z hv, β', p', d', h, h1, h2, h3⟩
theorem q_rm (h : rR X N β s p d) (hp : p < 2 ^ 30) (hd : d ≤ 2 ^ 20) {u t : Nat} (hu : u < 4) (ht : t < 6) (q : Int32) : rY (N 204 26) s p d (xr_R X (nI u) (tc t) q) (nR_R N u t q s) := by
  have hT := rR_T h
  unfold xr_R nR_R
  rw [l_i hT ht]
  cases e : nc_i N t q with
  | none => exact rY_e h _
  | some k =>
    simp only [Option.map_some]
    obtain ⟨_, k1, k2, k3⟩ := nc_v ht (rT_nm hT) e
    by_cases q1 : t = 0
    · subst q1
      rw [if_neg (by decide), if_neg (by decide)]
      have ea := l_abi hT k2
      rw [k1, show tc 0 = 0 from rfl] at ea
      rw [ea]
      by_cases q2 : k % 20 = 0
      · rw [if_pos q2, if_pos ((l_neg hT k2).mpr q2)]
        exact rY_e h _
      · obtain ⟨c1, c2, c3, c4, c5, c6, c7⟩ := l_par hT k2 q2
        rw [if_neg q2, if_neg c6]
        simp only
        by_cases q3 : nY N u (np N k) 2
        · rw [it_t ((l_my (rR_M h) hT c2 hu 2).mpr q3), if_pos q3]
          have ek := l_nk hT k2
          rw [k1, show tc 0 = 0 from rfl] at ek
          rw [(rT_2 hT k k2).2.2.1.1, ek]
          by_cases q4 : 0 < nk_n N k
          · rw [if_pos q4, if_pos q4]
            exact rY_e h _
          · rw [if_neg q4, if_neg q4, l_nb hT, l_need hT c2 (by omega), Nat.zero_add]
            by_cases q5 : nb_n N s + nn_n N s (np N k) ≤ 64
            · rw [if_pos q5, if_pos q5]
              obtain ⟨β', d', r1, r2⟩ := q_fin h hp hd k2 k1 q2 (by omega) (by rw [l_nb hT, l_need hT c2 (by omega)]; exact q5)
              exact rY_k r1 0 (by decide) (Nat.le_refl _) (by omega) r2
            · rw [if_neg q5, if_neg q5]
              exact rY_e h _
        · rw [it_f (fun z => q3 ((l_my (rR_M h) hT c2 hu 2).mp z)), if_neg q3]
          exact rY_e h _
    · rw [if_pos (fun z => q1 ((tc_0 ht).mp z)), if_pos q1]
      exact rY_e h _
theorem q_remove (h : rR X N β s p d) (hp : p < 2 ^ 30) (hd : d ≤ 2 ^ 20) (hc : c < 2) (hf : f < 6) (h0' : N 204 26 = nI 0) {t : Nat} (ht : t ≤ 4) (et : X (cn_f c f) 3 = nI t) : rZ s p d (xv_R X (cn_f c f) t) (nM_R N (6 * c + f) (if t = 0 then 0 else t + 1) s) := by
  obtain ⟨t', t1, t2, t3, u1, u2, u3⟩ := f_view h hc hf
  have e : t' = t := by
    rw [et, nI_eq (by omega) (by omega)] at t2
    exact t2.symm
  subst e
  unfold xv_R nM_R
  by_cases q1 : X (cn_f c f) 0 = 0
  · rw [if_pos q1, if_pos (u1.mp q1)]
    exact rZ_e h h0' _
  · rw [if_neg q1, if_neg (fun z => q1 (u1.mpr z))]
    obtain ⟨v1, v2, v3, v4⟩ := u3 q1
    obtain ⟨u, w1, w2, w3⟩ := v1.2.1
    obtain ⟨g1, g2⟩ := tc_n t1
    have := q_rm (rR_free h hc hf) hp hd w1 g2 (N 219 (6 * c + f))
    rw [g1, cs_ne _ _ (by omega), h0'] at this
    unfold nus
    rw [w2, w3, nI_clamp (by omega), ← v3]
    exact this
theorem q_clunkY (h : rR X N β s p d) (hp : p < 2 ^ 30) (hd : d ≤ 2 ^ 20) (hc : c < 2) (hf : f < 6) {t : Nat} (ht : t ≤ 4) (et : X (cn_f c f) 3 = nI t) : rY (N 204 26) s p d (xk_R X (cn_f c f) t) (nK_R N (6 * c + f) (if t = 0 then 0 else t + 1) s) := by
  obtain ⟨t', t1, t2, t3, u1, u2, u3⟩ := f_view h hc hf
  have e : t' = t := by
    rw [et, nI_eq (by omega) (by omega)] at t2
    exact t2.symm
  subst e
  unfold xk_R nK_R
  by_cases q1 : X (cn_f c f) 0 = 0
  · rw [if_pos q1, if_pos (u1.mp q1)]
    exact rY_e h _
  · rw [if_neg q1, if_neg (fun z => q1 (u1.mpr z))]
    obtain ⟨v1, v2, v3, v4⟩ := u3 q1
    obtain ⟨u, w1, w2, w3⟩ := v1.2.1
    obtain ⟨g1, g2⟩ := tc_n t1
    have hcond : (¬ X (cn_f c f) 1 = 0 ∧ ¬ (X (cn_f c f) 5 &&& 64) = 0) ↔ (¬ N 220 (6 * c + f) < 0 ∧ ¬ (N 220 (6 * c + f) &&& 64) = 0) := by
      rcases v1.2.2.2 with w | w
      · exact ⟨fun z => absurd w.1 z.1, fun z => absurd w.2 z.1⟩
      · rw [w.2.2.1]
        exact ⟨fun z => ⟨w.2.1, z.2⟩, fun z => ⟨w.1, z.2⟩⟩
    by_cases q2 : ¬ X (cn_f c f) 1 = 0 ∧ ¬ (X (cn_f c f) 5 &&& 64) = 0
    · rw [if_pos q2, if_pos (hcond.mp q2)]
      have := q_rm (rR_free h hc hf) hp hd w1 g2 (N 219 (6 * c + f))
      rw [g1] at this
      unfold nus
      rw [w2, w3, nI_clamp (by omega), ← v3]
      obtain ⟨_, _, β', p', d', r1, r2, r3, r4⟩ := this
      exact rY_k r1 0 (by decide) r2 r3 r4
    · rw [if_neg q2, if_neg (fun z => q2 (hcond.mpr z))]
      exact rY_k (rR_free h hc hf) 0 (by decide) (Nat.le_refl _) (by omega) (by omega)
theorem q_clunk (h : rR X N β s p d) (hp : p < 2 ^ 30) (hd : d ≤ 2 ^ 20) (hc : c < 2) (hf : f < 6) (h0' : N 204 26 = nI 0) {t : Nat} (ht : t ≤ 4) (et : X (cn_f c f) 3 = nI t) : rZ s p d (xk_R X (cn_f c f) t) (nK_R N (6 * c + f) (if t = 0 then 0 else t + 1) s) := by
  have := q_clunkY h hp hd hc hf ht et
  rw [h0'] at this
  exact this
end
