/-! Walking. -/
section
variable {X N X' N' : Nat → Nat → Int32} {β : Nat → Nat} {s p d c f : Nat}
theorem l_wt (h : rT X N β s p d) {k : Nat} (hk : nv N k) (x : Int32) : wt_n X (tc (k / 20)) (β k) x = (nG_n N k x).map β ∧ ∀ e, nG_n N k x = some e → nv N e ∧ e / 20 = k / 20 := by
  have ht := (nv_t (rT_nm h) hk).1
  have b3 := (rT_2 h k hk).2.2
  unfold wt_n nG_n
  by_cases q : x = 0
  · rw [if_pos q, if_pos q, b3.1.2]
    unfold np_i
    by_cases r : k % 20 = 0
    · obtain ⟨r1, r2⟩ := l_root h hk r
      rw [if_pos r1, if_pos r1, l_i h ht]
      have := nc_at (rT_nm h) (rT_4 h) hk
      rw [r2] at this
      rw [this]
      exact ⟨rfl, fun e z => by cases z; exact ⟨hk, rfl⟩⟩
    · obtain ⟨c1, c2, c3, c4, c5, c6, c7⟩ := l_par h hk r
      rw [if_neg c6, if_neg c6, l_i h ht, c1]
      exact ⟨rfl, fun e z => by cases z; exact ⟨c2, c3⟩⟩
  · rw [if_neg q, if_neg q, b3.1.1, l_chi h hk]
    exact ⟨rfl, fun e z => by
      obtain ⟨a1, a2, _⟩ := nh_v (rT_nm h) hk.1 z
      exact ⟨a1, a2⟩⟩
theorem l_step (h : rR X N β s p d) {k u : Nat} (hk : nv N k) (hu : u < 4) (o : Option Nat) : xh_step X (nI u) (β k) (o.map β) = nh_step N u k o := by
  have hT := rR_T h
  unfold xh_step nh_step
  rw [(nE_k h hk).1.2.2.2.2.2.1]
  by_cases q : (N 213 k &&& 2048) = 0
  · rw [if_pos q, if_pos q]
  · rw [if_neg q, if_neg q]
    by_cases q6 : nY N u k 1
    · rw [it_t ((l_my (rR_M h) hT hk hu 1).mpr q6), if_pos q6]
      cases o <;> simp
    · rw [it_f (fun z => q6 ((l_my (rR_M h) hT hk hu 1).mp z)), if_neg q6]
theorem x_step {u k : Nat} {o : Option Nat} : nh_step N u k o = 0 → ∃ e, o = some e := by
  unfold nh_step
  intro h
  by_cases q : (N 213 k &&& 2048) = 0
  · rw [if_pos q] at h; exact absurd h (by decide)
  · rw [if_neg q] at h
    by_cases q6 : nY N u k 1
    · rw [if_pos q6] at h
      cases o with
      | none => exact absurd h (by decide)
      | some e => exact ⟨e, rfl⟩
    · rw [if_neg q6] at h; exact absurd h (by decide)
theorem q_wt (h : rR X N β s p d) (hp : p < 2 ^ 30) (hc : c < 2) {f g u t r n : Nat} (hg : g < 6) (h0 : X 201 1 = nI 0) (h0' : N 204 26 = nI 0) (ht : t ≤ s) (hu : u < 4) (eu : N 217 f = nI u) (et : N 218 f = nI (if t = 0 then 0 else t + 1)) (n1 : 1 ≤ n) (n4 : n ≤ 4) (ha : ∀ i, i < n → X (r + 1) i = N 228 i) : ∀ D i k, i + D = n → 1 ≤ i → nv N k → k / 20 = (if t = 0 then 0 else t + 1) → rZ s p d (wt_f X (cn_f c g) (nI u) t r n D i (β k)) (nG_f N f (6 * c + g) u n D i k) := by
  have hT := rR_T h
  have s4 := (rT_9 hT).2.2.1
  intro D
  induction D with
  | zero =>
    intro i k hi i1 hk ek
    unfold wt_f nG_f
    obtain ⟨m1, m2⟩ := nE_k h hk
    obtain ⟨q, q1, q2⟩ := (rT_11 hT).2.2.2 k hk
    rw [m1.1.1, q2]
    have hR : rR (fi_take X (cn_f c g) (nI u) (nI t) (nI q)) (nG_t N f (6 * c + g) (nI q)) β s p d := by
      refine rR_take h hc hg ht hu q1 (fun a a1 a2 => ?_) (fun a j a1 a2 a3 => ?_) ?_ ?_ ?_ ?_
      · unfold nG_t
        rw [cs_row _ (by omega), cs_row _ (by omega), cs_row _ (by omega), cs_row _ (by omega)]
      · unfold nG_t
        rw [cs_ne _ _ (by omega), cs_ne _ _ (by omega), cs_ne _ _ (by omega), cs_ne _ _ (by omega)]
      · unfold nG_t
        rw [cs_ne _ _ (by omega), cs_ne _ _ (by omega), cs_ne _ _ (by omega), cs_at, eu]
      · unfold nG_t
        rw [cs_ne _ _ (by omega), cs_ne _ _ (by omega), cs_at, et]
      · unfold nG_t
        rw [cs_ne _ _ (by omega), cs_at]
      · unfold nG_t
        rw [cs_at]
        decide
    have e6 : nG_t N f (6 * c + g) (nI q) 206 = N 206 := by
      unfold nG_t
      rw [cs_row _ (by decide), cs_row _ (by decide), cs_row _ (by decide), cs_row _ (by decide)]
    refine rZ_k (rR_m hR hp ((nv_c e6 k).mpr hk) ?_) _ (nI_pos (by omega)) (Nat.le_refl _) (by omega) (by omega)
    unfold fi_take
    rw [cs_row _ (by unfold cn_f; omega), cs_row _ (by unfold cn_f; omega), cs_row _ (by unfold cn_f; omega), cs_row _ (by unfold cn_f; omega), cs_row _ (by unfold cn_f; omega)]
    exact h0
  | succ D ih =>
    intro i k hi i1 hk ek
    unfold wt_f nG_f
    obtain ⟨w1, w2⟩ := l_wt hT hk (N 228 i)
    rw [ek, (tc_n (show t ≤ 4 by omega)).1] at w1
    rw [ha i (by omega), w1, l_step h hk hu]
    by_cases q : ¬ nh_step N u k (nG_n N k (N 228 i)) = 0
    · rw [if_pos q, if_pos q]
      by_cases q2 : i = 1
      · rw [if_pos q2, if_pos q2]
        exact rZ_e h h0' _
      · rw [if_neg q2, if_neg q2]
        exact rZ_k (rR_m h hp hk h0) _ (nI_pos (by omega)) (Nat.le_refl _) (by omega) (by omega)
    · rw [if_neg q, if_neg q]
      obtain ⟨e, e1⟩ := x_step (Classical.not_not.mp q)
      obtain ⟨v1, v2⟩ := w2 e e1
      rw [e1]
      simp only [Option.map_some, Option.getD_some]
      exact ih (i + 1) e (by omega) (by omega) v1 (by rw [v2, ek])
theorem q_walk (h : rR X N β s p d) (hp : p < 2 ^ 30) (hc : c < 2) (hf : f < 6) (h0 : X 201 1 = nI 0) (h0' : N 204 26 = nI 0) {t g r n : Nat} (hg : g < 6) (ht : t ≤ 4) (et : X (cn_f c f) 3 = nI t) (n1 : 1 ≤ n) (n4 : n ≤ 4) (ha : ∀ i, i < n → X (r + 1) i = N 228 i) : rZ s p d (xW_R X (cn_f c f) (cn_f c g) t r n) (nG_R N (6 * c + f) (if t = 0 then 0 else t + 1) ((6 * c + f) / 6 * 6 + g) n) := by
  obtain ⟨t', t1, t2, t3, u1, u2, u3⟩ := f_view h hc hf
  have e : t' = t := by
    rw [et, nI_eq (by omega) (by omega)] at t2
    exact t2.symm
  subst e
  have hT := rR_T h
  rw [show (6 * c + f) / 6 * 6 + g = 6 * c + g by omega]
  unfold xW_R nG_R
  by_cases q1 : X (cn_f c f) 0 = 0
  · rw [if_pos q1, if_pos (u1.mp q1)]
    exact rZ_e h h0' _
  · rw [if_neg q1, if_neg (fun z => q1 (u1.mpr z))]
    obtain ⟨v1, v2, v3, v4⟩ := u3 q1
    by_cases q2 : ¬ X (cn_f c f) 1 = 0
    · rw [if_pos q2, if_pos (fun z => q2 (v2.mpr z))]
      exact rZ_e h h0' _
    · have q2' : ¬ ¬ N 220 (6 * c + f) < 0 := fun z => q2 (fun w => z (v2.mp w))
      rw [if_neg q2, if_neg q2']
      obtain ⟨_, _, _, _, g1, _, _⟩ := f_view h hc hg
      have hgf : (¬ cn_f c g = cn_f c f ∧ ¬ X (cn_f c g) 0 = 0) ↔ (¬ 6 * c + g = 6 * c + f ∧ ¬ N 217 (6 * c + g) < 0) := by
        rw [g1, show (cn_f c g = cn_f c f) ↔ (6 * c + g = 6 * c + f) by unfold cn_f; omega]
      by_cases q3 : ¬ cn_f c g = cn_f c f ∧ ¬ X (cn_f c g) 0 = 0
      · rw [if_pos q3, if_pos (hgf.mp q3)]
        exact rZ_e h h0' _
      · rw [if_neg q3, if_neg (fun z => q3 (hgf.mpr z)), v4]
        cases e : nc_i N (if t' = 0 then 0 else t' + 1) (N 219 (6 * c + f)) with
        | none => exact rZ_e h h0' _
        | some k =>
          simp only [Option.map_some]
          obtain ⟨_, k1, k2, k3⟩ := nc_v (tc_n t1).2 (rT_nm hT) e
          obtain ⟨u, w1, w2, w3⟩ := v1.2.1
          have eus : nus N (6 * c + f) = u := by unfold nus; rw [w3, nI_clamp (by omega)]
          rw [eus, w2]
          exact q_wt h hp hc hg h0 h0' v1.1 w1 w3 t3 n1 n4 ha (n - 1) 1 k (by omega) (Nat.le_refl _) k2 k1
end
