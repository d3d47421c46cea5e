/-! Serving. -/
section
variable {X N : Nat → Nat → Int32} {β : Nat → Nat} {s p d : Nat}
theorem r_iv (h : rR X N β s p d) : iv_P X := by
  refine ⟨(rT_12 (rR_T h)).1, fun c hc f hf => ?_, s, (rT_9 (rR_T h)).2.2.1, (rT_9 (rR_T h)).1⟩
  obtain ⟨t, t1, t2, _⟩ := rR_F h c hc f hf
  exact ⟨t, t1, t2⟩
theorem r_nw (h : rR X N β s p d) : nw_P N s := by
  have hT := rR_T h
  refine ⟨rT_nm hT, fun k hk hn => ?_, (rT_12 hT).2.2, (rT_12 hT).2.1, (rT_9 hT).2.1, (rT_9 hT).2.2.1, fun t ht => ⟨_, (l_rt hT ht).1⟩⟩
  exact ⟨_, (l_par hT hk (fun z => hn ((l_neg hT hk).mpr z))).1⟩
theorem r_nu (h : rR X N β s p d) {c f t : Nat} (hc : c < 2) (hf : f < 6) (ht : t ≤ 4) (et : X (cn_f c f) 3 = nI t) : nu_P N (6 * c + f) (if t = 0 then 0 else t + 1) := by
  obtain ⟨t', t1, t2, t3, t4⟩ := rR_F h c hc f hf
  have e : t' = t := by
    rw [et, nI_eq (by omega) (by omega)] at t2
    exact t2.symm
  subst e
  refine ⟨by omega, (tc_n t1).2, t3, fun hn => ?_⟩
  rcases t4 with t4 | t4
  · exact absurd t4.2.2 hn
  · obtain ⟨u, u1, u2, u3⟩ := t4.2.2.2.1
    rw [u3, nI_clamp (by omega)]
    exact ⟨u1, rfl⟩
theorem nz_o (C : Nat → Nat → Int32) (r k : Nat) : (∀ a, a ≠ 204 → a ≠ 222 → a ≠ 228 → nz_B C r k a = C a) ∧ (∀ j, j ≠ 26 → j ≠ 29 → nz_B C r k 204 j = C 204 j) ∧ (∀ j, j ≠ r → nz_B C r k 222 j = C 222 j) ∧ nz_B C r k 222 r = -1 ∧ nz_B C r k 204 26 = 0 ∧ ∀ j, j < k → nz_B C r k 228 j = C 225 (4 * r + j) := by
  refine ⟨fun a h1 h2 h3 => funext fun j => nz_out h1 h2 h3, fun j h1 h2 => nz_o4 h1 h2, fun j hj => ?_, ?_, ?_, fun j hj => ?_⟩
  · unfold nz_B
    rw [cs_ne _ _ (by omega), cs_ne _ _ (by omega)]
    unfold nz_n
    rw [if_neg (by omega), cs_ne _ _ (by omega)]
  · unfold nz_B
    rw [cs_ne _ _ (by omega), cs_at]
  · unfold nz_B
    rw [cs_at]
  · unfold nz_B
    rw [cs_ne _ _ (by omega), cs_ne _ _ (by omega)]
    unfold nz_n
    rw [if_pos ⟨rfl, hj⟩, cs_ne _ _ (by omega)]
/-- a request is taken up -/
theorem rR_beg (h : rR X N β s p d) (hp : p < 2 ^ 30) {c t k : Nat} (hc : c < 2) (ht : t < 8) : rR (cs_C (cs_C X (cn_q c t) 1 0) 201 1 0) (nz_B N (8 * c + t) k) β s p d := by
  obtain ⟨n1, n2, n3, n4, n5, n6⟩ := nz_o N (8 * c + t) k
  have xr : ∀ a, a ≠ 201 → a ≠ cn_q c t → cs_C (cs_C X (cn_q c t) 1 0) 201 1 0 a = X a := fun a h1 h2 => by rw [cs_row _ h1, cs_row _ h2]
  have hq1 : 142 ≤ cn_q c t ∧ cn_q c t < 199 := by unfold cn_q; omega
  have hq2 : ¬ (168 ≤ cn_q c t ∧ cn_q c t < 174) := by unfold cn_q; omega
  refine ⟨rM_c (xr _ (by decide) (by omega)) (n1 _ (by decide) (by decide) (by decide)) (rR_M h), rS_c (xr _ (by decide) (by omega)) (xr _ (by decide) (by omega)) (n2 _ (by decide) (by decide)) (n1 _ (by decide) (by decide) (by decide)) (rR_S h), ⟨0, by decide, by rw [cs_at]; rfl, n5, fun j hj => by omega⟩, ?_,
    rF_t (fun a ha => xr a (by omega) (by omega)) (fun a a1 a2 => n1 a (by omega) (by omega) (by omega)) (n1 _ (by decide) (by decide) (by decide)) (n1 _ (by decide) (by decide) (by decide)) (n1 _ (by decide) (by decide) (by decide)) hp (rR_F h),
    rT_c (fun a ha => xr a (by omega) (by omega)) (fun a a1 a2 => n1 a (by omega) (by omega) (by omega)) (fun j a b => n2 j (by omega) (by omega)) (rR_T h)⟩
  intro c' hc' t' ht'
  by_cases e : c' = c ∧ t' = t
  · rw [e.1, e.2]
    refine Or.inl ⟨?_, ?_⟩
    · rw [cs_ne _ _ (by omega), cs_at]
    · rw [n4]
      decide
  · have a := rR_Q h c' hc' t' ht'
    have z0 : cn_q c' t' ≠ cn_q c t := by unfold cn_q; omega
    have z1 : cn_q c' t' + 1 ≠ cn_q c t := by unfold cn_q; omega
    have z2 : cn_q c' t' + 2 ≠ cn_q c t := by unfold cn_q; omega
    have y : 142 ≤ cn_q c' t' ∧ cn_q c' t' + 2 < 199 := by unfold cn_q; omega
    unfold rQ1 at a ⊢
    rw [xr _ (by omega) z0, xr _ (by omega) z1, xr _ (by omega) z2, n3 _ (by omega), n1 223 (by decide) (by decide) (by decide), n1 224 (by decide) (by decide) (by decide), n1 225 (by decide) (by decide) (by decide)]
    exact a
/-- a request's answer -/
theorem q_done (h : rR X N β s p d) (hp : p < 2 ^ 20) (hd : d ≤ 2 ^ 20) (h0 : X 201 1 = nI 0) (h0' : N 204 26 = nI 0) {c q kd fd k t : Nat} (hc : c < 2) (hf : fd < 6) (hq : 131 < q ∧ q + 2 < 203) (hkd : kd < 10) (k4 : k ≤ 4) (ht : t ≤ 4) (et : X (cn_f c fd) 3 = nI t) (hk : X (q + 1) 1 = nI k) (hn : ¬ nI k < st_f kd ∧ ¬ st_g kd < nI k) (ha : ∀ j, j < k → X (q + 2) j = N 228 j) : rZ s p d (xz_K X c q kd fd k) (nZ_K N kd (6 * c + fd) (if t = 0 then 0 else t + 1) s k) := by
  have ec : (X (cn_f c fd) 3).toNatClampNeg = t := by rw [et, nI_clamp (by omega)]
  have hp' : p < 2 ^ 30 := by omega
  have ik : ∀ a b, a < 8 → b < 8 → (¬ nI k < nI a ∧ ¬ nI b < nI k) → a ≤ k ∧ k ≤ b := by
    intro a b ha hb z
    rw [nI_ltI (by omega) (by omega), nI_ltI (by omega) (by omega)] at z
    omega
  have cs : kd = 0 ∨ kd = 1 ∨ kd = 2 ∨ kd = 3 ∨ kd = 4 ∨ kd = 5 ∨ kd = 6 ∨ kd = 7 ∨ kd = 8 ∨ kd = 9 := by omega
  rcases cs with e | e | e | e | e | e | e | e | e | e <;> subst e
  · have := ik 2 2 (by decide) (by decide) hn
    exact q_attach h hp' hc hf h0 h0' (ha 0 (by omega)).symm (ha 1 (by omega)).symm
  · have := ik 1 4 (by decide) (by decide) hn
    unfold xz_K nZ_K
    simp only
    rw [ec, ha 0 (by omega)]
    by_cases z : vp_in (N 228 0) 6
    · rw [it_t z, it_t z]
      obtain ⟨j, j1, j2⟩ := vp_in_of z (by decide)
      rw [j2, nI_clamp (by omega)]
      exact q_walk h hp' hc hf h0 h0' j1 ht et (by omega) k4 ha
    · rw [it_f z, it_f z]
      exact rZ_e h h0' _
  · have := ik 1 1 (by decide) (by decide) hn
    unfold xz_K nZ_K
    simp only
    rw [ec]
    exact q_open h hp' hd hc hf h0 h0' ht et (ha 0 (by omega)).symm
  · have := ik 3 3 (by decide) (by decide) hn
    unfold xz_K nZ_K
    simp only
    rw [ec]
    exact q_create h hp hd hc hf h0 h0' ht et (ha 0 (by omega)).symm (ha 1 (by omega)).symm (ha 2 (by omega)).symm
  · have := ik 2 2 (by decide) (by decide) hn
    unfold xz_K nZ_K
    simp only
    rw [ec]
    exact q_read h hp' hc hf h0 h0' ht et (ha 0 (by omega)).symm (ha 1 (by omega)).symm
  · have := ik 1 4 (by decide) (by decide) hn
    unfold xz_K nZ_K
    simp only
    rw [ec]
    exact q_write h hp' hd hc hf h0' ht et (by omega) (by omega) k4 ha
  · unfold xz_K nZ_K
    simp only
    rw [ec]
    exact q_clunk h hp' hd hc hf h0' ht et
  · unfold xz_K nZ_K
    simp only
    rw [ec]
    exact q_remove h hp' hd hc hf h0' ht et
  · unfold xz_K nZ_K
    simp only
    rw [ec]
    exact q_stat h hp' hc hf h0 h0' ht et
  · have := ik 4 4 (by decide) (by decide) hn
    have k4' : k = 4 := by omega
    subst k4'
    unfold xz_K nZ_K
    simp only
    rw [ec]
    exact q_wstat h hp' hd hc hf h0' ht et hk (by omega) ha
theorem q_serve (h : rR X N β s p d) (hp : p < 2 ^ 20) (hd : d ≤ 2 ^ 20) {c t0 : Nat} (hc : c < 2) (ht0 : t0 < 8) : ∃ kd fd k t, (¬ X (cn_q c t0) 1 = 0 → kd < 10 ∧ fd < 6 ∧ X (cn_q c t0) 2 = nI kd ∧ X (cn_q c t0) 3 = nI fd ∧ X (cn_q c t0 + 1) 1 = nI k ∧ k ≤ 4) ∧ (¬ N 222 (8 * c + t0) < 0 → kd < 10 ∧ N 222 (8 * c + t0) = nI kd ∧ N 223 (8 * c + t0) = nI (6 * c + fd) ∧ N 224 (8 * c + t0) = nI k ∧ k ≤ 4 ∧ nu_P N (6 * c + fd) t) ∧ (xS_R X c t0 kd fd k).1 = (nZ_R N (8 * c + t0) kd (6 * c + fd) t s k).1 ∧ ∃ β' p' d', rR (xS_R X c t0 kd fd k).2 (nZ_R N (8 * c + t0) kd (6 * c + fd) t s k).2 β' s p' d' ∧ p' ≤ p + 1 ∧ d' ≤ d + 22 := by
  rcases rR_Q h c hc t0 ht0 with ⟨q1, q2⟩ | ⟨q1, kd, fd, k, kd1, fd1, k1, x2, x3, x4, y2, y3, y4, arg⟩
  · refine ⟨0, 0, 0, 0, fun z => absurd q1 z, fun z => absurd q2 z, ?_, β, p, d, ?_, by omega, by omega⟩
    · unfold xS_R nZ_R
      rw [if_pos q1, if_pos q2]
    · unfold xS_R nZ_R
      rw [if_pos q1, if_pos q2]
      exact h
  · obtain ⟨t, t1, t2, t3, t4⟩ := rR_F h c hc fd fd1
    have q2 : ¬ N 222 (8 * c + t0) < 0 := by rw [y2]; exact nI_pos (by omega)
    refine ⟨kd, fd, k, (if t = 0 then 0 else t + 1), fun _ => ⟨kd1, fd1, x2, x3, x4, k1⟩, fun _ => ⟨kd1, y2, y3, y4, k1, r_nu h hc fd1 t1 t2⟩, ?_⟩
    have hB := rR_beg h (by omega) (k := k) hc ht0
    obtain ⟨n1, n2, n3, n4, n5, n6⟩ := nz_o N (8 * c + t0) k
    unfold xS_R nZ_R
    rw [if_neg q1, if_neg q2]
    unfold xz_R
    by_cases hn : ¬ (¬ nI k < st_f kd ∧ ¬ st_g kd < nI k)
    · rw [if_pos hn, if_pos hn]
      exact ⟨rfl, β, p, d, hB, by omega, by omega⟩
    · rw [if_neg hn, if_neg hn]
      have hn' := Classical.not_not.mp hn
      have hq : 131 < cn_q c t0 ∧ cn_q c t0 + 2 < 203 ∧ cn_q c t0 + 2 < 200 := by unfold cn_q; omega
      have hz := q_done hB hp hd (by rw [cs_at]; rfl) n5 hc fd1 (q := cn_q c t0) ⟨hq.1, hq.2.1⟩ kd1 k1 t1 (by
          rw [cs_ne _ _ (by unfold cn_f; omega), cs_ne _ _ (by omega)]
          exact t2) (by
          rw [cs_ne _ _ (by omega), cs_ne _ _ (by omega)]
          exact x4) hn' (fun j hj => by
          rw [cs_ne _ _ (by omega), cs_ne _ _ (by omega), n6 j hj]
          exact arg j hj)
      obtain ⟨r1, r2, β', p', d', r3, r4, r5, r6⟩ := hz
      unfold nz_Q
      refine ⟨r1, β', p', d', ?_, r5, r6⟩
      by_cases hl : (nZ_K (nz_B N (8 * c + t0) k) kd (6 * c + fd) (if t = 0 then 0 else t + 1) s k).1 < 0
      · simp only [if_pos hl]
        rw [cs_id (r2 (by rw [r1]; exact hl))]
        exact r3
      · simp only [if_neg hl]
        exact r3
end
