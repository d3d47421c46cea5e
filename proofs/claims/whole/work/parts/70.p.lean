/-! Fids; attach and stat. -/
/-- both sides answer alike, and are alike behind it -/
def rZ (s p d : Nat) (r q : Int32 × (Nat → Nat → Int32)) : Prop := r.1 = q.1 ∧ (r.1 < 0 → q.2 204 26 = 0) ∧ ∃ β' p' d', rR r.2 q.2 β' s p' d' ∧ p ≤ p' ∧ p' ≤ p + 1 ∧ d' ≤ d + 22
section
variable {X N X' N' : Nat → Nat → Int32} {β : Nat → Nat} {s p d c f : Nat}
theorem rZ_e (h : rR X N β s p d) (h0 : N 204 26 = nI 0) (v : Int32) : rZ s p d (v, X) (v, N) := ⟨rfl, fun _ => h0, β, p, d, h, Nat.le_refl _, by omega, by omega⟩
theorem rZ_k {β' : Nat → Nat} {p' d' : Nat} (h : rR X N β' s p' d') (v : Int32) (hv : ¬ v < 0) (h1 : p ≤ p') (h2 : p' ≤ p + 1) (h3 : d' ≤ d + 22) : rZ s p d (v, X) (v, N) := ⟨rfl, fun z => absurd z hv, β', p', d', h, h1, h2, h3⟩
theorem rR_fid (h : rR X N β s p d) (hc : c < 2) (hf : f < 6) (hX : ∀ a, a < 204 → a ≠ cn_f c f → X' a = X a) (hN : ∀ a, 204 ≤ a → ¬ (217 ≤ a ∧ a ≤ 221) → N' a = N a) (hN2 : ∀ a j, 217 ≤ a → a ≤ 221 → j ≠ 6 * c + f → N' a j = N a j) (hnew : rF0 X' N' s p c f) : rR X' N' β s p d := by
  refine rR_cF h (fun a h1 h2 => hX a h1 (by unfold cn_f; omega)) hN ?_
  refine rF_up (rR_F h) (fun c' f' h1 h2 h3 => hX _ (by unfold cn_f; omega) (by unfold cn_f; omega)) hN2 hc hf (hN _ (by decide) (by decide)) (hN _ (by decide) (by decide)) (hN _ (by decide) (by decide)) hnew
theorem rR_free (h : rR X N β s p d) (hc : c < 2) (hf : f < 6) : rR (fi_free X (cn_f c f)) (cs_C N 217 (6 * c + f) (-1)) β s p d := by
  obtain ⟨t, t1, t2, t3, t4⟩ := rR_F h c hc f hf
  refine rR_fid h hc hf (fun a _ h2 => ?_) (fun a _ h2 => cs_row _ (by omega)) (fun a j _ _ h2 => cs_ne _ _ (by omega)) ⟨t, t1, ?_, ?_, Or.inl ⟨?_, ?_, ?_⟩⟩
  · unfold fi_free
    rw [cs_row _ h2, cs_row _ h2]
  · unfold fi_free
    rw [cs_ne _ _ (by omega), cs_ne _ _ (by omega)]
    exact t2
  · rw [cs_ne _ _ (by omega)]
    exact t3
  · unfold fi_free
    rw [cs_ne _ _ (by omega), cs_at]
  · unfold fi_free
    rw [cs_at]
  · rw [cs_at]
    decide
theorem rR_take (h : rR X N β s p d) (hc : c < 2) (hf : f < 6) {t u q : Nat} (ht : t ≤ s) (hu : u < 4) (hq : q < p) (hN : ∀ a, 204 ≤ a → ¬ (217 ≤ a ∧ a ≤ 221) → N' a = N a) (hN2 : ∀ a j, 217 ≤ a → a ≤ 221 → j ≠ 6 * c + f → N' a j = N a j)
    (h17 : N' 217 (6 * c + f) = nI u) (h18 : N' 218 (6 * c + f) = nI (if t = 0 then 0 else t + 1)) (h19 : N' 219 (6 * c + f) = nI q) (h20 : N' 220 (6 * c + f) < 0) : rR (fi_take X (cn_f c f) (nI u) (nI t) (nI q)) N' β s p d := by
  have s4 := (rT_9 (rR_T h)).2.2.1
  refine rR_fid h hc hf (fun a _ h2 => ?_) hN hN2 ⟨t, by omega, ?_, h18, Or.inr ⟨?_, ?_, ht, ⟨u, hu, ?_, h17⟩, ⟨q, hq, ?_, h19⟩, Or.inl ⟨?_, h20⟩⟩⟩
  · unfold fi_take
    rw [cs_row _ h2, cs_row _ h2, cs_row _ h2, cs_row _ h2, cs_row _ h2]
  · unfold fi_take
    rw [cs_ne _ _ (by omega), cs_at]
  · unfold fi_take
    rw [cs_ne _ _ (by omega), cs_ne _ _ (by omega), cs_ne _ _ (by omega), cs_ne _ _ (by omega), cs_at]
    decide
  · rw [h17]
    exact nI_pos (by omega)
  · unfold fi_take
    rw [cs_ne _ _ (by omega), cs_ne _ _ (by omega), cs_at]
  · unfold fi_take
    rw [cs_at]
  · unfold fi_take
    rw [cs_ne _ _ (by omega), cs_ne _ _ (by omega), cs_ne _ _ (by omega), cs_at]
theorem rR_open (h : rR X N β s p d) (hc : c < 2) (hf : f < 6) {m : Int32} (hm : ¬ m < 0) (huse : ¬ X (cn_f c f) 0 = 0) (hw : ¬ (m &&& 3) = 0 → X (cn_f c f) 3 = nI 0 ∧ ∀ k, nv N k → k / 20 = 0 → N 207 k = N 219 (6 * c + f) → (N 213 k &&& 2048) = 0) (hN : ∀ a, 204 ≤ a → ¬ (217 ≤ a ∧ a ≤ 221) → N' a = N a) (hN2 : ∀ a j, 217 ≤ a → a ≤ 221 → j ≠ 6 * c + f → N' a j = N a j)
    (h17 : N' 217 (6 * c + f) = N 217 (6 * c + f)) (h18 : N' 218 (6 * c + f) = N 218 (6 * c + f)) (h19 : N' 219 (6 * c + f) = N 219 (6 * c + f)) (h20 : N' 220 (6 * c + f) = m) (h21 : N' 221 (6 * c + f) = 0) : rR (fi_open X (cn_f c f) m) N' β s p d := by
  obtain ⟨t, t1, t2, t3, t4⟩ := rR_F h c hc f hf
  rcases t4 with t4 | ⟨t5, t6, t7⟩
  · exact absurd t4.1 huse
  · obtain ⟨a1, ⟨u, u1, u2, u3⟩, ⟨q, q1, q2, q3⟩, a4⟩ := t7
    have o : ∀ j, j ≠ 1 → j ≠ 5 → j ≠ 6 → fi_open X (cn_f c f) m (cn_f c f) j = X (cn_f c f) j := by
      intro j j1 j2 j3
      unfold fi_open
      rw [cs_ne _ _ (by omega), cs_ne _ _ (by omega), cs_ne _ _ (by omega)]
    refine rR_fid h hc hf (fun a _ h2 => ?_) hN hN2 ⟨t, t1, ?_, by rw [h18]; exact t3, Or.inr ⟨?_, by rw [h17]; exact t6, a1, ⟨u, u1, ?_, by rw [h17]; exact u3⟩, ⟨q, q1, ?_, by rw [h19]; exact q3⟩, Or.inr ⟨?_, by rw [h20]; exact hm, ?_, ?_, ?_⟩⟩⟩
    · unfold fi_open
      rw [cs_row _ h2, cs_row _ h2, cs_row _ h2]
    · rw [o 3 (by decide) (by decide) (by decide)]; exact t2
    · rw [o 0 (by decide) (by decide) (by decide)]; exact t5
    · rw [o 2 (by decide) (by decide) (by decide)]; exact u2
    · rw [o 4 (by decide) (by decide) (by decide)]; exact q2
    · unfold fi_open
      rw [cs_ne _ _ (by omega), cs_ne _ _ (by omega), cs_at]
      decide
    · unfold fi_open
      rw [cs_ne _ _ (by omega), cs_at, h20]
    · unfold fi_open
      rw [cs_at, h21]
    · rw [h20]
      intro z
      obtain ⟨w1, w2⟩ := hw z
      rw [t2, nI_eq (by omega) (by omega)] at w1
      refine ⟨w1, ?_⟩
      simp only [nv_c (hN 206 (by decide) (by decide))]
      rw [hN 207 (by decide) (by decide), hN 213 (by decide) (by decide), h19]
      exact w2
theorem rR_end (h : rR X N β s p d) (hc : c < 2) (hf : f < 6) (v : Int32) : rR (cs_C X (cn_f c f) 6 v) (cs_C N 221 (6 * c + f) v) β s p d := by
  obtain ⟨t, t1, t2, t3, t4⟩ := rR_F h c hc f hf
  have o : ∀ j, j ≠ 6 → cs_C X (cn_f c f) 6 v (cn_f c f) j = X (cn_f c f) j := fun j hj => cs_ne _ _ (by omega)
  have o2 : ∀ a j, a ≠ 221 → cs_C N 221 (6 * c + f) v a j = N a j := fun a j ha => cs_ne _ _ (by omega)
  refine rR_fid h hc hf (fun a _ h2 => cs_row _ h2) (fun a _ h2 => cs_row _ (by omega)) (fun a j _ _ h2 => cs_ne _ _ (by omega)) ⟨t, t1, ?_, ?_, ?_⟩
  · rw [o 3 (by decide)]; exact t2
  · rw [o2 218 _ (by decide)]; exact t3
  · rw [o 0 (by decide), o 1 (by decide), o2 217 _ (by decide)]
    rcases t4 with t4 | ⟨t5, t6, t7⟩
    · exact Or.inl t4
    · refine Or.inr ⟨t5, t6, ?_⟩
      obtain ⟨a1, a2, a3, a4⟩ := t7
      unfold rF1
      rw [o 1 (by decide), o 2 (by decide), o 4 (by decide), o 5 (by decide), o2 217 _ (by decide), o2 219 _ (by decide), o2 220 _ (by decide), cs_at, cs_at]
      refine ⟨a1, a2, a3, ?_⟩
      rcases a4 with a4 | ⟨b1, b2, b3, b4, b5⟩
      · exact Or.inl a4
      · refine Or.inr ⟨b1, b2, b3, rfl, ?_⟩
        simp only [nv_c (cs_row N (show 206 ≠ 221 by decide))]
        simpa only [cs_row N (show 207 ≠ 221 by decide), cs_row N (show 213 ≠ 221 by decide)] using b5
/-- the root of a tree -/
theorem l_rt (h : rT X N β s p d) {t : Nat} (ht : t < 2 + s) : nc_i N t 0 = some (20 * t) ∧ nv N (20 * t) ∧ t < 6 := by
  obtain ⟨a1, a2, a3, a4⟩ := rT_9 h
  have t6 : t < 6 := by omega
  have m := (a4 t t6).1 ht
  obtain ⟨b1, b2⟩ := nv_i (rT_nm h) t6 (show 20 * t ≤ 20 * t by omega) (by omega)
  have e := nc_at (rT_nm h) (rT_4 h) b1
  rw [b2, (l_root h b1 (by omega)).2] at e
  exact ⟨e, b1, t6⟩
theorem i_34 (x : Int32) : 4 ≤ x ↔ 3 < x := by
  rw [Int32.le_iff_toInt_le, Int32.lt_iff_toInt_lt]
  have : (4 : Int32).toInt = 4 := by decide
  have : (3 : Int32).toInt = 3 := by decide
  omega
theorem q_attach (h : rR X N β s p d) (hp : p < 2 ^ 30) (hc : c < 2) (hf : f < 6) (h0 : X 201 1 = nI 0) (h0' : N 204 26 = nI 0) {u x : Int32} (eu : N 228 0 = u) (ex : N 228 1 = x) : rZ s p d (xa_R X (cn_f c f) u x) (nA_R N (6 * c + f) s) := by
  obtain ⟨t, t1, t2, t3, t4⟩ := rR_F h c hc f hf
  have hT := rR_T h
  obtain ⟨s1, s2, s3, s4⟩ := rT_9 hT
  have use : ¬ X (cn_f c f) 0 = 0 ↔ ¬ N 217 (6 * c + f) < 0 := by
    rcases t4 with t4 | t4
    · exact ⟨fun z => absurd t4.1 z, fun z => absurd t4.2.2 z⟩
    · exact ⟨fun _ => t4.2.1, fun _ => t4.1⟩
  unfold xa_R nA_R
  rw [eu, ex, s1, s2]
  by_cases q1 : ¬ X (cn_f c f) 0 = 0
  · rw [if_pos q1, if_pos (use.mp q1)]
    exact rZ_e h h0' _
  · rw [if_neg q1, if_neg (fun z => q1 (use.mpr z))]
    by_cases q2 : (¬ u < 0 ∧ ¬ 4 ≤ u) ∧ ¬ x < 0 ∧ x ≤ nI s
    · rw [if_pos q2, if_pos (by rw [← i_34]; exact q2)]
      obtain ⟨a, a1, a2⟩ := nI_of q2.2.1
      obtain ⟨b, b1, b2⟩ := nI_of q2.1.1
      have a3 := q2.2.2
      rw [a2, nI_leI a1 (by omega)] at a3
      have b3 : b < 4 := by
        have := q2.1.2
        rw [b2, show (4 : Int32) = nI 4 from rfl, nI_leI (by decide) b1] at this
        omega
      rw [a2, b2, nI_clamp a1]
      have ex0 : (if nI a = 0 then 0 else a + 1) = (if a = 0 then 0 else a + 1) := by
        by_cases e : a = 0
        · rw [if_pos e, if_pos (by rw [e]; rfl)]
        · rw [if_neg e, if_neg (nI_ne0 (by omega) a1)]
      rw [ex0]
      obtain ⟨g1, g2⟩ := tc_n (show a ≤ 4 by omega)
      obtain ⟨r1, r2, r3⟩ := l_rt hT (t := if a = 0 then 0 else a + 1) (by split <;> omega)
      have li := l_i hT g2 0
      rw [g1, r1] at li
      rw [li, r1]
      simp only [Option.map_some, Option.getD_some]
      have hR : rR (fi_take X (cn_f c f) (nI b) (nI a) (nI 0)) (nA_D N (6 * c + f) (if a = 0 then 0 else a + 1)) β s p d := by
        refine rR_take h hc hf a3 b3 (rT_11 hT).2.2.1 (fun y y1 y2 => ?_) (fun y j y1 y2 y3 => ?_) ?_ ?_ ?_ ?_
        · unfold nA_D
          rw [cs_row _ (by omega), cs_row _ (by omega), cs_row _ (by omega), cs_row _ (by omega)]
        · unfold nA_D
          rw [cs_ne _ _ (by omega), cs_ne _ _ (by omega), cs_ne _ _ (by omega), cs_ne _ _ (by omega)]
        · unfold nA_D
          rw [cs_ne _ _ (by omega), cs_ne _ _ (by omega), cs_ne _ _ (by omega), cs_at, eu, b2]
        · unfold nA_D
          rw [cs_ne _ _ (by omega), cs_ne _ _ (by omega), cs_at]
        · unfold nA_D
          rw [cs_ne _ _ (by omega), cs_at]
          rfl
        · unfold nA_D
          rw [cs_at]
          decide
      have e6 : nA_D N (6 * c + f) (if a = 0 then 0 else a + 1) 206 = N 206 := by
        unfold nA_D
        rw [cs_row _ (by decide), cs_row _ (by decide), cs_row _ (by decide), cs_row _ (by decide)]
      refine rZ_k (rR_m hR hp ((nv_c e6 _).mpr r2) ?_) 0 (by decide) (Nat.le_refl _) (by omega) (by omega)
      unfold fi_take
      rw [cs_row _ (by unfold cn_f; omega), cs_row _ (by unfold cn_f; omega), cs_row _ (by unfold cn_f; omega), cs_row _ (by unfold cn_f; omega), cs_row _ (by unfold cn_f; omega)]
      exact h0
    · rw [if_neg q2, if_neg (by rw [← i_34]; exact q2)]
      exact rZ_e h h0' _
/-- a fid that is in use: its tree, its user, its node -/
theorem f_view (h : rR X N β s p d) (hc : c < 2) (hf : f < 6) : ∃ t, t ≤ 4 ∧ X (cn_f c f) 3 = nI t ∧ N 218 (6 * c + f) = nI (if t = 0 then 0 else t + 1) ∧ (X (cn_f c f) 0 = 0 ↔ N 217 (6 * c + f) < 0) ∧ (X (cn_f c f) 0 = 0 → X (cn_f c f) 1 = 0) ∧ (¬ X (cn_f c f) 0 = 0 → rF1 X N (cn_f c f) (6 * c + f) t s p ∧ (X (cn_f c f) 1 = 0 ↔ N 220 (6 * c + f) < 0) ∧ N 219 (6 * c + f) = X (cn_f c f) 4 ∧ so_i X t (X (cn_f c f) 4) = (nc_i N (if t = 0 then 0 else t + 1) (N 219 (6 * c + f))).map β) := by
  obtain ⟨t, t1, t2, t3, t4⟩ := rR_F h c hc f hf
  refine ⟨t, t1, t2, t3, ?_, ?_, ?_⟩
  · rcases t4 with t4 | t4
    · exact ⟨fun _ => t4.2.2, fun _ => t4.1⟩
    · exact ⟨fun z => absurd z t4.1, fun z => absurd z t4.2.1⟩
  · rcases t4 with t4 | t4
    · exact fun _ => t4.2.1
    · exact fun z => absurd z t4.1
  · intro hu
    rcases t4 with t4 | ⟨t5, t6, t7⟩
    · exact absurd t4.1 hu
    · obtain ⟨q, q1, q2, q3⟩ := t7.2.2.1
      obtain ⟨g1, g2⟩ := tc_n t1
      have li := l_i (rR_T h) g2 (nI q)
      rw [g1] at li
      refine ⟨t7, ?_, by rw [q2, q3], by rw [q2, q3, li]⟩
      rcases t7.2.2.2 with w | w
      · exact ⟨fun _ => w.2, fun _ => w.1⟩
      · exact ⟨fun z => absurd z w.1, fun z => absurd z w.2.1⟩
theorem q_stat (h : rR X N β s p d) (hp : p < 2 ^ 30) (hc : c < 2) (hf : f < 6) (h0 : X 201 1 = nI 0) (h0' : N 204 26 = nI 0) {t : Nat} (ht : t ≤ 4) (et : X (cn_f c f) 3 = nI t) : rZ s p d (xt_R X (cn_f c f) t) (nT_R N (6 * c + f) (if t = 0 then 0 else t + 1)) := by
  obtain ⟨t', t1, t2, t3, u1, u2, u3⟩ := f_view h hc hf
  have e : t' = t := by
    rw [et, nI_eq (by omega) (by omega)] at t2
    exact t2.symm
  subst e
  unfold xt_R nT_R
  by_cases q1 : X (cn_f c f) 0 = 0
  · rw [if_pos q1, if_pos (u1.mp q1)]
    exact rZ_e h h0' _
  · rw [if_neg q1, if_neg (fun z => q1 (u1.mpr z))]
    obtain ⟨v1, v2, v3, v4⟩ := u3 q1
    rw [v4]
    cases e : nc_i N (if t' = 0 then 0 else t' + 1) (N 219 (6 * c + f)) with
    | none => exact rZ_e h h0' _
    | some k =>
      simp only [Option.map_some]
      obtain ⟨_, k1, k2, k3⟩ := nc_v (tc_n t1).2 (rT_nm (rR_T h)) e
      obtain ⟨n1, n2⟩ := nE_k h k2
      refine rZ_k (?_ : rR _ _ β s p d) 0 (by decide) (Nat.le_refl _) (by omega) (by omega)
      unfold xt_C nT_C
      have el : (if (N 213 k &&& 2048) = 0 then N 214 k else 0) = X (bk (β k)) 9 := by
        rw [n1.2.2.2.2.2.2.1]
        by_cases g : (N 213 k &&& 2048) = 0
        · rw [if_pos g]
        · rw [if_neg g, rT_13 (rR_T h) k k2 g]
      rw [el, ← n1.2.2.1, ← n1.2.2.2.1, ← n1.2.1]
      exact rR_rp (rR_rp (rR_rp (rR_rp (rR_m h hp k2 h0) hp (rp_mk _ _ _) (by decide) _) hp (rp_k _ _ _) (by decide) _) hp (rp_k _ _ _) (by decide) _) hp (rp_k _ _ _) (by decide) _
end
