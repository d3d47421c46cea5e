/-! Reading. -/
theorem cb_c {C D : Nat → Nat → Int32} (h : ∀ i, i < 64 → D (bk i) = C (bk i)) (t : Nat) (q x : Int32) : ∀ n i lo, i + n ≤ 64 → (∀ l, lo = some l → l < 64) → cb_f D t q x n i lo = cb_f C t q x n i lo := by
  intro n
  induction n with
  | zero => intro i lo _ _; rfl
  | succ n ih =>
    intro i lo hi hl
    have e : cb_n D t q x i lo = cb_n C t q x i lo := by
      have hk : so_kid D t q i = so_kid C t q i := by
        unfold so_kid
        rw [h i (by omega)]
      have hL : cb_l D (C (bk i) 4) lo = cb_l C (C (bk i) 4) lo := by
        cases lo with
        | none => rfl
        | some l =>
          unfold cb_l
          simp only
          rw [h l (hl l rfl)]
      unfold cb_n
      rw [hk, h i (by omega), hL]
    show cb_f D t q x n (i + 1) (cb_n D t q x i lo) = cb_f C t q x n (i + 1) (cb_n C t q x i lo)
    rw [e]
    exact ih (i + 1) _ (by omega) (fun l z => cb_lt (by omega) hl l z)
theorem cb_x (C : Nat → Nat → Int32) (t : Nat) (q x y : Int32) (h : ∀ l, l < 64 → so_kid C t q l = true → (x < C (bk l) 4 ↔ y < C (bk l) 4)) : ∀ n i lo, i + n ≤ 64 → cb_f C t q x n i lo = cb_f C t q y n i lo := by
  intro n
  induction n with
  | zero => intro i lo _; rfl
  | succ n ih =>
    intro i lo hi
    have e : cb_n C t q x i lo = cb_n C t q y i lo := by
      unfold cb_n
      by_cases hk : so_kid C t q i = true
      · have := h i (by omega) hk
        simp only [this]
      · rw [if_neg (fun z => hk z.1), if_neg (fun z => hk z.1)]
    show cb_f C t q x n (i + 1) (cb_n C t q x i lo) = cb_f C t q y n (i + 1) (cb_n C t q y i lo)
    rw [e]
    exact ih (i + 1) _ (by omega)
theorem nD_stop (C : Nat → Nat → Int32) (k a c : Nat) : ∀ d D x j n, ¬ n < c → nD_f C k a c d D x j n = (n, D) := by
  intro d
  induction d with
  | zero => intro D x j n _; rfl
  | succ d ih =>
    intro D x j n h
    unfold nD_f
    cases nh_i C k (nI x) with
    | none => exact ih _ _ _ _ h
    | some _ =>
      simp only
      rw [if_neg (fun z => h z.2)]
      exact ih _ _ _ _ h
section
variable {X N X' N' : Nat → Nat → Int32} {β : Nat → Nat} {s p d c f : Nat}
theorem rb_row {b a x : Nat} (h1 : x ≠ 201) (h2 : x ≠ 202) : ∀ n, rb_C X b a n x = X x := by
  intro n
  induction n with
  | zero => rfl
  | succ n ih => rw [rb_C, rp_row _ h1 h2, ih]
/-- bytes are told -/
theorem rR_rb (h : rR X N β s p d) (hp : p < 2 ^ 30) (h0 : X 201 1 = nI 0) {k a : Nat} (hk : nv N k) : ∀ n, n ≤ 8 → a + n ≤ (N 214 k).toNatClampNeg ∨ n = 0 → rR (rb_C X (bk (β k)) a n) (nB_C N k a n) β s p d ∧ rb_C X (bk (β k)) a n 201 1 = nI n := by
  intro n
  induction n with
  | zero => intro _ _; exact ⟨h, h0⟩
  | succ n ih =>
    intro h8 hl
    obtain ⟨r1, r2⟩ := ih (by omega) (by omega)
    have e : X (bk (β k) + 1) (a + n) = N 216 (16 * k + (a + n)) := (nE_k h hk).1.2.2.2.2.2.2.2 (a + n) (by omega)
    rw [rb_C, nB_C, ← e]
    exact ⟨rR_rp r1 hp r2 (by omega) _, rp_k _ _ _⟩
/-- the lowest title from x on -/
theorem l_low (h : rT X N β s p d) {k : Nat} (hk : nv N k) {x : Nat} (x1 : 1 ≤ x) (x2 : x ≤ 99) : match nh_i N k (nI x) with
    | some e => cb_f X (tc (k / 20)) (N 207 k) (nI (x - 1)) 64 0 none = some (β e) ∧ nv N e ∧ N 209 e = nI x
    | none => cb_f X (tc (k / 20)) (N 207 k) (nI (x - 1)) 64 0 none = cb_f X (tc (k / 20)) (N 207 k) (nI x) 64 0 none := by
  have lc := l_chi h hk (nI x)
  unfold so_chi at lc
  rw [i_sub1 x1 x2] at lc
  have ht := (nv_t (rT_nm h) hk).1
  cases e : nh_i N k (nI x) with
  | some c =>
    rw [e] at lc
    simp only
    obtain ⟨c1, c2, c3, c4, c5⟩ := nh_v (rT_nm h) hk.1 e
    refine ⟨?_, c1, c5⟩
    cases er : cb_f X (tc (k / 20)) (N 207 k) (nI (x - 1)) 64 0 none with
    | none => rw [er] at lc; simp at lc
    | some i =>
      rw [er] at lc
      simp only [Option.map_some] at lc
      split at lc
      · exact lc
      · cases lc
  | none =>
    simp only
    refine cb_x X _ _ _ _ (fun l hl hkid => ?_) 64 0 none (by decide)
    obtain ⟨c, c1, c2, c3, c4, c5⟩ := (l_kid h ht _ hl).mp hkid
    obtain ⟨m, m1, m2, m3⟩ := (rT_7 h).2 c c1 c3
    have hne : m ≠ x := by
      intro z
      obtain ⟨g1, g2⟩ := (l_nh h hk).mpr ⟨c1, c2, c3⟩
      have := fx_f_none _ _ _ e c g1 g2
      rw [decide_eq_false_iff_not] at this
      exact this ⟨c4, by rw [m3, z]⟩
    rw [← c5, l_tit h c1, m3, nI_ltI (by omega) (by omega), nI_ltI (by omega) (by omega)]
    omega
theorem l_top (h : rT X N β s p d) {k : Nat} (hk : nv N k) : cb_f X (tc (k / 20)) (N 207 k) (nI 99) 64 0 none = none := by
  have ht := (nv_t (rT_nm h) hk).1
  cases er : cb_f X (tc (k / 20)) (N 207 k) (nI 99) 64 0 none with
  | none => rfl
  | some i =>
    exfalso
    obtain ⟨a1, _⟩ := (cb_sp X (tc (k / 20)) (N 207 k) (nI 99) 64 0 none).2 i er
    rcases a1 with a1 | ⟨_, a2, a3, a4⟩
    · cases a1
    · obtain ⟨c, c1, c2, c3, c4, c5⟩ := (l_kid h ht _ (by omega)).mp a3
      obtain ⟨m, m1, m2, m3⟩ := (rT_7 h).2 c c1 c3
      rw [← c5, l_tit h c1, m3, nI_ltI (by omega) (by omega)] at a4
      omega
theorem l_few (h : rT X N β s p d) {k : Nat} (hk : nv N k) : fx_c (fun y => (nh_i N k (nI y)).isSome) 99 1 ≤ 8 := by
  refine Nat.le_trans ?_ (rT_14 h k hk).1
  unfold nk_n
  rw [fx_c_sh _ 99, fx_c_sh _ (nm N (k / 20) - 1)]
  have w : ∀ i, (nh_i N k (nI (1 + i))).isSome = true → ∃ c, nh_i N k (nI (1 + i)) = some c ∧ nv N c ∧ c / 20 = k / 20 ∧ ¬ c % 20 = 0 ∧ N 208 c = N 207 k ∧ N 209 c = nI (1 + i) := by
    intro i hi
    cases e : nh_i N k (nI (1 + i)) with
    | none => rw [e] at hi; cases hi
    | some c => exact ⟨c, rfl, nh_v (rT_nm h) hk.1 e⟩
  refine fx_c_inj _ (fun i => (nh_i N k (nI (1 + i))).getD 0 - (20 * (k / 20) + 1)) _ _ _ ?_ ?_
  · intro i hi hp
    obtain ⟨c, c0, c1, c2, c3, c4, c5⟩ := w i hp
    obtain ⟨g1, g2⟩ := (l_nh h hk).mpr ⟨c1, c2, c3⟩
    simp only [c0, Option.getD_some]
    refine ⟨by omega, ?_⟩
    rw [show 20 * (k / 20) + 1 + (c - (20 * (k / 20) + 1)) = c by omega]
    simpa using c4
  · intro i j hi hj hp hq e
    obtain ⟨c, c0, c1, c2, c3, c4, c5⟩ := w i hp
    obtain ⟨c', d0, d1, d2, d3, d4, d5⟩ := w j hq
    obtain ⟨g1, g2⟩ := (l_nh h hk).mpr ⟨c1, c2, c3⟩
    obtain ⟨g3, g4⟩ := (l_nh h hk).mpr ⟨d1, d2, d3⟩
    simp only [c0, d0, Option.getD_some] at e
    have : c = c' := by omega
    rw [← this, c5, nI_eq (by omega) (by omega)] at d5
    omega
/-- titles are told -/
theorem rR_rt (h : rR X N β s p d) (hp : p < 2 ^ 30) {k a m : Nat} (hk : nv N k) (hm : m ≤ 8) : ∀ e x D j n Y M, x + e = 100 → 1 ≤ x → fx_c (fun y => (nh_i N k (nI y)).isSome) e x ≤ D → n ≤ m → rR Y M β s p d → (∀ b, b < 204 → b ≠ 201 → b ≠ 202 → Y b = X b) → Y 201 1 = nI n →
    (rt_f (tc (k / 20)) (bk (β k)) a m D Y j (cb_f X (tc (k / 20)) (N 207 k) (nI (x - 1)) 64 0 none) n).1 = (nD_f N k a m e M x j n).1 ∧ rR (rt_f (tc (k / 20)) (bk (β k)) a m D Y j (cb_f X (tc (k / 20)) (N 207 k) (nI (x - 1)) 64 0 none) n).2 (nD_f N k a m e M x j n).2 β s p d := by
  have hT := rR_T h
  obtain ⟨n1, n2⟩ := nE_k h hk
  intro e
  induction e with
  | zero =>
    intro x D j n Y M hx x1 hD hn hR hY hc
    rw [show x - 1 = 99 by omega, l_top hT hk]
    cases D <;> exact ⟨rfl, hR⟩
  | succ e ih =>
    intro x D j n Y M hx x1 hD hn hR hY hc
    have ll := l_low hT hk x1 (show x ≤ 99 by omega)
    unfold nD_f
    cases q : nh_i N k (nI x) with
    | none =>
      rw [q] at ll
      simp only [fx_c, q, Option.isSome_none, Bool.false_eq_true, if_false, Nat.zero_add] at hD
      simp only at ll ⊢
      rw [ll]
      have := ih (x + 1) D j n Y M (by omega) (by omega) hD hn hR hY hc
      rw [show x + 1 - 1 = x by omega] at this
      exact this
    | some g =>
      rw [q] at ll
      simp only [fx_c, q, Option.isSome_some, if_true] at hD
      simp only at ll ⊢
      obtain ⟨l1, l2, l3⟩ := ll
      rw [l1]
      obtain ⟨D, rfl⟩ : ∃ D', D = D' + 1 := ⟨D - 1, by omega⟩
      have g64 := (rT_2 hT g l2).1
      have yb : ∀ i, i < 64 → Y (bk i) = X (bk i) := fun i hi => hY _ (by unfold bk; omega) (by unfold bk; omega) (by unfold bk; omega)
      have e2 : Y (bk (β k)) 2 = N 207 k := by rw [yb _ n2]; exact n1.1.1
      have e4 : Y (bk (β g)) 4 = nI x := by rw [yb _ g64, l_tit hT l2, l3]
      by_cases q1 : n < m
      · by_cases q2 : a ≤ j
        · rw [rt_f, if_pos q1, if_pos q2, if_pos ⟨q2, q1⟩]
          rw [rp_ne (by unfold bk; omega) (by unfold bk; omega), rp_ne (by unfold bk; omega) (by unfold bk; omega), e2, e4]
          have yb' : ∀ i, i < 64 → rp_add Y n (nI x) (bk i) = X (bk i) := fun i hi => by rw [rp_row _ (by unfold bk; omega) (by unfold bk; omega)]; exact yb i hi
          rw [cb_c yb' _ _ _ 64 0 none (by decide) (fun l z => by cases z)]
          have := ih (x + 1) D (j + 1) (n + 1) (rp_add Y n (nI x)) (nt_C M n (nI x)) (by omega) (by omega) (by omega) (by omega) (rR_rp hR hp hc (by omega) _) (fun b b1 b2 b3 => by rw [rp_row _ b2 b3]; exact hY b b1 b2 b3) (rp_k _ _ _)
          rw [show x + 1 - 1 = x by omega] at this
          exact this
        · rw [rt_f, if_pos q1, if_neg q2, if_neg (fun z => q2 z.1), e2, e4]
          rw [cb_c yb _ _ _ 64 0 none (by decide) (fun l z => by cases z)]
          have := ih (x + 1) D (j + 1) n Y M (by omega) (by omega) (by omega) hn hR hY hc
          rw [show x + 1 - 1 = x by omega] at this
          exact this
      · rw [rt_f, if_neg q1, if_neg (fun z => q1 z.2), nD_stop _ _ _ _ _ _ _ _ _ q1]
        exact ⟨rfl, hR⟩
theorem q_read (h : rR X N β s p d) (hp : p < 2 ^ 30) (hc : c < 2) (hf : f < 6) (h0 : X 201 1 = nI 0) (h0' : N 204 26 = nI 0) {t : Nat} (ht : t ≤ 4) (et : X (cn_f c f) 3 = nI t) {x y : Int32} (e0 : N 228 0 = x) (e1 : N 228 1 = y) : rZ s p d (xq_R X (cn_f c f) t x y) (nQ_R N (6 * c + f) (if t = 0 then 0 else t + 1)) := by
  obtain ⟨t', t1, t2, t3, u1, u2, u3⟩ := f_view h hc hf
  have e : t' = t := by
    rw [et, nI_eq (by omega) (by omega)] at t2
    exact t2.symm
  subst e
  have hT := rR_T h
  unfold xq_R nQ_R
  rw [e0, e1]
  by_cases q1 : X (cn_f c f) 0 = 0
  · rw [if_pos q1, if_pos (u1.mp q1)]
    exact rZ_e h h0' _
  · rw [if_neg q1, if_neg (fun z => q1 (u1.mpr z))]
    obtain ⟨v1, v2, v3, v4⟩ := u3 q1
    rcases v1.2.2.2 with w | ⟨w1, w2, w3, w4, w5⟩
    · rw [if_pos (Or.inl w.1), if_pos (Or.inl w.2)]
      exact rZ_e h h0' _
    · by_cases q2 : (N 220 (6 * c + f) &&& 3) = 1
      · rw [if_pos (Or.inr (by rw [w3]; exact q2)), if_pos (Or.inr q2)]
        exact rZ_e h h0' _
      · rw [if_neg (by rw [w3]; exact fun z => z.elim w1 q2), if_neg (fun z => z.elim w2 q2)]
        rw [v4]
        cases e : nc_i N (if t' = 0 then 0 else t' + 1) (N 219 (6 * c + f)) with
        | none => exact rZ_e h h0' _
        | some k =>
          simp only [Option.map_some]
          obtain ⟨_, k1, k2, k3⟩ := nc_v (tc_n t1).2 (rT_nm hT) e
          obtain ⟨m1, m2⟩ := nE_k h k2
          have tct : tc (k / 20) = t' := by rw [k1]; exact (tc_n t1).1
          by_cases q3 : x < 0 ∨ y < 0 ∨ 8 < y
          · rw [if_pos q3, if_pos q3]
            exact rZ_e h h0' _
          · rw [if_neg q3, if_neg q3, m1.2.2.2.2.2.1]
            have y8 : y.toNatClampNeg ≤ 8 := by
              obtain ⟨b, b1, b2⟩ := nI_of (show ¬ y < 0 from fun z => q3 (Or.inr (Or.inl z)))
              have : ¬ 8 < y := fun z => q3 (Or.inr (Or.inr z))
              rw [b2, show (8 : Int32) = nI 8 from rfl, nI_ltI (by decide) b1] at this
              rw [b2, nI_clamp b1]
              omega
            by_cases q4 : (N 213 k &&& 2048) = 0
            · rw [if_pos q4, if_pos q4]
              have el : ln_ X (bk (β k)) = (N 214 k).toNatClampNeg := by unfold ln_; rw [m1.2.2.2.2.2.2.1]
              rw [el]
              refine rZ_k (rR_rb h hp h0 k2 _ (by omega) (by omega)).1 _ (nI_pos (by omega)) (Nat.le_refl _) (by omega) (by omega)
            · rw [if_neg q4, if_neg q4, w4]
              by_cases q5 : ¬ x = 0 ∧ ¬ x = N 221 (6 * c + f)
              · rw [if_pos q5, if_pos q5]
                exact rZ_e h h0' _
              · rw [if_neg q5, if_neg q5, m1.1.1]
                have hh := rR_rt h hp (a := x.toNatClampNeg) k2 y8 99 1 8 0 0 X N (by decide) (by decide) (l_few hT k2) (Nat.zero_le _) h (fun _ _ _ _ => rfl) h0
                rw [tct, show nI (1 - 1) = 0 from rfl] at hh
                obtain ⟨r1, r2⟩ := hh
                rw [r1]
                refine ⟨rfl, fun z => ?_, β, p, d, rR_end r2 hc hf _, Nat.le_refl _, by omega, by omega⟩
                exfalso
                revert z
                refine nI_pos ?_
                have gen : ∀ e D j i n, n ≤ 8 → (nD_f N k x.toNatClampNeg y.toNatClampNeg e D j i n).1 ≤ 8 := by
                  intro e
                  induction e with
                  | zero => intro D j i n hn; exact hn
                  | succ e ih =>
                    intro D j i n hn
                    unfold nD_f
                    cases nh_i N k (nI j) with
                    | none => exact ih _ _ _ _ hn
                    | some _ =>
                      simp only
                      split
                      · exact ih _ _ _ _ (by omega)
                      · exact ih _ _ _ _ hn
                have := gen 99 N 1 0 0 (by decide)
                omega
end
