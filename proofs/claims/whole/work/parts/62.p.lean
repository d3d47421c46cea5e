/-! Children, counts, rights of both sides. -/
theorem cb_sp (X : Nat → Nat → Int32) (t : Nat) (q x : Int32) : ∀ n i lo, (cb_f X t q x n i lo = none → lo = none ∧ ∀ l, i ≤ l → l < i + n → so_kid X t q l = true → ¬ x < X (bk l) 4) ∧ ∀ j, cb_f X t q x n i lo = some j → (lo = some j ∨ (i ≤ j ∧ j < i + n ∧ so_kid X t q j = true ∧ x < X (bk j) 4)) ∧ (∀ l, i ≤ l → l < i + n → so_kid X t q l = true → x < X (bk l) 4 → ¬ X (bk l) 4 < X (bk j) 4) ∧ ∀ l, lo = some l → ¬ X (bk l) 4 < X (bk j) 4 := by
  intro n
  induction n with
  | zero =>
    intro i lo
    refine ⟨fun h => ⟨h, fun l a b => by omega⟩, fun j h => ⟨Or.inl h, fun l a b => by omega, fun l hl => ?_⟩⟩
    have e : l = j := by
      have := hl.symm.trans h
      exact Option.some.inj this
    rw [e]
    exact Int32.lt_irrefl
  | succ n ih =>
    intro i lo
    obtain ⟨h1, h2⟩ := ih (i + 1) (cb_n X t q x i lo)
    have hc : cb_f X t q x (n + 1) i lo = cb_f X t q x n (i + 1) (cb_n X t q x i lo) := rfl
    rw [hc]
    by_cases hk : so_kid X t q i = true ∧ x < X (bk i) 4 ∧ cb_l X (X (bk i) 4) lo = true
    · have e : cb_n X t q x i lo = some i := if_pos hk
      rw [e] at h1 h2 ⊢
      refine ⟨fun h => absurd (h1 h).1 (by simp), fun j h => ?_⟩
      obtain ⟨a1, a2, a3⟩ := h2 j h
      have a4 := a3 i rfl
      refine ⟨?_, ?_, ?_⟩
      · rcases a1 with a1 | ⟨a1, b1, c1⟩
        · have e : i = j := Option.some.inj a1
          subst e
          exact Or.inr ⟨Nat.le_refl _, by omega, hk.1, hk.2.1⟩
        · exact Or.inr ⟨by omega, by omega, c1⟩
      · intro l b1 b2 b3 b4
        rcases Nat.lt_or_ge i l with b | b
        · exact a2 l (by omega) (by omega) b3 b4
        · have e : l = i := by omega
          rw [e]; exact a4
      · intro l hl
        have := hk.2.2
        rw [hl] at this
        simp only [cb_l, decide_eq_true_eq] at this
        simp only [Int32.lt_iff_toInt_lt] at this a4 ⊢
        omega
    · have e : cb_n X t q x i lo = lo := if_neg hk
      rw [e] at h1 h2 ⊢
      have ho : ∀ l, lo = some l → so_kid X t q i = true → x < X (bk i) 4 → ¬ X (bk i) 4 < X (bk l) 4 := by
        intro l hl b1 b2 b3
        apply hk
        refine ⟨b1, b2, ?_⟩
        rw [hl]
        simp [cb_l, b3]
      have hn : lo = none → so_kid X t q i = true → ¬ x < X (bk i) 4 := by
        intro hl b1 b2
        apply hk
        refine ⟨b1, b2, ?_⟩
        rw [hl]
        rfl
      refine ⟨fun h => ⟨(h1 h).1, fun l b1 b2 b3 => ?_⟩, fun j h => ?_⟩
      · rcases Nat.lt_or_ge i l with b | b
        · exact (h1 h).2 l (by omega) (by omega) b3
        · have e : l = i := by omega
          rw [e] at b3 ⊢
          exact hn (h1 h).1 b3
      · obtain ⟨a1, a2, a3⟩ := h2 j h
        refine ⟨?_, ?_, a3⟩
        · rcases a1 with a1 | ⟨a1, b1, c1⟩
          · exact Or.inl a1
          · exact Or.inr ⟨by omega, by omega, c1⟩
        · intro l b1 b2 b3 b4
          rcases Nat.lt_or_ge i l with b | b
          · exact a2 l (by omega) (by omega) b3 b4
          · have e : l = i := by omega
            subst e
            cases hlo : lo with
            | none => exact absurd b4 (hn hlo b3)
            | some l0 =>
              have c1 := ho l0 hlo b3 b4
              have c2 := a3 l0 hlo
              simp only [Int32.lt_iff_toInt_lt] at c1 c2 ⊢
              omega
/-- as many here as there, by one map -/
theorem fx_c_bij (P Q : Nat → Bool) (g : Nat → Nat) (n m : Nat) (h1 : ∀ j, j < m → Q j = true → g j < n ∧ P (g j) = true) (h2 : ∀ i j, i < m → j < m → Q i = true → Q j = true → g i = g j → i = j) (h3 : ∀ i, i < n → P i = true → ∃ j, j < m ∧ Q j = true ∧ g j = i) : fx_c P n 0 = fx_c Q m 0 := by
  classical
  refine fx_c_eq P Q (fun i => if h : ∃ j, j < m ∧ Q j = true ∧ g j = i then Classical.choose h else 0) g n m ?_ ?_ h1 h2
  · intro i hi hp
    have h := h3 i hi hp
    simp only [dif_pos h]
    have z := Classical.choose_spec h
    exact ⟨z.1, z.2.1⟩
  · intro i j hi hj hp hq e
    have h := h3 i hi hp
    have h' := h3 j hj hq
    simp only [dif_pos h, dif_pos h'] at e
    have z := (Classical.choose_spec h).2.2
    have z' := (Classical.choose_spec h').2.2
    rw [← z, ← z', e]
theorem fx_c_tt : ∀ m i, fx_c (fun _ => true) m i = m := by
  intro m
  induction m with
  | zero => intro i; rfl
  | succ m ih => intro i; simp only [fx_c, ih, if_true]; omega
theorem fx_c_cg {P Q : Nat → Bool} : ∀ n i, (∀ l, i ≤ l → l < i + n → P l = Q l) → fx_c P n i = fx_c Q n i := by
  intro n
  induction n with
  | zero => intro i _; rfl
  | succ n ih =>
    intro i h
    simp only [fx_c]
    rw [h i (Nat.le_refl _) (by omega), ih (i + 1) (fun l a b => h l (by omega) (by omega))]
theorem i_sub1 {m : Nat} (h1 : 1 ≤ m) (h2 : m ≤ 99) : nI m - 1 = nI (m - 1) := by
  have e : m = (m - 1) + 1 := by omega
  rw [e, nI_pred]
  rfl
section
variable {X N : Nat → Nat → Int32} {β : Nat → Nat} {s p d : Nat}
theorem l_inj (h : rT X N β s p d) {k l : Nat} (hk : nv N k) (hl : nv N l) (e : k / 20 = l / 20) (e2 : β k = β l) : k = l := by
  refine rT_4 h k l hk hl e ?_
  rw [← (rT_2 h k hk).2.2.1.1, ← (rT_2 h l hl).2.2.1.1, e2]
theorem l_tit (h : rT X N β s p d) {k : Nat} (hk : nv N k) : X (bk (β k)) 4 = N 209 k := (rT_2 h k hk).2.2.2.1
theorem l_chi (h : rT X N β s p d) {k : Nat} (hk : nv N k) (x : Int32) : so_chi X (tc (k / 20)) (N 207 k) x = (nh_i N k x).map β := by
  have ht := (nv_t (rT_nm h) hk).1
  obtain ⟨s1, s2⟩ := cb_sp X (tc (k / 20)) (N 207 k) (x - 1) 64 0 none
  unfold so_chi
  cases e : nh_i N k x with
  | some c =>
    obtain ⟨c1, c2, c3, c4, c5⟩ := nh_v (rT_nm h) hk.1 e
    obtain ⟨m, m1, m2, m3⟩ := (rT_7 h).2 c c1 c3
    have hx : x = nI m := by rw [← c5, m3]
    have bl := (rT_2 h c c1).1
    have kc : so_kid X (tc (k / 20)) (N 207 k) (β c) = true := (l_kid h ht _ bl).mpr ⟨c, c1, c2, c3, c4, rfl⟩
    have hlt : x - 1 < X (bk (β c)) 4 := by rw [l_tit h c1, c5, hx, i_sub1 m1 m2]; exact nI_lt (by omega) (by omega)
    cases er : cb_f X (tc (k / 20)) (N 207 k) (x - 1) 64 0 none with
    | none => exact absurd hlt ((s1 er).2 _ (Nat.zero_le _) (by omega) kc)
    | some j =>
      obtain ⟨a1, a2, _⟩ := s2 j er
      rcases a1 with a1 | ⟨_, a3, a4, a5⟩
      · cases a1
      · have a6 := a2 (β c) (Nat.zero_le _) (by omega) kc hlt
        obtain ⟨c', d1, d2, d3, d4, d5⟩ := (l_kid h ht _ (by omega)).mp a4
        have e2 : X (bk j) 4 = x := by
          rw [l_tit h c1, c5] at a6
          obtain ⟨m', n1, n2, n3⟩ := (rT_7 h).2 c' d1 d3
          have e3 := l_tit h d1
          rw [d5, n3] at e3
          rw [e3, hx] at a6 ⊢
          rw [e3, hx, i_sub1 m1 m2] at a5
          rw [nI_ltI (by omega) (by omega)] at a5 a6
          rw [show m' = m by omega]
        simp only [if_pos e2, Option.map_some]
        rw [← d5, (rT_7 h).1 c' c d1 c1 (by rw [d2, c2]) d3 c3 (by rw [d4, c4]) (by rw [c5, ← e2, ← d5, l_tit h d1])]
  | none =>
    cases er : cb_f X (tc (k / 20)) (N 207 k) (x - 1) 64 0 none with
    | none => rfl
    | some j =>
      obtain ⟨a1, a2, _⟩ := s2 j er
      rcases a1 with a1 | ⟨_, a3, a4, a5⟩
      · cases a1
      · obtain ⟨c', d1, d2, d3, d4, d5⟩ := (l_kid h ht _ (by omega)).mp a4
        have hne : ¬ X (bk j) 4 = x := by
          intro z
          obtain ⟨g1, g2⟩ := (l_nh h hk).mpr ⟨d1, d2, d3⟩
          have := fx_f_none _ _ _ e c' g1 g2
          rw [decide_eq_false_iff_not] at this
          exact this ⟨d4, by rw [← z, ← d5, l_tit h d1]⟩
        simp only [if_neg hne, Option.map_none]
theorem l_nk (h : rT X N β s p d) {k : Nat} (hk : nv N k) : so_nk X (tc (k / 20)) (N 207 k) = nk_n N k := by
  have ht := (nv_t (rT_nm h) hk).1
  unfold so_nk nk_n
  rw [fx_c_sh _ (nm N (k / 20) - 1)]
  refine fx_c_bij _ _ (fun j => β (20 * (k / 20) + 1 + j)) _ _ ?_ ?_ ?_
  · intro j hj hq
    obtain ⟨a1, a2, a3⟩ := (l_nh h (c := 20 * (k / 20) + 1 + j) hk).mp ⟨by omega, by omega⟩
    refine ⟨(rT_2 h _ a1).1, (l_kid h ht _ (rT_2 h _ a1).1).mpr ⟨_, a1, a2, a3, by simpa using hq, rfl⟩⟩
  · intro i j hi hj _ _ e
    obtain ⟨a1, a2, a3⟩ := (l_nh h (c := 20 * (k / 20) + 1 + i) hk).mp ⟨by omega, by omega⟩
    obtain ⟨b1, b2, b3⟩ := (l_nh h (c := 20 * (k / 20) + 1 + j) hk).mp ⟨by omega, by omega⟩
    have := l_inj h a1 b1 (by rw [a2, b2]) e
    omega
  · intro i hi hp
    obtain ⟨c, c1, c2, c3, c4, c5⟩ := (l_kid h ht _ hi).mp hp
    obtain ⟨g1, g2⟩ := (l_nh h hk).mpr ⟨c1, c2, c3⟩
    have e : 20 * (k / 20) + 1 + (c - (20 * (k / 20) + 1)) = c := by omega
    refine ⟨c - (20 * (k / 20) + 1), by omega, ?_, ?_⟩
    · simp only [e]; simpa using c4
    · simp only [e]; exact c5
theorem l_t0 (h : rT X N β s p d) {j : Nat} (hj : j < nm N 0) : nv N j ∧ j / 20 = 0 := nv_i (rT_nm h) (by decide) (by omega) (by omega)
theorem l_lt0 (h : rT X N β s p d) {k : Nat} (hk : nv N k) (e : k / 20 = 0) : k < nm N 0 ∧ k < 20 := by
  obtain ⟨a1, a2, a3, a4⟩ := nv_t (rT_nm h) hk
  rw [e] at a3
  omega
theorem l_nn (h : rT X N β s p d) : so_nn X = nm N 0 := by
  unfold so_nn
  rw [← fx_c_tt (nm N 0) 0]
  refine fx_c_bij _ _ β _ _ ?_ ?_ ?_
  · intro j hj _
    obtain ⟨a1, a2⟩ := l_t0 h hj
    have b := rT_2 h j a1
    rw [a2] at b
    exact ⟨b.1, b.2.1⟩
  · intro i j hi hj _ _ e
    exact l_inj h (l_t0 h hi).1 (l_t0 h hj).1 (by rw [(l_t0 h hi).2, (l_t0 h hj).2]) e
  · intro i hi hp
    obtain ⟨k, k1, k2, k3⟩ := rT_3 h 0 i (by decide) hi hp
    exact ⟨k, (l_lt0 h k1 k2).1, rfl, k3⟩
/-- a block is in another tree than the present -/
theorem l_ot (h : rT X N β s p d) {k : Nat} (hk : nv N k) : so_ot (X (bk (β k)) 1) = true ↔ no_P N s (N 215 k) := by
  unfold so_ot
  rw [decide_eq_true_eq, tb_oth (by decide)]
  obtain ⟨b1, b2, b3⟩ := rT_2 h k hk
  constructor
  · intro hn
    have : ∃ j, j < 32 ∧ j ≠ 0 ∧ bt (X (bk (β k)) 1) j = true := by
      refine Classical.byContradiction fun z => hn fun j hj h0 => ?_
      cases e : bt (X (bk (β k)) 1) j with
      | false => rfl
      | true => exact absurd ⟨j, hj, h0, e⟩ z
    obtain ⟨j, j1, j2, j3⟩ := this
    have j6 : j < 6 := by
      rcases Nat.lt_or_ge j 6 with q | q
      · exact q
      · rw [rT_8 h _ b1 j q] at j3; cases j3
    obtain ⟨t, t1, t2⟩ := tc_on j6
    rw [← t2] at j3
    obtain ⟨l, l1, l2, l3⟩ := rT_3 h t _ t1 b1 j3
    have ht0 : t ≠ 0 := fun z => j2 (by rw [← t2, z]; rfl)
    obtain ⟨g1, g2, g3, g4⟩ := nv_t (rT_nm h) l1
    rw [l2] at g2 g3
    refine ⟨t, by omega, ?_, l, g2, g3, (rT_5 h l k l1 hk).mpr l3⟩
    rcases Nat.lt_or_ge t (2 + s) with q | q
    · exact q
    · have := ((rT_9 h).2.2.2 t t1).2 q
      omega
  · rintro ⟨t, t1, t2, l, l1, l2, l3⟩ hz
    have t6 : t < 6 := by have := (rT_9 h).2.2.1; omega
    obtain ⟨c1, c2⟩ := nv_i (rT_nm h) t6 l1 l2
    have e := (rT_5 h l k c1 hk).mp l3
    have b := (rT_2 h l c1).2.1
    rw [e, c2] at b
    have := tc_lt t6
    rw [hz (tc t) (by omega) (fun z => by have := (tc_0 t6).mp z; omega)] at b
    cases b
theorem l_otf (h : rT X N β s p d) {k : Nat} (hk : nv N k) : so_ot (X (bk (β k)) 1) = b4 (no_P N s (N 215 k)) := by
  rw [Bool.eq_iff_iff, l_ot h hk, b4_i]
theorem l_nu (h : rT X N β s p d) : so_nu X = nu_n N s := by
  unfold so_nu nu_n
  refine fx_c_bij _ _ β _ _ ?_ ?_ ?_
  · intro j hj hq
    obtain ⟨a1, a2⟩ := l_t0 h hj
    have b := rT_2 h j a1
    rw [a2] at b
    refine ⟨b.1, ?_⟩
    have c : bt (X (bk (β j)) 1) 0 = true := b.2.1
    rw [c, Bool.true_and, Bool.not_eq_true', ← Bool.not_eq_true, l_ot h a1]
    exact b4_i.mp hq
  · intro i j hi hj _ _ e
    exact l_inj h (l_t0 h hi).1 (l_t0 h hj).1 (by rw [(l_t0 h hi).2, (l_t0 h hj).2]) e
  · intro i hi hp
    rw [Bool.and_eq_true, Bool.not_eq_true', ← Bool.not_eq_true] at hp
    obtain ⟨k, k1, k2, k3⟩ := rT_3 h 0 i (by decide) hi hp.1
    refine ⟨k, (l_lt0 h k1 k2).1, b4_i.mpr ?_, k3⟩
    rw [← l_ot h k1, k3]
    exact hp.2
theorem l_mask (h : rT X N β s p d) {i : Nat} (hi : i < 64) : ¬ X (bk i) 1 = 0 ↔ ∃ k, nv N k ∧ β k = i := by
  constructor
  · intro hz
    have : ∃ j, j < 32 ∧ bt (X (bk i) 1) j = true := by
      refine Classical.byContradiction fun z => hz (tb_zero.mpr fun j hj => ?_)
      cases e : bt (X (bk i) 1) j with
      | false => rfl
      | true => exact absurd ⟨j, hj, e⟩ z
    obtain ⟨j, j1, j3⟩ := this
    have j6 : j < 6 := by
      rcases Nat.lt_or_ge j 6 with q | q
      · exact q
      · rw [rT_8 h _ hi j q] at j3; cases j3
    obtain ⟨t, t1, t2⟩ := tc_on j6
    rw [← t2] at j3
    obtain ⟨l, l1, l2, l3⟩ := rT_3 h t _ t1 hi j3
    exact ⟨l, l1, l3⟩
  · rintro ⟨k, k1, k2⟩ hz
    have b := (rT_2 h k k1).2.1
    rw [k2, hz, b_0] at b
    cases b
theorem l_first (P : Nat → Prop) : ∀ n, P n → ∃ m, m ≤ n ∧ P m ∧ ∀ j, j < m → ¬ P j := by
  intro n
  induction n using Nat.strongRecOn with
  | ind n ih =>
    intro h
    by_cases q : ∃ j, j < n ∧ P j
    · obtain ⟨j, j1, j2⟩ := q
      obtain ⟨m, m1, m2⟩ := ih j j1 j2
      exact ⟨m, by omega, m2⟩
    · exact ⟨n, Nat.le_refl _, h, fun j a b => q ⟨j, a, b⟩⟩
theorem l_nb (h : rT X N β s p d) : so_nb X = nb_n N s := by
  unfold so_nb nb_n
  refine fx_c_bij _ _ β _ _ ?_ ?_ ?_
  · intro j hj hq
    have q := (b4_i.mp hq).1
    refine ⟨(rT_2 h j q).1, ?_⟩
    rw [decide_eq_true_eq]
    exact (l_mask h (rT_2 h j q).1).mpr ⟨j, q, rfl⟩
  · intro i j hi hj hq hr e
    obtain ⟨q1, q2⟩ := b4_i.mp hq
    obtain ⟨r1, r2⟩ := b4_i.mp hr
    have e2 := (rT_5 h i j q1 r1).mpr e
    rcases Nat.lt_trichotomy i j with g | g | g
    · exact absurd ⟨i, g, q1, e2⟩ r2
    · exact g
    · exact absurd ⟨j, g, r1, e2.symm⟩ q2
  · intro i hi hp
    rw [decide_eq_true_eq] at hp
    obtain ⟨k, k1, k2⟩ := (l_mask h hi).mp hp
    obtain ⟨m, m1, m2, m3⟩ := l_first (fun k => nv N k ∧ β k = i) k ⟨k1, k2⟩
    refine ⟨m, ?_, b4_i.mpr ⟨m2.1, ?_⟩, m2.2⟩
    · obtain ⟨g1, g2, g3, g4⟩ := nv_t (rT_nm h) m2.1
      rcases Nat.lt_or_ge (m / 20) (2 + s) with q | q
      · omega
      · have := ((rT_9 h).2.2.2 _ g1).2 q
        omega
    · rintro ⟨j, j1, j2, j3⟩
      exact m3 j j1 ⟨j2, by rw [(rT_5 h j m j2 m2.1).mp j3, m2.2]⟩
/-- how many blocks a change needs -/
theorem l_hr (h : rT X N β s p d) : ∀ n m k, nv N k → k / 20 = 0 → k % 20 ≤ n → k % 20 ≤ m → hr_n X (n + 1) (some (β k)) = n1 (no_P N s (N 215 k)) + nn_f N s m k := by
  intro n
  induction n with
  | zero =>
    intro m k hk h0 h1 h2
    have e : k % 20 = 0 := by omega
    have hm0 : nn_f N s m k = 0 := by
      cases m with
      | zero => rfl
      | succ m => exact if_pos (l_root h hk e).1
    rw [hm0, hr_n, l_otf h hk]
    by_cases q : no_P N s (N 215 k)
    · simp [b4_t q, n1_t q, hr_n]
    · simp [b4_f q, n1_f q, hr_n]
  | succ n ih =>
    intro m k hk h0 h1 h2
    rw [hr_n, l_otf h hk]
    have e1 : (if b4 (no_P N s (N 215 k)) = true then 1 else 0) = n1 (no_P N s (N 215 k)) := by
      by_cases q : no_P N s (N 215 k)
      · simp [b4_t q, n1_t q]
      · simp [b4_f q, n1_f q]
    rw [e1]
    have e2 := l_abi h hk
    rw [h0, show tc 0 = 0 from rfl] at e2
    rw [e2]
    by_cases e : k % 20 = 0
    · rw [if_pos e]
      cases m with
      | zero => rfl
      | succ m => rw [nn_f, if_pos (l_root h hk e).1]; rfl
    · obtain ⟨c1, c2, c3, c4, c5, c6, c7⟩ := l_par h hk e
      rw [if_neg e]
      cases m with
      | zero => omega
      | succ m => rw [nn_f, if_neg c6, ih m (np N k) c2 (by omega) (by omega) (by omega)]
theorem l_need (h : rT X N β s p d) {k : Nat} (hk : nv N k) (h0 : k / 20 = 0) : hr_n X 20 (some (β k)) = nn_n N s k := l_hr h 19 20 k hk h0 (by omega) (by omega)
theorem l_ca (h : rT X N β s p d) : ∀ n m k, nv N k → k / 20 = 0 → k % 20 ≤ n → k % 20 ≤ m → ca_n X n (so_abi X 0 (β k)) = nd_n N m k := by
  intro n
  induction n with
  | zero =>
    intro m k hk h0 h1 h2
    have e : k % 20 = 0 := by omega
    cases m with
    | zero => cases so_abi X 0 (β k) <;> rfl
    | succ m =>
      rw [nd_n, if_pos (l_root h hk e).1]
      cases so_abi X 0 (β k) <;> rfl
  | succ n ih =>
    intro m k hk h0 h1 h2
    have e2 := l_abi h hk
    rw [h0, show tc 0 = 0 from rfl] at e2
    rw [e2]
    by_cases e : k % 20 = 0
    · rw [if_pos e]
      cases m with
      | zero => rfl
      | succ m => rw [nd_n, if_pos (l_root h hk e).1]; rfl
    · obtain ⟨c1, c2, c3, c4, c5, c6, c7⟩ := l_par h hk e
      rw [if_neg e]
      cases m with
      | zero => omega
      | succ m => rw [nd_n, if_neg c6, ca_n, ih m (np N k) c2 (by omega) (by omega) (by omega)]
theorem l_dep (h : rT X N β s p d) {k : Nat} (hk : nv N k) (h0 : k / 20 = 0) : ca_n X 20 (so_abi X 0 (β k)) = nd_n N 20 k := l_ca h 20 20 k hk h0 (by omega) (by omega)
end
