/-! The lookups of both sides answer alike. -/
theorem fx_f_at (P : Nat → Bool) {j : Nat} (hj : P j = true) : ∀ n i, i ≤ j → j < i + n → (∀ l, i ≤ l → l < i + n → P l = true → l = j) → fx_f P n i = some j := by
  intro n
  induction n with
  | zero => intro i h1 h2; omega
  | succ n ih =>
    intro i h1 h2 h3
    unfold fx_f
    by_cases hi : P i = true
    · rw [if_pos hi, h3 i (Nat.le_refl _) (by omega) hi]
    · have hne : i ≠ j := fun z => hi (z ▸ hj)
      rw [if_neg hi]
      exact ih (i + 1) (by omega) (by omega) (fun l a b => h3 l (by omega) (by omega))
theorem fx_f_no (P : Nat → Bool) : ∀ n i, (∀ l, i ≤ l → l < i + n → ¬ P l = true) → fx_f P n i = none := by
  intro n
  induction n with
  | zero => intro i _; rfl
  | succ n ih =>
    intro i h
    unfold fx_f
    rw [if_neg (h i (Nat.le_refl _) (by omega))]
    exact ih (i + 1) (fun l a b => h l (by omega) (by omega))
theorem nv_t {N : Nat → Nat → Int32} (hm : nm_ok N) {k : Nat} (h : nv N k) : k / 20 < 6 ∧ 20 * (k / 20) ≤ k ∧ k < 20 * (k / 20) + nm N (k / 20) ∧ nm N (k / 20) ≤ 20 := by
  obtain ⟨h1, h2⟩ := h
  have h3 : k / 20 < 6 := by omega
  have h4 := (hm _ h3).1
  exact ⟨h3, by omega, by omega, h4⟩
theorem nv_i {N : Nat → Nat → Int32} (hm : nm_ok N) {t k : Nat} (ht : t < 6) (h1 : 20 * t ≤ k) (h2 : k < 20 * t + nm N t) : nv N k ∧ k / 20 = t := by
  have h4 := (hm _ ht).1
  have h5 : k / 20 = t := by omega
  exact ⟨⟨by omega, by rw [h5]; omega⟩, h5⟩
theorem nc_at {N : Nat → Nat → Int32} (hm : nm_ok N) (h4 : rT4 N) {k : Nat} (hk : nv N k) : nc_i N (k / 20) (N 207 k) = some k := by
  obtain ⟨a1, a2, a3, a4⟩ := nv_t hm hk
  refine fx_f_at _ (by simp) _ _ a2 a3 (fun l b1 b2 b3 => ?_)
  obtain ⟨c1, c2⟩ := nv_i hm a1 b1 b2
  exact h4 l k c1 hk c2 (by simpa using b3)
/-- the parent -/
theorem np_at {N : Nat → Nat → Int32} (hm : nm_ok N) (h4 : rT4 N) {k l : Nat} (hl : nv N l) (e : l / 20 = k / 20) (e2 : N 207 l = N 208 k) : nc_i N (k / 20) (N 208 k) = some l ∧ np N k = l := by
  have h := nc_at hm h4 hl
  rw [e, e2] at h
  exact ⟨h, by unfold np; rw [h]; rfl⟩
section
variable {X N : Nat → Nat → Int32} {β : Nat → Nat} {s p d : Nat}
theorem rT_nm (h : rT X N β s p d) : nm_ok N := h.1
theorem rT_2 (h : rT X N β s p d) : rT2 X N β := h.2.1
theorem rT_3 (h : rT X N β s p d) : rT3 X N β := h.2.2.1
theorem rT_4 (h : rT X N β s p d) : rT4 N := h.2.2.2.1
theorem rT_5 (h : rT X N β s p d) : rT5 N β := h.2.2.2.2.1
theorem rT_6 (h : rT X N β s p d) : rT6 N := h.2.2.2.2.2.1
theorem rT_7 (h : rT X N β s p d) : rT7 N := h.2.2.2.2.2.2.1
theorem rT_8 (h : rT X N β s p d) : rT8 X := h.2.2.2.2.2.2.2.1
theorem rT_9 (h : rT X N β s p d) : rT9 X N s := h.2.2.2.2.2.2.2.2.1
theorem rT_10 (h : rT X N β s p d) : rT10 N d := h.2.2.2.2.2.2.2.2.2.1
theorem rT_11 (h : rT X N β s p d) : rT11 X N p := h.2.2.2.2.2.2.2.2.2.2.1
theorem rT_12 (h : rT X N β s p d) : rT12 X N := h.2.2.2.2.2.2.2.2.2.2.2.1
theorem rT_13 (h : rT X N β s p d) : rT13 N := h.2.2.2.2.2.2.2.2.2.2.2.2.1
theorem rT_14 (h : rT X N β s p d) : rT14 N := h.2.2.2.2.2.2.2.2.2.2.2.2.2
theorem rT_mk (h1 : nm_ok N) (h2 : rT2 X N β) (h3 : rT3 X N β) (h4 : rT4 N) (h5 : rT5 N β) (h6 : rT6 N) (h7 : rT7 N) (h8 : rT8 X) (h9 : rT9 X N s) (h10 : rT10 N d) (h11 : rT11 X N p) (h12 : rT12 X N) (h13 : rT13 N) (h14 : rT14 N) : rT X N β s p d := ⟨h1, h2, h3, h4, h5, h6, h7, h8, h9, h10, h11, h12, h13, h14⟩
/-- a node's place by its path -/
theorem l_i (h : rT X N β s p d) {t : Nat} (ht : t < 6) (q : Int32) : so_i X (tc t) q = (nc_i N t q).map β := by
  have hm := rT_nm h
  cases e : nc_i N t q with
  | some k =>
    obtain ⟨_, k1, k2, k3⟩ := nc_v ht hm e
    obtain ⟨b1, b2, b3⟩ := rT_2 h k k2
    rw [k1] at b2
    refine fx_f_at _ ?_ 64 0 (Nat.zero_le _) (by omega) ?_
    · simp [b2, b3.1.1, k3]
    · intro l _ hl hp
      simp only [Bool.and_eq_true, decide_eq_true_eq] at hp
      obtain ⟨k', c1, c2, c3⟩ := rT_3 h t l ht (by omega) hp.2
      have c4 := (rT_2 h k' c1).2.2.1.1
      rw [c3, hp.1] at c4
      rw [← c3, rT_4 h k' k c1 k2 (by rw [c2, k1]) (by rw [← c4, k3])]
  | none =>
    refine fx_f_no _ 64 0 ?_
    intro l _ hl hp
    simp only [Bool.and_eq_true, decide_eq_true_eq] at hp
    obtain ⟨k', c1, c2, c3⟩ := rT_3 h t l ht (by omega) hp.2
    have c4 := (rT_2 h k' c1).2.2.1.1
    rw [c3, hp.1] at c4
    obtain ⟨d1, d2, d3, d4⟩ := nv_t hm c1
    rw [c2] at d2 d3
    have := fx_f_none _ _ _ e k' d2 d3
    simp [← c4] at this
theorem l_par (h : rT X N β s p d) {k : Nat} (hk : nv N k) (h0 : ¬ k % 20 = 0) : nc_i N (k / 20) (N 208 k) = some (np N k) ∧ nv N (np N k) ∧ np N k / 20 = k / 20 ∧ np N k < k ∧ N 207 (np N k) = N 208 k ∧ ¬ N 208 k < 0 ∧ ¬ N 207 k = 0 := by
  rcases rT_6 h k hk with ⟨a, _⟩ | ⟨_, a1, a2, l, l1, l2, l3, l4⟩
  · exact absurd a h0
  · obtain ⟨b1, b2⟩ := np_at (rT_nm h) (rT_4 h) l1 l2 l4
    rw [b2]
    exact ⟨b1, l1, l2, l3, l4, a1, a2⟩
theorem l_root (h : rT X N β s p d) {k : Nat} (hk : nv N k) (h0 : k % 20 = 0) : N 208 k < 0 ∧ N 207 k = 0 := by
  rcases rT_6 h k hk with ⟨_, a⟩ | ⟨a, _⟩
  · exact a
  · exact absurd h0 a
theorem l_neg (h : rT X N β s p d) {k : Nat} (hk : nv N k) : N 208 k < 0 ↔ k % 20 = 0 :=
  ⟨fun z => Classical.byContradiction fun q => (l_par h hk q).2.2.2.2.2.1 z, fun z => (l_root h hk z).1⟩
theorem l_0 (h : rT X N β s p d) {k : Nat} (hk : nv N k) : N 207 k = 0 ↔ k % 20 = 0 :=
  ⟨fun z => Classical.byContradiction fun q => (l_par h hk q).2.2.2.2.2.2 z, fun z => (l_root h hk z).2⟩
theorem l_abi (h : rT X N β s p d) {k : Nat} (hk : nv N k) : so_abi X (tc (k / 20)) (β k) = if k % 20 = 0 then none else some (β (np N k)) := by
  obtain ⟨b1, b2, b3⟩ := rT_2 h k hk
  have ht := (nv_t (rT_nm h) hk).1
  unfold so_abi
  rw [b3.1.1]
  by_cases h0 : k % 20 = 0
  · rw [if_pos (l_root h hk h0).2, if_pos h0]
  · obtain ⟨c1, c2, c3, c4, c5, c6, c7⟩ := l_par h hk h0
    rw [if_neg c7, if_neg h0, b3.1.2, if_neg c6, l_i h ht, c1]
    rfl
/-- the nodes of a directory -/
theorem l_kid (h : rT X N β s p d) {t : Nat} (ht : t < 6) (q : Int32) {i : Nat} (hi : i < 64) : so_kid X (tc t) q i = true ↔ ∃ c, nv N c ∧ c / 20 = t ∧ ¬ c % 20 = 0 ∧ N 208 c = q ∧ β c = i := by
  unfold so_kid
  rw [decide_eq_true_eq]
  constructor
  · rintro ⟨a1, a2, a3⟩
    obtain ⟨c, c1, c2, c3⟩ := rT_3 h t i ht hi a1
    have e := (rT_2 h c c1).2.2.1
    rw [c3] at e
    have h0 : ¬ c % 20 = 0 := fun z => a3 (by rw [e.1, (l_root h c1 z).2])
    refine ⟨c, c1, c2, h0, ?_, c3⟩
    rw [← a2, e.2, if_neg (l_par h c1 h0).2.2.2.2.2.1]
  · rintro ⟨c, c1, c2, c3, c4, c5⟩
    obtain ⟨b1, b2, b3⟩ := rT_2 h c c1
    rw [c5] at b2 b3
    rw [c2] at b2
    obtain ⟨_, _, _, _, _, g6, g7⟩ := l_par h c1 c3
    refine ⟨b2, ?_, ?_⟩
    · rw [b3.1.2, if_neg g6, c4]
    · rw [b3.1.1]; exact g7
/-- .. as the reference's loops see them -/
theorem l_nh (h : rT X N β s p d) {k c : Nat} (hk : nv N k) : (20 * (k / 20) + 1 ≤ c ∧ c < 20 * (k / 20) + 1 + (nm N (k / 20) - 1)) ↔ (nv N c ∧ c / 20 = k / 20 ∧ ¬ c % 20 = 0) := by
  obtain ⟨a1, a2, a3, a4⟩ := nv_t (rT_nm h) hk
  constructor
  · rintro ⟨b1, b2⟩
    obtain ⟨c1, c2⟩ := nv_i (rT_nm h) a1 (show 20 * (k / 20) ≤ c by omega) (show c < _ by omega)
    exact ⟨c1, c2, by omega⟩
  · rintro ⟨b1, b2, b3⟩
    obtain ⟨c1, c2, c3, c4⟩ := nv_t (rT_nm h) b1
    rw [b2] at c2 c3
    omega
end
