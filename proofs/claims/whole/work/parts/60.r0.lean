/-! Counting by injections; the relation between the class's ints (X, cells below 204) and the reference's (N, cells from 204 on). -/
theorem fx_c_sh (P : Nat → Bool) : ∀ n i, fx_c P n i = fx_c (fun j => P (i + j)) n 0 := by
  have h : ∀ n i j, fx_c P n (i + j) = fx_c (fun l => P (i + l)) n j := by
    intro n
    induction n with
    | zero => intro i j; rfl
    | succ n ih =>
      intro i j
      simp only [fx_c]
      rw [show i + j + 1 = i + (j + 1) by omega, ih]
  intro n i
  exact h n i 0
theorem fx_c_su (P : Nat → Bool) : ∀ n i, fx_c P (n + 1) i = fx_c P n i + (if P (i + n) = true then 1 else 0) := by
  intro n
  induction n with
  | zero => intro i; simp [fx_c]
  | succ n ih =>
    intro i
    rw [fx_c, ih (i + 1), fx_c, show i + 1 + n = i + (n + 1) by omega]
    omega
theorem fx_c_rm (Q : Nat → Bool) {j : Nat} (hq : Q j = true) : ∀ m, j < m → fx_c Q m 0 = fx_c (fun i => Q i && !decide (i = j)) m 0 + 1 := by
  have same : ∀ m, m ≤ j → fx_c Q m 0 = fx_c (fun i => Q i && !decide (i = j)) m 0 := by
    intro m
    induction m with
    | zero => intro _; rfl
    | succ m ih =>
      intro h
      have hne : ¬ m = j := by omega
      rw [fx_c_su, fx_c_su, ih (by omega)]
      simp [hne]
  intro m
  induction m with
  | zero => intro h; omega
  | succ m ih =>
    intro h
    rw [fx_c_su, fx_c_su]
    by_cases hm : m = j
    · subst hm
      rw [same m (Nat.le_refl _)]
      simp [hq]
    · rw [ih (by omega)]
      simp [hm]
      omega
theorem fx_c_inj (P : Nat → Bool) (f : Nat → Nat) : ∀ n m (Q : Nat → Bool), (∀ i, i < n → P i = true → f i < m ∧ Q (f i) = true) → (∀ i j, i < n → j < n → P i = true → P j = true → f i = f j → i = j) → fx_c P n 0 ≤ fx_c Q m 0 := by
  intro n
  induction n with
  | zero => intro m Q _ _; exact Nat.zero_le _
  | succ n ih =>
    intro m Q h1 h2
    rw [fx_c_su, Nat.zero_add]
    by_cases hp : P n = true
    · obtain ⟨q1, q2⟩ := h1 n (Nat.lt_succ_self n) hp
      rw [fx_c_rm Q q2 m q1, if_pos hp]
      refine Nat.add_le_add_right (ih m _ (fun i hi hpi => ?_) (fun i j hi hj => h2 i j (by omega) (by omega))) 1
      obtain ⟨r1, r2⟩ := h1 i (by omega) hpi
      refine ⟨r1, ?_⟩
      have hne : ¬ f i = f n := fun z => by
        have := h2 i n (by omega) (by omega) hpi hp z
        omega
      simp [r2, hne]
    · rw [if_neg hp]
      exact ih m Q (fun i hi => h1 i (by omega)) (fun i j hi hj => h2 i j (by omega) (by omega))
/-- as many here as there -/
theorem fx_c_eq (P Q : Nat → Bool) (f g : Nat → Nat) (n m : Nat) (h1 : ∀ i, i < n → P i = true → f i < m ∧ Q (f i) = true) (h2 : ∀ i j, i < n → j < n → P i = true → P j = true → f i = f j → i = j) (h3 : ∀ i, i < m → Q i = true → g i < n ∧ P (g i) = true) (h4 : ∀ i j, i < m → j < m → Q i = true → Q j = true → g i = g j → i = j) : fx_c P n 0 = fx_c Q m 0 :=
  Nat.le_antisymm (fx_c_inj P f n m Q h1 h2) (fx_c_inj Q g m n P h3 h4)
/-- the class's tree of the reference's tree -/
def tc (t : Nat) : Nat := if t = 0 then 0 else if t = 1 then 5 else t - 1
theorem tc_lt {t : Nat} (h : t < 6) : tc t < 6 := by
  unfold tc
  split
  · omega
  · split <;> omega
theorem tc_inj {t u : Nat} (h : t < 6) (hu : u < 6) (e : tc t = tc u) : t = u := by
  unfold tc at e
  split at e <;> split at e <;> (try split at e) <;> (try split at e) <;> omega
theorem tc_on {j : Nat} (h : j < 6) : ∃ t, t < 6 ∧ tc t = j := by
  by_cases h0 : j = 0
  · exact ⟨0, by decide, by rw [h0]; rfl⟩
  · by_cases h5 : j = 5
    · exact ⟨1, by decide, by rw [h5]; rfl⟩
    · refine ⟨j + 1, by omega, ?_⟩
      unfold tc
      rw [if_neg (by omega), if_neg (by omega)]
      omega
theorem tc_0 {t : Nat} (h : t < 6) : tc t = 0 ↔ t = 0 := ⟨fun z => tc_inj h (by decide) z, fun z => by rw [z]; rfl⟩
/-- block i is as node k -/
def nE (X N : Nat → Nat → Int32) (i k : Nat) : Prop := (X (bk i) 2 = N 207 k ∧ X (bk i) 3 = (if N 208 k < 0 then 0 else N 208 k)) ∧ X (bk i) 4 = N 209 k ∧ X (bk i) 5 = N 210 k ∧ X (bk i) 6 = N 211 k ∧ X (bk i) 7 = N 212 k ∧ X (bk i) 8 = N 213 k ∧ X (bk i) 9 = N 214 k ∧ ∀ j, j < (N 214 k).toNatClampNeg → X (bk i + 1) j = N 216 (16 * k + j)
def rT2 (X N : Nat → Nat → Int32) (β : Nat → Nat) : Prop := ∀ k, nv N k → β k < 64 ∧ bt (X (bk (β k)) 1) (tc (k / 20)) = true ∧ nE X N (β k) k
def rT3 (X N : Nat → Nat → Int32) (β : Nat → Nat) : Prop := ∀ t i, t < 6 → i < 64 → bt (X (bk i) 1) (tc t) = true → ∃ k, nv N k ∧ k / 20 = t ∧ β k = i
def rT4 (N : Nat → Nat → Int32) : Prop := ∀ k l, nv N k → nv N l → k / 20 = l / 20 → N 207 k = N 207 l → k = l
def rT5 (N : Nat → Nat → Int32) (β : Nat → Nat) : Prop := ∀ k l, nv N k → nv N l → (N 215 k = N 215 l ↔ β k = β l)
def rT6 (N : Nat → Nat → Int32) : Prop := ∀ k, nv N k → (k % 20 = 0 ∧ N 208 k < 0 ∧ N 207 k = 0) ∨ (¬ k % 20 = 0 ∧ ¬ N 208 k < 0 ∧ ¬ N 207 k = 0 ∧ ∃ l, nv N l ∧ l / 20 = k / 20 ∧ l < k ∧ N 207 l = N 208 k)
def rT7 (N : Nat → Nat → Int32) : Prop := (∀ k l, nv N k → nv N l → k / 20 = l / 20 → ¬ k % 20 = 0 → ¬ l % 20 = 0 → N 208 k = N 208 l → N 209 k = N 209 l → k = l) ∧ ∀ k, nv N k → ¬ k % 20 = 0 → ∃ x, 1 ≤ x ∧ x ≤ 99 ∧ N 209 k = nI x
def rT8 (X : Nat → Nat → Int32) : Prop := ∀ i, i < 64 → ∀ j, 6 ≤ j → bt (X (bk i) 1) j = false
def rT9 (X N : Nat → Nat → Int32) (s : Nat) : Prop := X 1 1 = nI s ∧ N 204 14 = nI s ∧ s ≤ 4 ∧ ∀ t, t < 6 → (t < 2 + s → 1 ≤ nm N t) ∧ (2 + s ≤ t → nm N t = 0)
def rT10 (N : Nat → Nat → Int32) (d : Nat) : Prop := N 204 13 = nI d ∧ ∀ k, nv N k → ∃ b, b < d ∧ N 215 k = nI b
def rT11 (X N : Nat → Nat → Int32) (p : Nat) : Prop := N 204 12 = nI p ∧ X 1 2 = nI (p - 1) ∧ 1 ≤ p ∧ ∀ k, nv N k → ∃ q, q < p ∧ N 207 k = nI q
def rT12 (X N : Nat → Nat → Int32) : Prop := ln_ok X ∧ lk_ok N ∧ gn_ok N
def rT13 (N : Nat → Nat → Int32) : Prop := ∀ k, nv N k → ¬ (N 213 k &&& 2048) = 0 → N 214 k = 0
def rT14 (N : Nat → Nat → Int32) : Prop := ∀ k, nv N k → nk_n N k ≤ 8 ∧ nd_n N 20 k ≤ 6
/-- the trees of both sides are the same -/
def rT (X N : Nat → Nat → Int32) (β : Nat → Nat) (s p d : Nat) : Prop := nm_ok N ∧ rT2 X N β ∧ rT3 X N β ∧ rT4 N ∧ rT5 N β ∧ rT6 N ∧ rT7 N ∧ rT8 X ∧ rT9 X N s ∧ rT10 N d ∧ rT11 X N p ∧ rT12 X N ∧ rT13 N ∧ rT14 N
def rM (X N : Nat → Nat → Int32) : Prop := ∀ u, u < 4 → ∀ g, g < 4 → (N 205 (4 * u + g) = 0 ∨ N 205 (4 * u + g) = 1) ∧ (¬ N 205 (4 * u + g) = 0 ↔ u = g ∨ bt (X 131 0) (4 * u + g) = true)
def rS (X N : Nat → Nat → Int32) : Prop := ∃ k, k ≤ 4 ∧ X 199 1 = nI k ∧ N 204 24 = nI k ∧ ∀ j, j < k → X 200 j = N 226 j
def rP (X N : Nat → Nat → Int32) : Prop := ∃ k, k ≤ 8 ∧ X 201 1 = nI k ∧ N 204 26 = nI k ∧ ∀ j, j < k → X 202 j = N 227 j
def rQ1 (X N : Nat → Nat → Int32) (c t : Nat) : Prop := ∃ kd fd k, kd < 10 ∧ fd < 6 ∧ k ≤ 4 ∧ X (cn_q c t) 2 = nI kd ∧ X (cn_q c t) 3 = nI fd ∧ X (cn_q c t + 1) 1 = nI k ∧ N 222 (8 * c + t) = nI kd ∧ N 223 (8 * c + t) = nI (6 * c + fd) ∧ N 224 (8 * c + t) = nI k ∧ ∀ j, j < k → X (cn_q c t + 2) j = N 225 (4 * (8 * c + t) + j)
def rQ (X N : Nat → Nat → Int32) : Prop := ∀ c, c < 2 → ∀ t, t < 8 → (X (cn_q c t) 1 = 0 ∧ N 222 (8 * c + t) < 0) ∨ (¬ X (cn_q c t) 1 = 0 ∧ rQ1 X N c t)
/-- a fid in use: its user u, its tree t of the class, its path q -/
def rF1 (X N : Nat → Nat → Int32) (F g t s p : Nat) : Prop := t ≤ s ∧ (∃ u, u < 4 ∧ X F 2 = nI u ∧ N 217 g = nI u) ∧ (∃ q, q < p ∧ X F 4 = nI q ∧ N 219 g = nI q) ∧ ((X F 1 = 0 ∧ N 220 g < 0) ∨ (¬ X F 1 = 0 ∧ ¬ N 220 g < 0 ∧ X F 5 = N 220 g ∧ X F 6 = N 221 g ∧ (¬ (N 220 g &&& 3) = 0 → t = 0 ∧ ∀ k, nv N k → k / 20 = 0 → N 207 k = N 219 g → (N 213 k &&& 2048) = 0)))
def rF (X N : Nat → Nat → Int32) (s p : Nat) : Prop := ∀ c, c < 2 → ∀ f, f < 6 → ∃ t, t ≤ 4 ∧ X (cn_f c f) 3 = nI t ∧ N 218 (6 * c + f) = nI (if t = 0 then 0 else t + 1) ∧ ((X (cn_f c f) 0 = 0 ∧ X (cn_f c f) 1 = 0 ∧ N 217 (6 * c + f) < 0) ∨ (¬ X (cn_f c f) 0 = 0 ∧ ¬ N 217 (6 * c + f) < 0 ∧ rF1 X N (cn_f c f) (6 * c + f) t s p))
def rR (X N : Nat → Nat → Int32) (β : Nat → Nat) (s p d : Nat) : Prop := rM X N ∧ rS X N ∧ rP X N ∧ rQ X N ∧ rF X N s p ∧ rT X N β s p d
/-- the invariant of the law's loop -/
def rI (n : Nat) (C : Nat → Nat → Int32) : Prop := ∃ β s p d, rR C C β s p d ∧ p ≤ 1 + n ∧ d ≤ 1 + 22 * n
