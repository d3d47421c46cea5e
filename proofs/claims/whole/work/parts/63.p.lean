/-! A node gets a block of its own, on both sides. -/
theorem nk_c {C D : Nat → Nat → Int32} (h6 : D 206 = C 206) (h7 : D 207 = C 207) (h8 : D 208 = C 208) (k : Nat) : nk_n D k = nk_n C k := by
  simp only [nk_n, nm, h6, h7, h8]
theorem nd_c {C D : Nat → Nat → Int32} (h6 : D 206 = C 206) (h7 : D 207 = C 207) (h8 : D 208 = C 208) : ∀ n k, nd_n D n k = nd_n C n k := by
  intro n
  induction n with
  | zero => intro k; rfl
  | succ n ih =>
    intro k
    simp only [nd_n, h8, np_c h6 h7 h8, ih]
theorem rT6_c {C D : Nat → Nat → Int32} (h6 : D 206 = C 206) (h7 : D 207 = C 207) (h8 : D 208 = C 208) (h : rT6 C) : rT6 D := by
  unfold rT6 at h ⊢
  simpa only [nv, nm, h6, h7, h8] using h
theorem rT4_c {C D : Nat → Nat → Int32} (h6 : D 206 = C 206) (h7 : D 207 = C 207) (h : rT4 C) : rT4 D := by
  unfold rT4 at h ⊢
  simpa only [nv, nm, h6, h7] using h
theorem rT7_c {C D : Nat → Nat → Int32} (h6 : D 206 = C 206) (h8 : D 208 = C 208) (h9 : D 209 = C 209) (h : rT7 C) : rT7 D := by
  unfold rT7 at h ⊢
  simpa only [nv, nm, h6, h8, h9] using h
theorem rT14_c {C D : Nat → Nat → Int32} (h6 : D 206 = C 206) (h7 : D 207 = C 207) (h8 : D 208 = C 208) (h : rT14 C) : rT14 D := by
  intro k hk
  rw [nk_c h6 h7 h8, nd_c h6 h7 h8]
  exact h k ((nv_c h6 k).mp hk)
theorem ob_m1 (X : Nat → Nat → Int32) {i o : Nat} (hio : i ≠ o) (j : Nat) : ob_m X i o (bk j) 1 = if j = i then X (bk i) 1 &&& (((1 : Int32) <<< (nI 0 &&& 31)) ^^^ (-1)) else if j = o then X (bk o) 1 ||| ((1 : Int32) <<< (nI 0 &&& 31)) else X (bk j) 1 := by
  have e : ∀ a (b : Nat), bl_cp X (bk o) (bk i) 16 (bk a) 1 = X (bk a) 1 := by
    intro a b
    unfold bl_cp
    rw [if_neg (by unfold bk; omega), if_neg (by unfold bk; omega)]
  unfold ob_m bl_lv bl_ent
  rw [cs_app]
  by_cases h1 : j = i
  · rw [if_pos (by unfold bk; omega), if_pos h1, cs_app, if_neg (by unfold bk; omega), e _ 0]
  · rw [if_neg (by unfold bk; omega), if_neg h1, cs_app]
    by_cases h2 : j = o
    · rw [if_pos (by unfold bk; omega), if_pos h2, e _ 0]
    · rw [if_neg (by unfold bk; omega), if_neg h2, e _ 0]
theorem ob_m2 (X : Nat → Nat → Int32) (i o j : Nat) {f : Nat} (h1 : 2 ≤ f) (h2 : f ≤ 9) : ob_m X i o (bk j) f = if j = o then X (bk i) f else X (bk j) f := by
  unfold ob_m bl_lv bl_ent
  rw [cs_app, if_neg (by unfold bk; omega), cs_app, if_neg (by unfold bk; omega)]
  unfold bl_cp
  by_cases h : j = o
  · rw [if_pos (by unfold bk; omega), if_pos h]
  · rw [if_neg (by unfold bk; omega), if_neg h, if_neg (by unfold bk; omega)]
theorem ob_m3 (X : Nat → Nat → Int32) (i o j : Nat) {f : Nat} (h2 : f < 16) : ob_m X i o (bk j + 1) f = if j = o then X (bk i + 1) f else X (bk j + 1) f := by
  unfold ob_m bl_lv bl_ent
  rw [cs_app, if_neg (by unfold bk; omega), cs_app, if_neg (by unfold bk; omega)]
  unfold bl_cp
  by_cases h : j = o
  · rw [if_neg (by unfold bk; omega), if_pos h, if_pos (by unfold bk; omega)]
  · rw [if_neg (by unfold bk; omega), if_neg h, if_neg (by unfold bk; omega)]
/-- one bit more, one bit less -/
theorem bt_set (x : Int32) {t j : Nat} (ht : t < 6) : bt (x ||| ((1 : Int32) <<< (nI t &&& 31))) j = true ↔ bt x j = true ∨ j = t := by
  rcases Nat.lt_or_ge j 32 with h | h
  · rw [tb_or (by omega) h, Bool.or_eq_true, decide_eq_true_eq]
  · rw [b_big h, b_big h]
    constructor
    · intro z; cases z
    · rintro (z | z)
      · exact z
      · omega
theorem bt_clr (x : Int32) {t j : Nat} (ht : t < 6) : bt (x &&& (((1 : Int32) <<< (nI t &&& 31)) ^^^ (-1))) j = true ↔ bt x j = true ∧ j ≠ t := by
  rcases Nat.lt_or_ge j 32 with h | h
  · rw [tb_clr (by omega) h, Bool.and_eq_true, Bool.not_eq_true', decide_eq_false_iff_not]
  · rw [b_big h, b_big h]
    constructor
    · intro z; cases z
    · rintro ⟨z, _⟩
      exact z
theorem nE_len {X N : Nat → Nat → Int32} (hl : lk_ok N) {k : Nat} (hk : k < 120) : (N 214 k).toNatClampNeg ≤ 16 := (hl k hk).1
section
variable {X N : Nat → Nat → Int32} {β : Nat → Nat} {s p d : Nat}
theorem rT_own (h : rT X N β s p d) (hd : d < 2 ^ 30) {k : Nat} (hk : nv N k) (h0 : k / 20 = 0) (hot : no_P N s (N 215 k)) {o : Nat} (ho : so_fr X = some o) : rT (ob_m X (β k) o) (nx_1 N s k) (fun j => if j = k then o else β j) s p (d + 1) := by
  obtain ⟨o1, o2⟩ := so_fr_ok ho
  obtain ⟨k1, k2, k3⟩ := rT_2 h k hk
  have hfree : ∀ l, nv N l → ¬ β l = o := fun l hl e => (l_mask h o1).mpr ⟨l, hl, e⟩ o2
  have hio : β k ≠ o := hfree k hk
  have e13 := (rT_10 h).1
  have hN : nx_1 N s k = cs_C (cs_C N 215 k (nI d)) 204 13 (nI (d + 1)) := by
    unfold nx_1
    rw [it_t hot, e13, nI_1]
  have hNo : ∀ a, a ≠ 215 → a ≠ 204 → nx_1 N s k a = N a := (nx_1c N s k).1
  have hN4 : ∀ l, l ≠ 13 → nx_1 N s k 204 l = N 204 l := (nx_1c N s k).2
  have h15 : ∀ l, nx_1 N s k 215 l = if l = k then nI d else N 215 l := by
    intro l
    rw [hN, cs_ne _ _ (by omega), cs_app]
    by_cases e : l = k
    · rw [if_pos (by omega), if_pos e]
    · rw [if_neg (by omega), if_neg e]
  have e6 := hNo 206 (by decide) (by decide)
  have e7 := hNo 207 (by decide) (by decide)
  have e8 := hNo 208 (by decide) (by decide)
  have e9 := hNo 209 (by decide) (by decide)
  have e10 := hNo 210 (by decide) (by decide)
  have e11 := hNo 211 (by decide) (by decide)
  have e12 := hNo 212 (by decide) (by decide)
  have e13' := hNo 213 (by decide) (by decide)
  have e14 := hNo 214 (by decide) (by decide)
  have e16 := hNo 216 (by decide) (by decide)
  have nv' : ∀ l, nv (nx_1 N s k) l ↔ nv N l := nv_c e6
  have m1 := fun j => ob_m1 X hio j
  have nEe : ∀ (l a b : Nat), l < 120 → nE X N a l → (∀ f, 2 ≤ f → f ≤ 9 → ob_m X (β k) o (bk b) f = X (bk a) f) → (∀ f, f < 16 → ob_m X (β k) o (bk b + 1) f = X (bk a + 1) f) → nE (ob_m X (β k) o) (nx_1 N s k) b l := by
    intro l a b hl he hf hb
    unfold nE at he ⊢
    rw [e7, e8, e9, e10, e11, e12, e13', e14, e16, hf 2 (by decide) (by decide), hf 3 (by decide) (by decide), hf 4 (by decide) (by decide), hf 5 (by decide) (by decide), hf 6 (by decide) (by decide), hf 7 (by decide) (by decide), hf 8 (by decide) (by decide), hf 9 (by decide) (by decide)]
    refine ⟨he.1, he.2.1, he.2.2.1, he.2.2.2.1, he.2.2.2.2.1, he.2.2.2.2.2.1, he.2.2.2.2.2.2.1, fun j hj => ?_⟩
    have := nE_len (X := X) (rT_12 h).2.1 hl
    rw [hb j (by omega)]
    exact he.2.2.2.2.2.2.2 j hj
  refine rT_mk (nm_c e6 (rT_nm h)) ?_ ?_ (rT4_c e6 e7 (rT_4 h)) ?_ (rT6_c e6 e7 e8 (rT_6 h)) (rT7_c e6 e8 e9 (rT_7 h)) ?_ ?_ ?_ ?_ ?_ ?_ (rT14_c e6 e7 e8 (rT_14 h))
  · intro l hl
    rw [nv'] at hl
    obtain ⟨l1, l2, l3⟩ := rT_2 h l hl
    by_cases e : l = k
    · subst e
      simp only [if_true]
      refine ⟨o1, ?_, nEe l (β l) o hl.1 l3 (fun f a b => ?_) (fun f a => ?_)⟩
      · rw [m1, if_neg (Ne.symm hio), if_pos rfl, bt_set _ (by decide), h0]
        exact Or.inr rfl
      · rw [ob_m2 _ _ _ _ a b, if_pos rfl]
      · rw [ob_m3 _ _ _ _ a, if_pos rfl]
    · simp only [if_neg e]
      have f1 := hfree l hl
      refine ⟨l1, ?_, nEe l (β l) (β l) hl.1 l3 (fun f a b => ?_) (fun f a => ?_)⟩
      · rw [m1]
        by_cases e2 : β l = β k
        · rw [if_pos e2, bt_clr _ (by decide)]
          rw [e2] at l2
          refine ⟨l2, fun z => e (l_inj h hl hk ?_ e2)⟩
          rw [h0]
          exact (tc_0 (nv_t (rT_nm h) hl).1).mp z
        · rw [if_neg e2, if_neg f1]
          exact l2
      · rw [ob_m2 _ _ _ _ a b, if_neg f1]
      · rw [ob_m3 _ _ _ _ a, if_neg f1]
  · intro t i ht hi hb
    rw [m1] at hb
    by_cases e2 : i = β k
    · rw [if_pos e2, bt_clr _ (by decide), ← e2] at hb
      obtain ⟨l, l1, l2, l3⟩ := rT_3 h t i ht hi hb.1
      refine ⟨l, (nv' l).mpr l1, l2, ?_⟩
      have : l ≠ k := fun z => hb.2 (by rw [← l2, z, h0]; rfl)
      simp only [if_neg this]
      exact l3
    · rw [if_neg e2] at hb
      by_cases e3 : i = o
      · rw [if_pos e3, bt_set _ (by decide), o2, b_0] at hb
        rcases hb with hb | hb
        · cases hb
        · refine ⟨k, (nv' k).mpr hk, ?_, ?_⟩
          · rw [h0]
            exact ((tc_0 ht).mp hb).symm
          · simp [e3]
      · rw [if_neg e3] at hb
        obtain ⟨l, l1, l2, l3⟩ := rT_3 h t i ht hi hb
        refine ⟨l, (nv' l).mpr l1, l2, ?_⟩
        have : l ≠ k := fun z => e2 (by rw [← l3, z])
        simp only [if_neg this]
        exact l3
  · intro l m hl hm
    rw [nv'] at hl hm
    rw [h15, h15]
    have hb : ∀ l, nv N l → ¬ N 215 l = nI d := by
      intro l hl e
      obtain ⟨b, b1, b2⟩ := (rT_10 h).2 l hl
      rw [b2, nI_eq (by omega) (by omega)] at e
      omega
    by_cases e : l = k
    · by_cases f : m = k
      · simp [e, f]
      · simp only [if_pos e, if_neg f]
        exact ⟨fun z => absurd z.symm (hb m hm), fun z => absurd z.symm (hfree m hm)⟩
    · by_cases f : m = k
      · simp only [if_neg e, if_pos f]
        exact ⟨fun z => absurd z (hb l hl), fun z => absurd z (hfree l hl)⟩
      · simp only [if_neg e, if_neg f]
        exact rT_5 h l m hl hm
  · intro i hi j hj
    rw [← Bool.not_eq_true, m1]
    have g8 : ∀ i, i < 64 → ¬ bt (X (bk i) 1) j = true := fun i hi => by rw [rT_8 h i hi j hj]; decide
    split
    · rw [bt_clr _ (by decide)]
      exact fun z => g8 _ k1 z.1
    · split
      · rw [bt_set _ (by decide)]
        rintro (z | z)
        · exact g8 _ o1 z
        · omega
      · exact g8 _ hi
  · obtain ⟨a1, a2, a3, a4⟩ := rT_9 h
    refine ⟨?_, ?_, a3, ?_⟩
    · rw [ob_m_out k1 o1 (Or.inl (by decide))]; exact a1
    · rw [hN4 14 (by decide)]; exact a2
    · simpa only [nm, e6] using a4
  · refine ⟨?_, fun l hl => ?_⟩
    · rw [hN, cs_at]
    · rw [nv'] at hl
      rw [h15]
      by_cases e : l = k
      · exact ⟨d, by omega, by rw [if_pos e]⟩
      · obtain ⟨b, b1, b2⟩ := (rT_10 h).2 l hl
        exact ⟨b, by omega, by rw [if_neg e, b2]⟩
  · obtain ⟨a1, a2, a3, a4⟩ := rT_11 h
    refine ⟨?_, ?_, a3, ?_⟩
    · rw [hN4 12 (by decide)]; exact a1
    · rw [ob_m_out k1 o1 (Or.inl (by decide))]; exact a2
    · intro l hl
      rw [nv'] at hl
      rw [e7]
      exact a4 l hl
  · obtain ⟨a1, a2, a3⟩ := rT_12 h
    refine ⟨?_, ?_, ?_⟩
    · intro i hi
      rw [ob_m2 _ _ _ _ (by decide) (by decide)]
      split
      · exact a1 _ k1
      · exact a1 i hi
    · unfold lk_ok at a2 ⊢; rw [e14]; exact a2
    · unfold gn_ok at a3 ⊢; rw [e11]; exact a3
  · have a := rT_13 h
    unfold rT13 at a ⊢
    intro l hl
    rw [nv'] at hl
    rw [e13', e14]
    exact a l hl
end
