/-! A tree is copied; a node goes. -/
section
variable {X N X' N' : Nat → Nat → Int32} {β : Nat → Nat} {s s' p d : Nat}
theorem ct_nm (N : Nat → Nat → Int32) (f t u : Nat) : nm (ct_C N f t) u = if u = t then nm N f else nm N u := by
  unfold nm
  rw [ct_C6, cs_app]
  by_cases e : u = t
  · rw [if_pos ⟨rfl, e⟩, if_pos e]
  · rw [if_neg (fun z => e z.2), if_neg e]
theorem ct_a (N : Nat → Nat → Int32) (f t : Nat) {a j : Nat} (h1 : 207 ≤ a) (h2 : a ≤ 215) : ct_C N f t a j = if 20 * t ≤ j ∧ j < 20 * t + nm N f then N a (j - 20 * t + 20 * f) else N a j := by
  have e : ∀ j, cs_C N 206 t (N 206 f) a j = N a j := fun j => cs_ne _ _ (by omega)
  unfold ct_C ct_n
  by_cases q : 20 * t ≤ j ∧ j < 20 * t + nm N f
  · rw [if_pos ⟨h1, h2, q⟩, if_pos q, e]
  · rw [if_neg (fun z => q ⟨z.2.2.1, z.2.2.2⟩), if_neg (by omega), if_neg q, e]
theorem ct_b (N : Nat → Nat → Int32) (f t : Nat) (j : Nat) : ct_C N f t 216 j = if 320 * t ≤ j ∧ j < 320 * t + 16 * nm N f then N 216 (j - 320 * t + 320 * f) else N 216 j := by
  have e : ∀ j, cs_C N 206 t (N 206 f) 216 j = N 216 j := fun j => cs_ne _ _ (by omega)
  unfold ct_C ct_n
  by_cases q : 320 * t ≤ j ∧ j < 320 * t + 16 * nm N f
  · rw [if_neg (by omega), if_pos ⟨rfl, q⟩, if_pos q, e]
  · rw [if_neg (by omega), if_neg (fun z => q z.2), if_neg q, e]
theorem so_ct1 (X : Nat → Nat → Int32) {f t i : Nat} (hi : i < 64) : so_ct X f t 64 (bk i) 1 = if bt (X (bk i) 1) f = true then X (bk i) 1 ||| ((1 : Int32) <<< (nI t &&& 31)) else X (bk i) 1 &&& (((1 : Int32) <<< (nI t &&& 31)) ^^^ (-1)) := by
  unfold so_ct
  rw [if_pos (by unfold bk; omega)]
theorem so_ct2 (X : Nat → Nat → Int32) {f t a j : Nat} (h : j ≠ 1 ∨ a < 3 ∨ 131 ≤ a ∨ ¬ a % 2 = 1) : so_ct X f t 64 a j = X a j := by
  unfold so_ct
  rw [if_neg (by omega)]
theorem so_ctb (X : Nat → Nat → Int32) {f t i j : Nat} (hi : i < 64) (ht : t < 6) : bt (so_ct X f t 64 (bk i) 1) j = true ↔ if j = t then bt (X (bk i) 1) f = true else bt (X (bk i) 1) j = true := by
  rw [so_ct1 X hi]
  by_cases q : bt (X (bk i) 1) f = true
  · rw [if_pos q, bt_set _ ht]
    by_cases e : j = t
    · simp [e, q]
    · simp [e]
  · rw [if_neg q, bt_clr _ ht]
    by_cases e : j = t
    · simp [e, q]
    · simp [e]
theorem rT_copy (h : rT X N β s p d) {f t : Nat} (hf : f < 6) (ht : t < 6) (hne : f ≠ t)
    (hX : ∀ a j, a < 131 → ¬ (a = 1 ∧ j = 1) → X' a j = so_ct X (tc f) (tc t) 64 a j) (hN : ∀ a j, 206 ≤ a → a ≤ 216 → N' a j = ct_C N f t a j)
    (h12 : N' 204 12 = N 204 12) (h13 : N' 204 13 = N 204 13) (h9 : rT9 X' N' s') : rT X' N' (fun j => β (if j / 20 = t then j - 20 * t + 20 * f else j)) s' p d := by
  have hm := rT_nm h
  have mf := (hm f hf).1
  have mm : ∀ u, nm N' u = if u = t then nm N f else nm N u := by
    intro u
    rw [← ct_nm]
    unfold nm
    rw [hN 206 u (by decide) (by decide)]
  have m1 : nm_ok N' := by
    have := ct_C_nm hm hf ht
    intro u hu
    have a := this u hu
    unfold nm at a ⊢
    rw [hN 206 u (by decide) (by decide)]
    exact a
  have v1 : ∀ j, nv N' j → j / 20 = t → nv N (j - 20 * t + 20 * f) ∧ (j - 20 * t + 20 * f) / 20 = f ∧ 20 * t ≤ j ∧ j < 20 * t + nm N f := by
    rintro j ⟨a, b⟩ e
    rw [mm, if_pos e] at b
    have := (nv_i hm hf (k := j - 20 * t + 20 * f) (by omega) (by omega))
    exact ⟨this.1, this.2, by omega, by omega⟩
  have v2 : ∀ j, nv N' j → ¬ j / 20 = t → nv N j := by
    rintro j ⟨a, b⟩ e
    rw [mm, if_neg e] at b
    exact ⟨a, b⟩
  have w1 : ∀ k, nv N k → k / 20 = f → nv N' (k - 20 * f + 20 * t) ∧ (k - 20 * f + 20 * t) / 20 = t := by
    intro k hk e
    obtain ⟨a1, a2, a3, a4⟩ := nv_t hm hk
    rw [e] at a2 a3
    exact nv_i m1 ht (by omega) (by rw [mm, if_pos rfl]; omega)
  have w2 : ∀ k, nv N k → ¬ k / 20 = t → nv N' k := by
    rintro k ⟨a, b⟩ e
    exact ⟨a, by rw [mm, if_neg e]; exact b⟩
  have bits : ∀ i u, i < 64 → u < 6 → (bt (X' (bk i) 1) (tc u) = true ↔ if u = t then bt (X (bk i) 1) (tc f) = true else bt (X (bk i) 1) (tc u) = true) := by
    intro i u hi hu
    rw [hX _ _ (by unfold bk; omega) (by unfold bk; omega), so_ctb _ hi (tc_lt ht)]
    by_cases e : u = t
    · simp [e]
    · rw [if_neg e, if_neg (fun z => e (tc_inj hu ht z))]
  refine rT_map h (fun j => if j / 20 = t then j - 20 * t + 20 * f else j) (fun u => if u = t then f else u) m1 ?_ ?_ ?_ ?_ ?_ ?_ h12 h13 ?_ ?_ ?_ ?_ ?_ ?_ h9 ?_ ?_
  · intro j hj
    by_cases e : j / 20 = t
    · obtain ⟨a, b, c⟩ := v1 j hj e
      simp only [if_pos e]
      exact ⟨a, b, by omega⟩
    · simp [e, v2 j hj e]
  · intro j l hj hl e0 e1
    by_cases e : j / 20 = t
    · have e' : l / 20 = t := by omega
      simp only [if_pos e, if_pos e'] at e1
      omega
    · have e' : ¬ l / 20 = t := by omega
      simp only [if_neg e, if_neg e'] at e1
      exact e1
  · intro j l hj hl e0 e1
    by_cases e : j / 20 = t
    · have e' : l / 20 = t := by omega
      simp only [if_pos e, if_pos e'] at e1
      omega
    · have e' : ¬ l / 20 = t := by omega
      simp only [if_neg e, if_neg e'] at e1
      exact e1
  · intro j hj e0
    by_cases e : j / 20 = t
    · obtain ⟨a, b, c⟩ := v1 j hj e
      obtain ⟨c1, c2, c3, c4, c5, c6, c7⟩ := l_par h a (by omega)
      obtain ⟨g1, g2⟩ := w1 _ c2 (by rw [c3, b])
      refine ⟨_, g1, by omega, ?_⟩
      simp only [if_pos g2, if_pos e]
      omega
    · obtain ⟨c1, c2, c3, c4, c5, c6, c7⟩ := l_par h (v2 j hj e) e0
      refine ⟨np N j, w2 _ c2 (by omega), c3, ?_⟩
      simp only [if_neg e, if_neg (show ¬ np N j / 20 = t by omega)]
  · intro a j h1 h2 hj
    rw [hN a j (by omega) (by omega), ct_a _ _ _ h1 h2]
    by_cases e : j / 20 = t
    · obtain ⟨_, _, c⟩ := v1 j hj e
      simp only [if_pos e]
      rw [if_pos c]
    · simp only [if_neg e]
      rw [if_neg (by omega)]
  · intro j b hj hb
    rw [hN 216 _ (by decide) (by decide), ct_b]
    by_cases e : j / 20 = t
    · obtain ⟨_, _, c⟩ := v1 j hj e
      simp only [if_pos e]
      rw [if_pos (by omega)]
      congr 1
      omega
    · simp only [if_neg e]
      rw [if_neg (by omega)]
  · intro i g hi hg
    rw [hX _ _ (by unfold bk; omega) (by unfold bk; omega), so_ct2 _ (by omega)]
  · intro i g hi
    rw [hX _ _ (by unfold bk; omega) (by unfold bk; omega), so_ct2 _ (by unfold bk; omega)]
  · rw [hX 1 2 (by decide) (by decide), so_ct2 _ (by decide)]
  · intro j hj
    by_cases e : j / 20 = t
    · obtain ⟨a, b, c⟩ := v1 j hj e
      simp only [if_pos e]
      rw [bits _ _ (rT_2 h _ a).1 (by omega), if_pos e]
      have := (rT_2 h _ a).2.1
      rw [b] at this
      exact this
    · simp only [if_neg e]
      have a := v2 j hj e
      rw [bits _ _ (rT_2 h _ a).1 (nv_t hm a).1, if_neg e]
      exact (rT_2 h _ a).2.1
  · intro u i hu hi hb
    rw [bits i u hi hu] at hb
    by_cases e : u = t
    · rw [if_pos e] at hb
      obtain ⟨k, k1, k2, k3⟩ := rT_3 h f i hf hi hb
      obtain ⟨g1, g2⟩ := w1 k k1 k2
      refine ⟨_, g1, by rw [g2, e], ?_⟩
      simp only [if_pos g2]
      rw [← k3]
      congr 1
      omega
    · rw [if_neg e] at hb
      obtain ⟨k, k1, k2, k3⟩ := rT_3 h u i hu hi hb
      refine ⟨k, w2 k k1 (by omega), k2, ?_⟩
      simp only [if_neg (show ¬ k / 20 = t by omega)]
      exact k3
  · intro i hi j hj
    rw [← Bool.not_eq_true, hX _ _ (by unfold bk; omega) (by unfold bk; omega), so_ctb _ hi (tc_lt ht)]
    have := tc_lt ht
    rw [if_neg (by omega), rT_8 h i hi j hj]
    decide
  · intro k hk
    have a := (rT_12 h).2.1
    rw [hN 214 k (by decide) (by decide), ct_a _ _ _ (by decide) (by decide)]
    split
    · exact a _ (by omega)
    · exact a k hk
  · intro k hk
    have a := (rT_12 h).2.2
    rw [hN 211 k (by decide) (by decide), ct_a _ _ _ (by decide) (by decide)]
    split
    · exact a _ (by omega)
    · exact a k hk
theorem bl_lv1 (X : Nat → Nat → Int32) (i j : Nat) : bl_lv X (bk i) 0 (bk j) 1 = if j = i then X (bk i) 1 &&& (((1 : Int32) <<< (nI 0 &&& 31)) ^^^ (-1)) else X (bk j) 1 := by
  unfold bl_lv
  rw [cs_app]
  by_cases e : j = i
  · rw [if_pos (by unfold bk; omega), if_pos e]
  · rw [if_neg (by unfold bk; omega), if_neg e]
theorem nk_0 (h : rT X N β s p d) {k : Nat} (hk : nv N k) (h0 : nk_n N k = 0) : ∀ l, nv N l → l / 20 = k / 20 → ¬ l % 20 = 0 → ¬ np N l = k := by
  intro l hl e1 e2 e3
  obtain ⟨g1, g2⟩ := (l_nh h hk).mpr ⟨hl, e1, e2⟩
  obtain ⟨c1, c2, c3, c4, c5, c6, c7⟩ := l_par h hl e2
  unfold nk_n at h0
  rw [fx_c_sh] at h0
  have := fx_c_rm (fun j => decide (N 208 (20 * (k / 20) + 1 + j) = N 207 k)) (j := l - (20 * (k / 20) + 1)) (by rw [show 20 * (k / 20) + 1 + (l - (20 * (k / 20) + 1)) = l by omega, ← c5, e3]; simp) (nm N (k / 20) - 1) (by omega)
  omega
theorem rT_rm (h : rT X N β s p d) {k : Nat} (hk : nv N k) (h0 : k / 20 = 0) (hr : ¬ k % 20 = 0) (hk0 : nk_n N k = 0) : rT (bl_lv X (bk (β k)) 0) (sh_n (cs_C N 206 0 (nI (nm N 0 - 1))) k (nm N 0 - 1 - k)) (fun j => β (if j / 20 = 0 ∧ k ≤ j then j + 1 else j)) s p d := by
  have hm := rT_nm h
  obtain ⟨k1, k20⟩ := l_lt0 h hk h0
  have m20 := (hm 0 (by decide)).1
  have e206 : ∀ u, sh_n (cs_C N 206 0 (nI (nm N 0 - 1))) k (nm N 0 - 1 - k) 206 u = if u = 0 then nI (nm N 0 - 1) else N 206 u := by
    intro u
    rw [sh_n6, cs_app]
    by_cases e : u = 0
    · rw [if_pos ⟨rfl, e⟩, if_pos e]
    · rw [if_neg (fun z => e z.2), if_neg e]
  have mm : ∀ u, nm (sh_n (cs_C N 206 0 (nI (nm N 0 - 1))) k (nm N 0 - 1 - k)) u = if u = 0 then nm N 0 - 1 else nm N u := by
    intro u
    have := e206 u
    unfold nm at this ⊢
    rw [this]
    by_cases e : u = 0
    · rw [if_pos e, if_pos e]
      exact nI_clamp (by have : (N 206 0).toNatClampNeg ≤ 20 := m20; omega)
    · rw [if_neg e, if_neg e]
  have e204 : ∀ j, sh_n (cs_C N 206 0 (nI (nm N 0 - 1))) k (nm N 0 - 1 - k) 204 j = N 204 j := by
    intro j
    unfold sh_n
    rw [if_neg (by omega), if_neg (by omega), cs_ne _ _ (by omega)]
  have ea : ∀ a j, 207 ≤ a → a ≤ 215 → sh_n (cs_C N 206 0 (nI (nm N 0 - 1))) k (nm N 0 - 1 - k) a j = if k ≤ j ∧ j < k + (nm N 0 - 1 - k) then N a (j + 1) else N a j := by
    intro a j h1 h2
    unfold sh_n
    by_cases q : k ≤ j ∧ j < k + (nm N 0 - 1 - k)
    · rw [if_pos ⟨h1, h2, q⟩, if_pos q, cs_ne _ _ (by omega)]
    · rw [if_neg (fun z => q z.2.2), if_neg (by omega), if_neg q, cs_ne _ _ (by omega)]
  have eb : ∀ j, sh_n (cs_C N 206 0 (nI (nm N 0 - 1))) k (nm N 0 - 1 - k) 216 j = if 16 * k ≤ j ∧ j < 16 * k + 16 * (nm N 0 - 1 - k) then N 216 (j + 16) else N 216 j := by
    intro j
    unfold sh_n
    by_cases q : 16 * k ≤ j ∧ j < 16 * k + 16 * (nm N 0 - 1 - k)
    · rw [if_neg (by omega), if_pos ⟨rfl, q⟩, if_pos q, cs_ne _ _ (by omega)]
    · rw [if_neg (by omega), if_neg (fun z => q z.2), if_neg q, cs_ne _ _ (by omega)]
  generalize hN' : sh_n (cs_C N 206 0 (nI (nm N 0 - 1))) k (nm N 0 - 1 - k) = N' at e206 mm e204 ea eb ⊢
  have m1 : nm_ok N' := by
    intro u hu
    rw [mm u, e206 u]
    by_cases e : u = 0
    · simp only [if_pos e]
      exact ⟨by omega, trivial⟩
    · simp only [if_neg e]
      exact hm u hu
  have v1 : ∀ j, nv N' j → (j / 20 = 0 ∧ k ≤ j) → nv N (j + 1) ∧ (j + 1) / 20 = 0 ∧ j + 1 < nm N 0 := by
    rintro j ⟨a, b⟩ e
    rw [mm, if_pos e.1] at b
    have := nv_i hm (t := 0) (k := j + 1) (by decide) (by omega) (by omega)
    exact ⟨this.1, this.2, by omega⟩
  have v2 : ∀ j, nv N' j → ¬ (j / 20 = 0 ∧ k ≤ j) → nv N j := by
    rintro j ⟨a, b⟩ e
    refine ⟨a, ?_⟩
    rw [mm] at b
    by_cases q : j / 20 = 0
    · rw [if_pos q] at b
      rw [q]
      omega
    · rw [if_neg q] at b
      exact b
  have back : ∀ l, nv N l → l ≠ k → ∃ j, nv N' j ∧ j / 20 = l / 20 ∧ (if j / 20 = 0 ∧ k ≤ j then j + 1 else j) = l := by
    intro l hl hne
    by_cases q : l / 20 = 0
    · obtain ⟨l1, l2⟩ := l_lt0 h hl q
      by_cases g : k < l
      · refine ⟨l - 1, ⟨by omega, ?_⟩, by omega, ?_⟩
        · rw [show (l - 1) / 20 = 0 by omega, mm, if_pos rfl]; omega
        · rw [if_pos ⟨by omega, by omega⟩]; omega
      · refine ⟨l, ⟨by omega, ?_⟩, rfl, ?_⟩
        · rw [q, mm, if_pos rfl]; omega
        · rw [if_neg (by omega)]
    · refine ⟨l, ⟨hl.1, ?_⟩, rfl, ?_⟩
      · rw [mm, if_neg q]; exact hl.2
      · rw [if_neg (fun z => q z.1)]
  have vv : ∀ j, nv N' j → nv N (if j / 20 = 0 ∧ k ≤ j then j + 1 else j) ∧ (if j / 20 = 0 ∧ k ≤ j then j + 1 else j) / 20 = j / 20 ∧ (if j / 20 = 0 ∧ k ≤ j then j + 1 else j) ≠ k ∧ ((if j / 20 = 0 ∧ k ≤ j then j + 1 else j) % 20 = 0 ↔ j % 20 = 0) := by
    intro j hj
    by_cases e : j / 20 = 0 ∧ k ≤ j
    · obtain ⟨a, b, c⟩ := v1 j hj e
      rw [if_pos e]
      exact ⟨a, by omega, by omega, by omega⟩
    · rw [if_neg e]
      exact ⟨v2 j hj e, rfl, by omega, Iff.rfl⟩
  have bits : ∀ i u, i < 64 → u < 6 → (bt (bl_lv X (bk (β k)) 0 (bk i) 1) (tc u) = true ↔ bt (X (bk i) 1) (tc u) = true ∧ ¬ (i = β k ∧ u = 0)) := by
    intro i u hi hu
    rw [bl_lv1]
    by_cases e : i = β k
    · rw [if_pos e, bt_clr _ (by decide), e]
      constructor
      · rintro ⟨a, b⟩
        exact ⟨a, fun z => b ((tc_0 hu).mpr z.2)⟩
      · rintro ⟨a, b⟩
        exact ⟨a, fun z => b ⟨rfl, (tc_0 hu).mp z⟩⟩
    · rw [if_neg e]
      exact ⟨fun a => ⟨a, fun z => e z.1⟩, fun a => a.1⟩
  refine rT_map h (fun j => if j / 20 = 0 ∧ k ≤ j then j + 1 else j) (fun u => u) m1 ?_ ?_ ?_ ?_ ?_ ?_ (e204 12) (e204 13) ?_ ?_ ?_ ?_ ?_ ?_ ?_ ?_ ?_
  · intro j hj
    exact ⟨(vv j hj).1, (vv j hj).2.1, (vv j hj).2.2.2⟩
  · intro j l hj hl e0 e1
    split at e1 <;> split at e1 <;> omega
  · intro j l hj hl e0 e1
    split at e1 <;> split at e1 <;> omega
  · intro j hj e0
    obtain ⟨a1, a2, a3, a4⟩ := vv j hj
    obtain ⟨c1, c2, c3, c4, c5, c6, c7⟩ := l_par h a1 (fun z => e0 (a4.mp z))
    have hnk : np N (if j / 20 = 0 ∧ k ≤ j then j + 1 else j) ≠ k := by
      intro z
      refine nk_0 h hk hk0 _ a1 ?_ (fun z => e0 (a4.mp z)) z
      rw [← c3, z]
    obtain ⟨l, l1, l2, l3⟩ := back _ c2 hnk
    exact ⟨l, l1, by omega, l3⟩
  · intro a j h1 h2 hj
    rw [ea a j h1 h2]
    by_cases e : j / 20 = 0 ∧ k ≤ j
    · obtain ⟨_, _, c⟩ := v1 j hj e
      simp only [if_pos e]
      rw [if_pos (by omega)]
    · simp only [if_neg e]
      rw [if_neg (by omega)]
  · intro j b hj hb
    rw [eb]
    by_cases e : j / 20 = 0 ∧ k ≤ j
    · obtain ⟨_, _, c⟩ := v1 j hj e
      simp only [if_pos e]
      rw [if_pos (by omega)]
      congr 1
      omega
    · simp only [if_neg e]
      rw [if_neg (by omega)]
  · intro i g hi hg
    unfold bl_lv
    rw [cs_ne _ _ (by omega)]
  · intro i g hi
    unfold bl_lv
    rw [cs_ne _ _ (by unfold bk; omega)]
  · unfold bl_lv
    rw [cs_ne _ _ (by unfold bk; omega)]
  · intro j hj
    obtain ⟨a1, a2, a3, a4⟩ := vv j hj
    obtain ⟨b1, b2, b3⟩ := rT_2 h _ a1
    rw [bits _ _ b1 (nv_t m1 hj).1]
    rw [a2] at b2
    refine ⟨b2, fun z => a3 (l_inj h a1 hk ?_ z.1)⟩
    rw [a2, z.2, h0]
  · intro u i hu hi hb
    rw [bits i u hi hu] at hb
    obtain ⟨l, l1, l2, l3⟩ := rT_3 h u i hu hi hb.1
    have hne : l ≠ k := fun z => hb.2 ⟨by rw [← l3, z], by rw [← l2, z, h0]⟩
    obtain ⟨j, j1, j2, j3⟩ := back l l1 hne
    refine ⟨j, j1, by omega, ?_⟩
    rw [j3, l3]
  · intro i hi j hj
    rw [← Bool.not_eq_true, bl_lv1]
    have g8 : ∀ i, i < 64 → ¬ bt (X (bk i) 1) j = true := fun i hi => by rw [rT_8 h i hi j hj]; decide
    split
    · rw [bt_clr _ (by decide)]
      exact fun z => g8 _ (rT_2 h k hk).1 z.1
    · exact g8 i hi
  · obtain ⟨a1, a2, a3, a4⟩ := rT_9 h
    refine ⟨?_, by rw [e204]; exact a2, a3, ?_⟩
    · unfold bl_lv
      rw [cs_ne _ _ (by unfold bk; omega)]
      exact a1
    · intro t ht
      rw [mm]
      by_cases e : t = 0
      · rw [if_pos e]
        exact ⟨fun _ => by omega, fun z => by omega⟩
      · rw [if_neg e]
        exact a4 t ht
  · intro l hl
    rw [ea _ _ (by decide) (by decide)]
    split
    · exact (rT_12 h).2.1 _ (by omega)
    · exact (rT_12 h).2.1 l hl
  · intro l hl
    rw [ea _ _ (by decide) (by decide)]
    split
    · exact (rT_12 h).2.2 _ (by omega)
    · exact (rT_12 h).2.2 l hl
end
