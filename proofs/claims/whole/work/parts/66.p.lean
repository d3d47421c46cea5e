/-! A node is added. -/
section
variable {X N X' N' : Nat → Nat → Int32} {β : Nat → Nat} {s p d : Nat}
theorem nd_fu (h : rT X N β s p d) {k m m' : Nat} (hk : nv N k) (h0 : k / 20 = 0) (h1 : k % 20 ≤ m) (h2 : k % 20 ≤ m') : nd_n N m k = nd_n N m' k := by
  rw [← l_ca h 20 m k hk h0 (by omega) h1, l_ca h 20 m' k hk h0 (by omega) h2]
/-- depths, when nodes keep their parents -/
theorem nd_map {N N' : Nat → Nat → Int32} (σ : Nat → Nat) (h1 : ∀ j, nv N' j → N' 208 j = N 208 (σ j)) (h2 : ∀ j, nv N' j → ¬ N' 208 j < 0 → nv N' (np N' j) ∧ σ (np N' j) = np N (σ j)) : ∀ n j, nv N' j → nd_n N' n j = nd_n N n (σ j) := by
  intro n
  induction n with
  | zero => intro j _; rfl
  | succ n ih =>
    intro j hj
    simp only [nd_n, h1 j hj]
    by_cases e : N 208 (σ j) < 0
    · rw [if_pos e, if_pos e]
    · obtain ⟨a, b⟩ := h2 j hj (by rw [h1 j hj]; exact e)
      rw [if_neg e, if_neg e, ih _ a, b]
theorem rT_new (h : rT X N β s p d) {k c o : Nat} (hk : nv N k) (h0 : k / 20 = 0) (hc : c = nm N 0) (c20 : c < 20) (ho : o < 64) (hfree : X (bk o) 1 = 0) (hp : p < 2 ^ 30) (hd : d < 2 ^ 30)
    (hX : ∀ a j, a < 131 → a ≠ bk o → a ≠ bk o + 1 → ¬ (a = 1 ∧ j = 2) → X' a j = X a j) (hX1 : X' (bk o) 1 = X (bk o) 1 ||| ((1 : Int32) <<< (nI 0 &&& 31))) (hX2 : X' 1 2 = X 1 2 + 1)
    (h6a : N' 206 0 = nI (c + 1)) (h6b : ∀ t, t ≠ 0 → N' 206 t = N 206 t)
    (hN : ∀ a j, 207 ≤ a → a ≤ 215 → j ≠ c → N' a j = N a j) (hB : N' 216 = N 216)
    (h412 : N' 204 12 = nI (p + 1)) (h413 : N' 204 13 = nI (d + 1)) (h414 : N' 204 14 = N 204 14) (hE : nE X' N' o c)
    (h7 : N' 207 c = nI p) (h8 : N' 208 c = N 207 k) (h9 : ∃ x, 1 ≤ x ∧ x ≤ 99 ∧ N' 209 c = nI x) (h9u : ∀ l, nv N l → l / 20 = 0 → ¬ l % 20 = 0 → N 208 l = N 207 k → ¬ N 209 l = N' 209 c)
    (hg : (N' 211 c).toNatClampNeg < 4 ∧ N' 211 c = nI (N' 211 c).toNatClampNeg) (h14 : N' 214 c = 0) (h15 : N' 215 c = nI d) (hk8 : nk_n N k < 8) (hd6 : nd_n N 20 k < 6) :
    rT X' N' (fun j => if j = c then o else β j) s (p + 1) (d + 1) := by
  obtain ⟨k1, k20⟩ := l_lt0 h hk h0
  have m0 : nm N' 0 = c + 1 := by unfold nm; rw [h6a, nI_clamp (by omega)]
  have mt : ∀ t, t ≠ 0 → nm N' t = nm N t := fun t ht => by unfold nm; rw [h6b t ht]
  have cne : ∀ l, nv N l → l ≠ c := by
    intro l hl e
    have : l / 20 = 0 := by omega
    have := (l_lt0 h hl this).1
    omega
  have nv1 : ∀ l, nv N l → nv N' l := by
    rintro l ⟨a, b⟩
    refine ⟨a, ?_⟩
    by_cases e : l / 20 = 0
    · rw [e] at b ⊢; omega
    · rw [mt _ e]; exact b
  have nvc : nv N' c := ⟨by omega, by rw [show c / 20 = 0 by omega]; omega⟩
  have nv2 : ∀ l, nv N' l → nv N l ∨ l = c := by
    rintro l ⟨a, b⟩
    by_cases e : l / 20 = 0
    · rw [e, m0] at b
      by_cases f : l = c
      · exact Or.inr f
      · exact Or.inl ⟨a, by rw [e]; omega⟩
    · rw [mt _ e] at b
      exact Or.inl ⟨a, b⟩
  have nm' : nm_ok N' := by
    intro t ht
    by_cases e : t = 0
    · rw [e, m0, h6a]; exact ⟨by omega, rfl⟩
    · rw [mt t e, h6b t e]; exact rT_nm h t ht
  have hfr : ∀ l, nv N l → ¬ β l = o := fun l hl e => (l_mask h ho).mpr ⟨l, hl, e⟩ hfree
  have hq : ∀ l, nv N l → ∃ q, q < p ∧ N 207 l = nI q := (rT_11 h).2.2.2
  have h4' : rT4 N' := by
    intro l m hl hm e0 e1
    rcases nv2 l hl with hl | hl
    · rcases nv2 m hm with hm | hm
      · rw [hN 207 l (by decide) (by decide) (cne l hl), hN 207 m (by decide) (by decide) (cne m hm)] at e1
        exact rT_4 h l m hl hm e0 e1
      · obtain ⟨q, q1, q2⟩ := hq l hl
        rw [hN 207 l (by decide) (by decide) (cne l hl), hm, h7, q2, nI_eq (by omega) (by omega)] at e1
        omega
    · rcases nv2 m hm with hm | hm
      · obtain ⟨q, q1, q2⟩ := hq m hm
        rw [hN 207 m (by decide) (by decide) (cne m hm), hl, h7, q2, nI_eq (by omega) (by omega)] at e1
        omega
      · rw [hl, hm]
  have par' : ∀ l, nv N l → ¬ l % 20 = 0 → np N' l = np N l := by
    intro l hl e
    obtain ⟨c1, c2, c3, c4, c5, c6, c7⟩ := l_par h hl e
    refine (np_at nm' h4' (nv1 _ c2) c3 ?_).2
    rw [hN 207 _ (by decide) (by decide) (cne _ c2), hN 208 _ (by decide) (by decide) (cne _ hl), c5]
  have park : np N' c = k := by
    refine (np_at nm' h4' (nv1 k hk) (by omega) ?_).2
    rw [hN 207 _ (by decide) (by decide) (cne _ hk), h8]
  obtain ⟨q0, q1, q2⟩ := hq k hk
  have h8c : ¬ N' 208 c < 0 := by rw [h8, q2]; exact nI_pos (by omega)
  have nd' : ∀ n l, nv N l → nd_n N' n l = nd_n N n l := by
    intro n
    induction n with
    | zero => intro l _; rfl
    | succ n ih =>
      intro l hl
      simp only [nd_n, hN 208 l (by decide) (by decide) (cne l hl)]
      by_cases e : N 208 l < 0
      · rw [if_pos e, if_pos e]
      · have e0 : ¬ l % 20 = 0 := fun z => e (l_root h hl z).1
        rw [if_neg e, if_neg e, par' l hl e0, ih _ (l_par h hl e0).2.1]
  refine rT_mk nm' ?_ ?_ h4' ?_ ?_ ?_ ?_ ?_ ?_ ?_ ?_ ?_ ?_
  · intro l hl
    rcases nv2 l hl with hl | hl
    · obtain ⟨l1, l2, l3⟩ := rT_2 h l hl
      have e := cne l hl
      have hne := hfr l hl
      simp only [if_neg e]
      have a1 : ∀ f, X' (bk (β l)) f = X (bk (β l)) f := fun f => hX _ _ (by unfold bk; omega) (by unfold bk; omega) (by unfold bk; omega) (by unfold bk; omega)
      have a2 : ∀ f, X' (bk (β l) + 1) f = X (bk (β l) + 1) f := fun f => hX _ _ (by unfold bk; omega) (by unfold bk; omega) (by unfold bk; omega) (by unfold bk; omega)
      refine ⟨l1, by rw [a1]; exact l2, ?_⟩
      unfold nE at l3 ⊢
      simp only [a1, a2, hB]
      rw [hN 207 l (by decide) (by decide) e, hN 208 l (by decide) (by decide) e, hN 209 l (by decide) (by decide) e, hN 210 l (by decide) (by decide) e, hN 211 l (by decide) (by decide) e, hN 212 l (by decide) (by decide) e, hN 213 l (by decide) (by decide) e, hN 214 l (by decide) (by decide) e]
      exact l3
    · simp only [hl, if_true]
      refine ⟨ho, ?_, hE⟩
      rw [show c / 20 = 0 by omega, hX1, bt_set _ (by decide)]
      exact Or.inr rfl
  · intro t i ht hi hb
    by_cases e : i = o
    · rw [e, hX1, bt_set _ (by decide), hfree, b_0] at hb
      rcases hb with hb | hb
      · cases hb
      · refine ⟨c, nvc, ?_, ?_⟩
        · rw [(tc_0 ht).mp hb]; omega
        · simp [e]
    · rw [hX _ _ (by unfold bk; omega) (by unfold bk; omega) (by unfold bk; omega) (by unfold bk; omega)] at hb
      obtain ⟨l, l1, l2, l3⟩ := rT_3 h t i ht hi hb
      refine ⟨l, nv1 l l1, l2, ?_⟩
      simp only [if_neg (cne l l1)]
      exact l3
  · intro l m hl hm
    have hb : ∀ l, nv N l → ¬ N 215 l = nI d := by
      intro l hl e
      obtain ⟨b, b1, b2⟩ := (rT_10 h).2 l hl
      rw [b2, nI_eq (by omega) (by omega)] at e
      omega
    rcases nv2 l hl with hl | hl
    · rcases nv2 m hm with hm | hm
      · simp only [if_neg (cne l hl), if_neg (cne m hm)]
        rw [hN 215 l (by decide) (by decide) (cne l hl), hN 215 m (by decide) (by decide) (cne m hm)]
        exact rT_5 h l m hl hm
      · simp only [if_neg (cne l hl), if_pos hm]
        rw [hN 215 l (by decide) (by decide) (cne l hl), hm, h15]
        exact ⟨fun z => absurd z (hb l hl), fun z => absurd z (hfr l hl)⟩
    · rcases nv2 m hm with hm | hm
      · simp only [if_neg (cne m hm), if_pos hl]
        rw [hN 215 m (by decide) (by decide) (cne m hm), hl, h15]
        exact ⟨fun z => absurd z.symm (hb m hm), fun z => absurd z.symm (hfr m hm)⟩
      · simp [hl, hm]
  · intro l hl
    rcases nv2 l hl with hl | hl
    · rw [hN 207 l (by decide) (by decide) (cne l hl), hN 208 l (by decide) (by decide) (cne l hl)]
      rcases rT_6 h l hl with a | ⟨a1, a2, a3, m, m1, m2, m3, m4⟩
      · exact Or.inl a
      · exact Or.inr ⟨a1, a2, a3, m, nv1 m m1, m2, m3, by rw [hN 207 m (by decide) (by decide) (cne m m1)]; exact m4⟩
    · rw [hl]
      refine Or.inr ⟨by omega, h8c, ?_, k, nv1 k hk, by omega, by omega, ?_⟩
      · rw [h7]
        have := (rT_11 h).2.2.1
        exact nI_ne0 (by omega) (by omega)
      · rw [hN 207 k (by decide) (by decide) (cne k hk), h8]
  · obtain ⟨a1, a2⟩ := rT_7 h
    refine ⟨fun l m hl hm e0 e1 e2 e3 e4 => ?_, fun l hl e0 => ?_⟩
    · rcases nv2 l hl with hl | hl
      · rw [hN 208 l (by decide) (by decide) (cne l hl)] at e3
        rw [hN 209 l (by decide) (by decide) (cne l hl)] at e4
        rcases nv2 m hm with hm | hm
        · rw [hN 208 m (by decide) (by decide) (cne m hm)] at e3
          rw [hN 209 m (by decide) (by decide) (cne m hm)] at e4
          exact a1 l m hl hm e0 e1 e2 e3 e4
        · rw [hm] at e3 e4 e0
          rw [h8] at e3
          exact absurd e4 (h9u l hl (by omega) e1 e3)
      · rcases nv2 m hm with hm | hm
        · rw [hN 208 m (by decide) (by decide) (cne m hm)] at e3
          rw [hN 209 m (by decide) (by decide) (cne m hm)] at e4
          rw [hl] at e3 e4 e0
          rw [h8] at e3
          exact absurd e4.symm (h9u m hm (by omega) e2 e3.symm)
        · rw [hl, hm]
    · rcases nv2 l hl with hl | hl
      · rw [hN 209 l (by decide) (by decide) (cne l hl)]
        exact a2 l hl e0
      · rw [hl]; exact h9
  · intro i hi j hj
    by_cases e : i = o
    · rw [e, ← Bool.not_eq_true, hX1, bt_set _ (by decide), hfree, b_0]
      rintro (z | z)
      · cases z
      · omega
    · rw [hX _ _ (by unfold bk; omega) (by unfold bk; omega) (by unfold bk; omega) (by unfold bk; omega)]
      exact rT_8 h i hi j hj
  · obtain ⟨a1, a2, a3, a4⟩ := rT_9 h
    refine ⟨?_, by rw [h414]; exact a2, a3, ?_⟩
    · rw [hX 1 1 (by decide) (by unfold bk; omega) (by unfold bk; omega) (by omega)]; exact a1
    · intro t ht
      by_cases e : t = 0
      · rw [e, m0]
        exact ⟨fun _ => by omega, fun z => by omega⟩
      · rw [mt t e]; exact a4 t ht
  · refine ⟨h413, fun l hl => ?_⟩
    rcases nv2 l hl with hl | hl
    · obtain ⟨b, b1, b2⟩ := (rT_10 h).2 l hl
      exact ⟨b, by omega, by rw [hN 215 l (by decide) (by decide) (cne l hl), b2]⟩
    · exact ⟨d, by omega, by rw [hl, h15]⟩
  · obtain ⟨a1, a2, a3, a4⟩ := rT_11 h
    refine ⟨h412, ?_, by omega, fun l hl => ?_⟩
    · rw [hX2, a2, nI_1]
      congr 1
      omega
    · rcases nv2 l hl with hl | hl
      · obtain ⟨q, b1, b2⟩ := a4 l hl
        exact ⟨q, by omega, by rw [hN 207 l (by decide) (by decide) (cne l hl), b2]⟩
      · exact ⟨p, by omega, by rw [hl, h7]⟩
  · obtain ⟨a1, a2, a3⟩ := rT_12 h
    refine ⟨?_, ?_, ?_⟩
    · intro i hi
      by_cases e : i = o
      · refine ⟨0, by decide, ?_⟩
        rw [e, hE.2.2.2.2.2.2.1, h14]
        rfl
      · rw [hX _ _ (by unfold bk; omega) (by unfold bk; omega) (by unfold bk; omega) (by unfold bk; omega)]
        exact a1 i hi
    · intro l hl'
      by_cases e : l = c
      · rw [e, h14]; decide
      · rw [hN 214 l (by decide) (by decide) e]; exact a2 l hl'
    · intro l hl'
      by_cases e : l = c
      · rw [e]; exact hg
      · rw [hN 211 l (by decide) (by decide) e]; exact a3 l hl'
  · intro l hl
    rcases nv2 l hl with hl | hl
    · rw [hN 213 l (by decide) (by decide) (cne l hl), hN 214 l (by decide) (by decide) (cne l hl)]
      exact rT_13 h l hl
    · rw [hl]; exact fun _ => h14
  · intro l hl
    have cnt : ∀ q : Int32, fx_c (fun j => decide (N' 208 j = q)) c 1 = fx_c (fun j => decide (N 208 j = q)) (c - 1) 1 + (if N 207 k = q then 1 else 0) := by
      intro q
      have e : c = (c - 1) + 1 := by omega
      rw [show fx_c (fun j => decide (N' 208 j = q)) c 1 = fx_c (fun j => decide (N' 208 j = q)) ((c - 1) + 1) 1 by rw [← e], fx_c_su, show 1 + (c - 1) = c by omega, h8]
      rw [fx_c_cg (c - 1) 1 (P := fun j => decide (N' 208 j = q)) (Q := fun j => decide (N 208 j = q)) (fun j b1 b2 => by rw [hN 208 j (by decide) (by decide) (by omega)])]
      simp only [decide_eq_true_eq]
    rcases nv2 l hl with hl | hl
    · refine ⟨?_, by rw [nd' 20 l hl]; exact (rT_14 h l hl).2⟩
      have a := (rT_14 h l hl).1
      unfold nk_n at a ⊢
      rw [hN 207 l (by decide) (by decide) (cne l hl)]
      by_cases e : l / 20 = 0
      · rw [e, m0, show c + 1 - 1 = c by omega, show 20 * 0 + 1 = 1 by omega, cnt]
        rw [e, ← hc] at a
        by_cases f : N 207 k = N 207 l
        · have := rT_4 h k l hk hl (by omega) f
          rw [if_pos f, ← this]
          unfold nk_n at hk8
          rw [h0, ← hc] at hk8
          simp only [Nat.mul_zero, Nat.zero_add] at hk8
          omega
        · rw [if_neg f]
          simpa using a
      · rw [mt _ e]
        rw [fx_c_cg _ _ (P := fun j => decide (N' 208 j = N 207 l)) (Q := fun j => decide (N 208 j = N 207 l)) (fun j b1 b2 => by rw [hN 208 j (by decide) (by decide) (by omega)])]
        exact a
    · rw [hl]
      constructor
      · unfold nk_n
        rw [h7, show c / 20 = 0 by omega, m0, show c + 1 - 1 = c by omega, show 20 * 0 + 1 = 1 by omega, cnt]
        have z : fx_c (fun j => decide (N 208 j = nI p)) (c - 1) 1 = 0 := by
          rw [fx_c_cg (c - 1) 1 (Q := fun _ => false)]
          · have : ∀ n i, fx_c (fun _ => false) n i = 0 := by
              intro n
              induction n with
              | zero => intro i; rfl
              | succ n ih => intro i; simp only [fx_c, ih]; simp
            exact this _ _
          · intro j b1 b2
            rw [decide_eq_false_iff_not]
            intro z
            obtain ⟨g1, g2⟩ := l_t0 h (j := j) (by omega)
            obtain ⟨c1, c2, c3, c4, c5, c6, c7⟩ := l_par h g1 (by omega)
            obtain ⟨q', q3, q4⟩ := hq _ c2
            rw [← c5, q4, nI_eq (by omega) (by omega)] at z
            omega
        rw [z]
        split <;> omega
      · rw [nd_n, if_neg h8c, park, nd' _ k hk, nd_fu h hk h0 (m' := 20) (by omega) (by omega)]
        omega
end
