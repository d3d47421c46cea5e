/-! A node's own ints change; a node is added; nodes move. -/
section
variable {X N X' N' : Nat → Nat → Int32} {β : Nat → Nat} {s p d : Nat}
theorem rT_edit (h : rT X N β s p d) {k : Nat} (hk : nv N k) (hu : ∀ l, nv N l → β l = β k → l = k)
    (hX : ∀ a j, a < 131 → a ≠ bk (β k) → a ≠ bk (β k) + 1 → X' a j = X a j) (hX1 : X' (bk (β k)) 1 = X (bk (β k)) 1)
    (hN : ∀ a j, 206 ≤ a → a ≤ 215 → (j ≠ k ∨ a ≤ 208 ∨ a = 215) → N' a j = N a j)
    (hB : ∀ j, ¬ (16 * k ≤ j ∧ j < 16 * k + 16) → N' 216 j = N 216 j)
    (h4 : ∀ j, 12 ≤ j → j ≤ 14 → N' 204 j = N 204 j) (hE : nE X' N' (β k) k)
    (h7 : N' 209 k = N 209 k ∨ ((∃ x, 1 ≤ x ∧ x ≤ 99 ∧ N' 209 k = nI x) ∧ ∀ l, nv N l → l / 20 = k / 20 → ¬ l % 20 = 0 → N 208 l = N 208 k → N 209 l = N' 209 k → l = k))
    (h13 : ¬ (N' 213 k &&& 2048) = 0 → N' 214 k = 0) (hg : (N' 211 k).toNatClampNeg < 4 ∧ N' 211 k = nI (N' 211 k).toNatClampNeg)
    (hl : (N' 214 k).toNatClampNeg ≤ 16 ∧ N' 214 k = nI (N' 214 k).toNatClampNeg) : rT X' N' β s p d := by
  have e6 : N' 206 = N 206 := funext fun j => hN 206 j (by decide) (by decide) (Or.inr (Or.inl (by decide)))
  have e7 : N' 207 = N 207 := funext fun j => hN 207 j (by decide) (by decide) (Or.inr (Or.inl (by decide)))
  have e8 : N' 208 = N 208 := funext fun j => hN 208 j (by decide) (by decide) (Or.inr (Or.inl (by decide)))
  have e15 : N' 215 = N 215 := funext fun j => hN 215 j (by decide) (by decide) (Or.inr (Or.inr (by decide)))
  have nv' : ∀ l, nv N' l ↔ nv N l := nv_c e6
  have o : ∀ a j, 206 ≤ a → a ≤ 215 → j ≠ k → N' a j = N a j := fun a j h1 h2 h3 => hN a j h1 h2 (Or.inl h3)
  obtain ⟨k1, k2, k3⟩ := rT_2 h k hk
  have mask : ∀ i, i < 64 → X' (bk i) 1 = X (bk i) 1 := by
    intro i hi
    by_cases e : i = β k
    · rw [e]; exact hX1
    · exact hX _ _ (by unfold bk; omega) (by unfold bk; omega) (by unfold bk; omega)
  refine rT_mk (nm_c e6 (rT_nm h)) ?_ ?_ (rT4_c e6 e7 (rT_4 h)) ?_ (rT6_c e6 e7 e8 (rT_6 h)) ?_ ?_ ?_ ?_ ?_ ?_ ?_ (rT14_c e6 e7 e8 (rT_14 h))
  · intro l hl
    rw [nv'] at hl
    obtain ⟨l1, l2, l3⟩ := rT_2 h l hl
    refine ⟨l1, by rw [mask _ l1]; exact l2, ?_⟩
    by_cases e : l = k
    · rw [e]; exact hE
    · have hne : β l ≠ β k := fun z => e (hu l hl z)
      have a1 : ∀ f, X' (bk (β l)) f = X (bk (β l)) f := fun f => hX _ _ (by unfold bk; omega) (by unfold bk; omega) (by unfold bk; omega)
      have a2 : ∀ f, X' (bk (β l) + 1) f = X (bk (β l) + 1) f := fun f => hX _ _ (by unfold bk; omega) (by unfold bk; omega) (by unfold bk; omega)
      have hl20 := hl.1
      unfold nE at l3 ⊢
      simp only [a1, a2]
      rw [o 207 l (by decide) (by decide) e, o 208 l (by decide) (by decide) e, o 209 l (by decide) (by decide) e, o 210 l (by decide) (by decide) e, o 211 l (by decide) (by decide) e, o 212 l (by decide) (by decide) e, o 213 l (by decide) (by decide) e, o 214 l (by decide) (by decide) e]
      refine ⟨l3.1, l3.2.1, l3.2.2.1, l3.2.2.2.1, l3.2.2.2.2.1, l3.2.2.2.2.2.1, l3.2.2.2.2.2.2.1, fun j hj => ?_⟩
      have := (rT_12 h).2.1 l hl20
      rw [hB _ (by omega)]
      exact l3.2.2.2.2.2.2.2 j hj
  · intro t i ht hi hb
    rw [mask i hi] at hb
    obtain ⟨l, l1, l2⟩ := rT_3 h t i ht hi hb
    exact ⟨l, (nv' l).mpr l1, l2⟩
  · intro l m hl hm
    rw [nv'] at hl hm
    rw [e15]
    exact rT_5 h l m hl hm
  · obtain ⟨a1, a2⟩ := rT_7 h
    refine ⟨fun l m hl hm e0 e1 e2 e3 e4 => ?_, fun l hl e0 => ?_⟩
    · rw [nv'] at hl hm
      rw [e8] at e3
      by_cases f1 : l = k
      · by_cases f2 : m = k
        · rw [f1, f2]
        · rw [f1] at e4 e3 e0 e1
          rw [o 209 m (by decide) (by decide) f2] at e4
          rcases h7 with h7 | ⟨_, h7⟩
          · rw [f1]
            exact a1 k m hk hm e0 e1 e2 e3 (by rw [← h7, e4])
          · rw [f1]
            exact (h7 m hm e0.symm e2 e3.symm e4.symm).symm
      · rw [o 209 l (by decide) (by decide) f1] at e4
        by_cases f2 : m = k
        · rw [f2] at e4 e3 e0 e2
          rcases h7 with h7 | ⟨_, h7⟩
          · rw [f2]
            exact a1 l k hl hk e0 e1 e2 e3 (by rw [← h7, e4])
          · rw [f2]
            exact h7 l hl e0 e1 e3 e4
        · rw [o 209 m (by decide) (by decide) f2] at e4
          exact a1 l m hl hm e0 e1 e2 e3 e4
    · rw [nv'] at hl
      by_cases f1 : l = k
      · rw [f1] at e0 ⊢
        rcases h7 with h7 | ⟨h7, _⟩
        · rw [h7]; exact a2 k hk e0
        · exact h7
      · rw [o 209 l (by decide) (by decide) f1]
        exact a2 l hl e0
  · intro i hi j hj
    rw [mask i hi]
    exact rT_8 h i hi j hj
  · obtain ⟨a1, a2, a3, a4⟩ := rT_9 h
    refine ⟨?_, ?_, a3, ?_⟩
    · rw [hX 1 1 (by decide) (by unfold bk; omega) (by unfold bk; omega)]; exact a1
    · rw [h4 14 (by decide) (by decide)]; exact a2
    · simpa only [nm, e6] using a4
  · refine ⟨?_, fun l hl => ?_⟩
    · rw [h4 13 (by decide) (by decide)]; exact (rT_10 h).1
    · rw [nv'] at hl
      rw [e15]
      exact (rT_10 h).2 l hl
  · obtain ⟨a1, a2, a3, a4⟩ := rT_11 h
    refine ⟨?_, ?_, a3, fun l hl => ?_⟩
    · rw [h4 12 (by decide) (by decide)]; exact a1
    · rw [hX 1 2 (by decide) (by unfold bk; omega) (by unfold bk; omega)]; exact a2
    · rw [nv'] at hl
      rw [e7]
      exact a4 l hl
  · obtain ⟨a1, a2, a3⟩ := rT_12 h
    refine ⟨?_, ?_, ?_⟩
    · intro i hi
      by_cases e : i = β k
      · refine ⟨_, hl.1, ?_⟩
        rw [e, hE.2.2.2.2.2.2.1]
        exact hl.2
      · rw [hX _ _ (by unfold bk; omega) (by unfold bk; omega) (by unfold bk; omega)]
        exact a1 i hi
    · intro l hl'
      by_cases e : l = k
      · rw [e]; exact hl
      · rw [o 214 l (by decide) (by decide) e]; exact a2 l hl'
    · intro l hl'
      by_cases e : l = k
      · rw [e]; exact hg
      · rw [o 211 l (by decide) (by decide) e]; exact a3 l hl'
  · intro l hl'
    rw [nv'] at hl'
    by_cases e : l = k
    · rw [e]; exact h13
    · rw [o 213 l (by decide) (by decide) e, o 214 l (by decide) (by decide) e]
      exact rT_13 h l hl'
end
