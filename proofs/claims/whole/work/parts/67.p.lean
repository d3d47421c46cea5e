/-! Nodes move: a tree is copied, a node goes. -/
section
variable {X N X' N' : Nat → Nat → Int32} {β : Nat → Nat} {s s' p d : Nat}
theorem rT_map (h : rT X N β s p d) (σ τ : Nat → Nat) (m1 : nm_ok N')
    (v : ∀ j, nv N' j → nv N (σ j) ∧ σ j / 20 = τ (j / 20) ∧ (σ j % 20 = 0 ↔ j % 20 = 0))
    (inj : ∀ j l, nv N' j → nv N' l → j / 20 = l / 20 → σ j = σ l → j = l)
    (mono : ∀ j l, nv N' j → nv N' l → j / 20 = l / 20 → σ l < σ j → l < j)
    (par : ∀ j, nv N' j → ¬ j % 20 = 0 → ∃ l, nv N' l ∧ l / 20 = j / 20 ∧ σ l = np N (σ j))
    (f : ∀ a j, 207 ≤ a → a ≤ 215 → nv N' j → N' a j = N a (σ j))
    (fb : ∀ j b, nv N' j → b < 16 → N' 216 (16 * j + b) = N 216 (16 * σ j + b))
    (h12 : N' 204 12 = N 204 12) (h13 : N' 204 13 = N 204 13)
    (hX : ∀ i f, i < 64 → 2 ≤ f → X' (bk i) f = X (bk i) f) (hXb : ∀ i f, i < 64 → X' (bk i + 1) f = X (bk i + 1) f) (hX2 : X' 1 2 = X 1 2)
    (hm2 : ∀ j, nv N' j → bt (X' (bk (β (σ j))) 1) (tc (j / 20)) = true)
    (hm3 : ∀ t i, t < 6 → i < 64 → bt (X' (bk i) 1) (tc t) = true → ∃ j, nv N' j ∧ j / 20 = t ∧ β (σ j) = i)
    (h8 : rT8 X') (h9 : rT9 X' N' s') (hlk : lk_ok N') (hgn : gn_ok N') : rT X' N' (fun j => β (σ j)) s' p d := by
  have h4' : rT4 N' := by
    intro j l hj hl e0 e1
    refine inj j l hj hl e0 (rT_4 h _ _ (v j hj).1 (v l hl).1 ?_ ?_)
    · rw [(v j hj).2.1, (v l hl).2.1, e0]
    · rw [← f 207 j (by decide) (by decide) hj, ← f 207 l (by decide) (by decide) hl, e1]
  have np' : ∀ j, nv N' j → ¬ j % 20 = 0 → nv N' (np N' j) ∧ σ (np N' j) = np N (σ j) ∧ np N' j / 20 = j / 20 ∧ np N' j < j ∧ N' 207 (np N' j) = N' 208 j := by
    intro j hj e
    obtain ⟨l, l1, l2, l3⟩ := par j hj e
    obtain ⟨c1, c2, c3, c4, c5, c6, c7⟩ := l_par h (v j hj).1 (fun z => e ((v j hj).2.2.mp z))
    have e3 : N' 207 l = N' 208 j := by rw [f 207 l (by decide) (by decide) l1, f 208 j (by decide) (by decide) hj, l3, c5]
    rw [(np_at m1 h4' l1 l2 e3).2]
    exact ⟨l1, l3, l2, mono j l hj l1 l2.symm (by omega), e3⟩
  refine rT_mk m1 ?_ hm3 h4' ?_ ?_ ?_ h8 h9 ?_ ?_ ?_ ?_ ?_
  · intro j hj
    obtain ⟨a1, a2, a3⟩ := rT_2 h _ (v j hj).1
    refine ⟨a1, hm2 j hj, ?_⟩
    unfold nE at a3 ⊢
    simp only [hX _ _ a1 (show 2 ≤ 2 by decide), hX _ _ a1 (show 2 ≤ 3 by decide), hX _ _ a1 (show 2 ≤ 4 by decide), hX _ _ a1 (show 2 ≤ 5 by decide), hX _ _ a1 (show 2 ≤ 6 by decide), hX _ _ a1 (show 2 ≤ 7 by decide), hX _ _ a1 (show 2 ≤ 8 by decide), hX _ _ a1 (show 2 ≤ 9 by decide), hXb _ _ a1]
    rw [f 207 j (by decide) (by decide) hj, f 208 j (by decide) (by decide) hj, f 209 j (by decide) (by decide) hj, f 210 j (by decide) (by decide) hj, f 211 j (by decide) (by decide) hj, f 212 j (by decide) (by decide) hj, f 213 j (by decide) (by decide) hj, f 214 j (by decide) (by decide) hj]
    refine ⟨a3.1, a3.2.1, a3.2.2.1, a3.2.2.2.1, a3.2.2.2.2.1, a3.2.2.2.2.2.1, a3.2.2.2.2.2.2.1, fun b hb => ?_⟩
    have := ((rT_12 h).2.1 (σ j) (v j hj).1.1).1
    rw [fb j b hj (by omega)]
    exact a3.2.2.2.2.2.2.2 b hb
  · intro j l hj hl
    rw [f 215 j (by decide) (by decide) hj, f 215 l (by decide) (by decide) hl]
    exact rT_5 h _ _ (v j hj).1 (v l hl).1
  · intro j hj
    by_cases e : j % 20 = 0
    · have := l_root h (v j hj).1 ((v j hj).2.2.mpr e)
      rw [f 207 j (by decide) (by decide) hj, f 208 j (by decide) (by decide) hj]
      exact Or.inl ⟨e, this⟩
    · obtain ⟨c1, c2, c3, c4, c5, c6, c7⟩ := l_par h (v j hj).1 (fun z => e ((v j hj).2.2.mp z))
      obtain ⟨n1, n2, n3, n4, n5⟩ := np' j hj e
      refine Or.inr ⟨e, ?_, ?_, _, n1, n3, n4, n5⟩
      · rw [f 208 j (by decide) (by decide) hj]; exact c6
      · rw [f 207 j (by decide) (by decide) hj]; exact c7
  · obtain ⟨a1, a2⟩ := rT_7 h
    refine ⟨fun j l hj hl e0 e1 e2 e3 e4 => ?_, fun j hj e0 => ?_⟩
    · rw [f 208 j (by decide) (by decide) hj, f 208 l (by decide) (by decide) hl] at e3
      rw [f 209 j (by decide) (by decide) hj, f 209 l (by decide) (by decide) hl] at e4
      refine inj j l hj hl e0 (a1 _ _ (v j hj).1 (v l hl).1 ?_ (fun z => e1 ((v j hj).2.2.mp z)) (fun z => e2 ((v l hl).2.2.mp z)) e3 e4)
      rw [(v j hj).2.1, (v l hl).2.1, e0]
    · rw [f 209 j (by decide) (by decide) hj]
      exact a2 _ (v j hj).1 (fun z => e0 ((v j hj).2.2.mp z))
  · refine ⟨by rw [h13]; exact (rT_10 h).1, fun j hj => ?_⟩
    rw [f 215 j (by decide) (by decide) hj]
    exact (rT_10 h).2 _ (v j hj).1
  · obtain ⟨a1, a2, a3, a4⟩ := rT_11 h
    refine ⟨by rw [h12]; exact a1, by rw [hX2]; exact a2, a3, fun j hj => ?_⟩
    rw [f 207 j (by decide) (by decide) hj]
    exact a4 _ (v j hj).1
  · refine ⟨fun i hi => ?_, hlk, hgn⟩
    rw [hX i 9 hi (by decide)]
    exact (rT_12 h).1 i hi
  · intro j hj
    rw [f 213 j (by decide) (by decide) hj, f 214 j (by decide) (by decide) hj]
    exact rT_13 h _ (v j hj).1
  · intro j hj
    obtain ⟨a1, a2⟩ := rT_14 h _ (v j hj).1
    refine ⟨Nat.le_trans ?_ a1, ?_⟩
    · unfold nk_n
      rw [fx_c_sh _ (nm N' (j / 20) - 1), fx_c_sh _ (nm N (σ j / 20) - 1), f 207 j (by decide) (by decide) hj]
      obtain ⟨t1, t2, t3, t4⟩ := nv_t m1 hj
      have w : ∀ i, i < nm N' (j / 20) - 1 → nv N' (20 * (j / 20) + 1 + i) ∧ (20 * (j / 20) + 1 + i) / 20 = j / 20 ∧ ¬ (20 * (j / 20) + 1 + i) % 20 = 0 := by
        intro i hi
        obtain ⟨c1, c2⟩ := nv_i m1 t1 (show 20 * (j / 20) ≤ 20 * (j / 20) + 1 + i by omega) (by omega)
        exact ⟨c1, c2, by omega⟩
      have w2 : ∀ i, i < nm N' (j / 20) - 1 → 20 * (σ j / 20) + 1 ≤ σ (20 * (j / 20) + 1 + i) ∧ σ (20 * (j / 20) + 1 + i) < 20 * (σ j / 20) + 1 + (nm N (σ j / 20) - 1) := by
        intro i hi
        obtain ⟨b1, b2, b3⟩ := w i hi
        refine (l_nh h (v j hj).1).mpr ⟨(v _ b1).1, ?_, fun z => b3 ((v _ b1).2.2.mp z)⟩
        rw [(v _ b1).2.1, (v j hj).2.1, b2]
      refine fx_c_inj _ (fun i => σ (20 * (j / 20) + 1 + i) - (20 * (σ j / 20) + 1)) _ _ _ ?_ ?_
      · intro i hi hp
        obtain ⟨b1, b2⟩ := w2 i hi
        refine ⟨by omega, ?_⟩
        rw [show 20 * (σ j / 20) + 1 + (σ (20 * (j / 20) + 1 + i) - (20 * (σ j / 20) + 1)) = σ (20 * (j / 20) + 1 + i) by omega, ← f 208 _ (by decide) (by decide) (w i hi).1]
        exact hp
      · intro i l hi hl _ _ e
        have b := w2 i hi
        have b' := w2 l hl
        have := inj _ _ (w i hi).1 (w l hl).1 (by rw [(w i hi).2.1, (w l hl).2.1]) (show σ (20 * (j / 20) + 1 + i) = σ (20 * (j / 20) + 1 + l) by omega)
        omega
    · rw [nd_map σ (fun j hj => f 208 j (by decide) (by decide) hj) (fun l hl e => ?_) 20 j hj]
      · exact a2
      · have e0 : ¬ l % 20 = 0 := by
          intro z
          apply e
          rw [f 208 l (by decide) (by decide) hl]
          exact (l_root h (v l hl).1 ((v l hl).2.2.mpr z)).1
        obtain ⟨n1, n2, _⟩ := np' l hl e0
        exact ⟨n1, n2⟩
end
