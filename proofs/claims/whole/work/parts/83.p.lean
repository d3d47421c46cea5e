/-! The invariant at the start. -/
theorem mk_x {a j : Nat} (h : a < 204) : mk_C a j = mk_C1 a j := by
  unfold mk_C
  rw [(nf_o _).1 a (by omega) (by omega) (by omega)]
  unfold mk_t mk_m
  rw [cs_ne _ _ (by omega), cs_ne _ _ (by omega), cs_ne _ _ (by omega), cs_ne _ _ (by omega), cs_ne _ _ (by omega), cs_ne _ _ (by omega), cs_ne _ _ (by omega), cs_ne _ _ (by omega), cs_ne _ _ (by omega), cs_ne _ _ (by omega), cs_ne _ _ (by omega), cs_ne _ _ (by omega)]
theorem mk_3 (j : Nat) : mk_C 3 j = zb j := by
  rw [mk_x (by decide)]
  unfold mk_C1
  rw [if_pos rfl]
theorem mk_0 {a j : Nat} (h : a < 204) (h3 : a ≠ 3) : mk_C a j = 0 := by
  rw [mk_x h]
  unfold mk_C1
  rw [if_neg h3, if_neg (by omega)]
theorem mk_4 {j : Nat} (h1 : j ≠ 24) (h2 : j ≠ 26) : mk_C 204 j = if j = 12 ∨ j = 13 then 1 else 0 := by
  unfold mk_C
  rw [(nf_o _).2.1 j h1 h2]
  unfold mk_t mk_m
  rw [cs_ne _ _ (by omega), cs_ne _ _ (by omega), cs_ne _ _ (by omega), cs_ne _ _ (by omega), cs_ne _ _ (by omega), cs_ne _ _ (by omega), cs_ne _ _ (by omega), cs_ne _ _ (by omega), cs_ne _ _ (by omega), cs_ne _ _ (by omega), cs_ne _ _ (by omega), cs_ne _ _ (by omega)]
  unfold mk_C1
  rw [if_neg (by omega)]
  by_cases q : j = 12 ∨ j = 13
  · rw [if_pos ⟨rfl, q⟩, if_pos q]
  · rw [if_neg (fun z => q z.2), if_neg q]
theorem mk_n {a j : Nat} (h : 204 < a) (h1 : a ≠ 217) (h2 : a ≠ 222) : mk_C a j = if a = 205 ∧ (j = 0 ∨ j = 5 ∨ j = 10 ∨ j = 15) then 1 else if a = 206 ∧ (j = 0 ∨ j = 1) then 1 else if a = 213 ∧ (j = 0 ∨ j = 20) then 2559 else if a = 208 ∧ (j = 0 ∨ j = 20) then -1 else 0 := by
  unfold mk_C
  rw [(nf_o _).1 a (by omega) h1 h2]
  unfold mk_t mk_m
  simp only [cs_app, Nat.mul_zero, Nat.mul_one]
  have e : mk_C1 a j = 0 := by
    unfold mk_C1
    rw [if_neg (by omega), if_neg (by omega)]
  rw [e]
  by_cases q5 : a = 205
  · subst q5
    simp only [show ¬ (205 = 215) by decide, show ¬ (205 = 208) by decide, show ¬ (205 = 213) by decide, show ¬ (205 = 206) by decide, false_and, if_false, true_and]
    by_cases z0 : j = 0 <;> by_cases z1 : j = 5 <;> by_cases z2 : j = 10 <;> by_cases z3 : j = 15 <;> simp [z0, z1, z2, z3]
  · by_cases q6 : a = 206
    · subst q6
      simp only [show ¬ (206 = 215) by decide, show ¬ (206 = 208) by decide, show ¬ (206 = 213) by decide, show ¬ (206 = 205) by decide, false_and, if_false, true_and]
      by_cases z0 : j = 0 <;> by_cases z1 : j = 1 <;> simp [z0, z1]
    · by_cases q13 : a = 213
      · subst q13
        simp only [show ¬ (213 = 215) by decide, show ¬ (213 = 208) by decide, show ¬ (213 = 206) by decide, show ¬ (213 = 205) by decide, false_and, if_false, true_and]
        by_cases z0 : j = 0 <;> by_cases z1 : j = 20 <;> simp [z0, z1]
      · by_cases q8 : a = 208
        · subst q8
          simp only [show ¬ (208 = 215) by decide, show ¬ (208 = 213) by decide, show ¬ (208 = 206) by decide, show ¬ (208 = 205) by decide, false_and, if_false, true_and]
          by_cases z0 : j = 0 <;> by_cases z1 : j = 20 <;> simp [z0, z1]
        · simp only [q5, q6, q13, q8, false_and, if_false]
          split <;> try rfl
          split <;> rfl
theorem mk_nm (t : Nat) : nm mk_C t = if t = 0 ∨ t = 1 then 1 else 0 := by
  unfold nm
  rw [mk_n (by decide) (by decide) (by decide), if_neg (by omega)]
  by_cases q : t = 0 ∨ t = 1
  · rw [if_pos ⟨rfl, q⟩, if_pos q]
    rfl
  · rw [if_neg (fun z => q z.2), if_neg (by omega), if_neg (by omega), if_neg q]
    rfl
theorem mk_nv {k : Nat} (h : nv mk_C k) : k = 0 ∨ k = 20 := by
  have := h.2
  rw [mk_nm] at this
  split at this <;> omega
theorem mk_bk {i : Nat} (hi : i < 64) (j : Nat) : mk_C (bk i) j = if i = 0 then zb j else 0 := by
  by_cases q : i = 0
  · rw [if_pos q, q]
    exact mk_3 j
  · rw [if_neg q]
    exact mk_0 (by unfold bk; omega) (by unfold bk; omega)
theorem rJ_0 : rJ 0 mk_C := by
  refine ⟨fun _ => 0, 0, 1, 1, ⟨?_, ?_, ?_, ?_, ?_, ?_⟩, by decide, by decide⟩
  · intro u hu g hg
    have e : mk_C 205 (4 * u + g) = if u = g then 1 else 0 := by
      rw [mk_n (by decide) (by decide) (by decide)]
      by_cases q : u = g
      · rw [if_pos q, if_pos ⟨rfl, by omega⟩]
      · rw [if_neg q, if_neg (by omega), if_neg (by omega), if_neg (by omega), if_neg (by omega)]
    rw [e, mk_0 (by decide) (by decide), b_0]
    by_cases q : u = g
    · simp [q]
    · simp [q]
  · exact ⟨0, by decide, mk_0 (by decide) (by decide), (nf_o _).2.2.2.2.1, fun j hj => by omega⟩
  · exact ⟨0, by decide, mk_0 (by decide) (by decide), (nf_o _).2.2.2.2.2, fun j hj => by omega⟩
  · intro c hc t ht
    refine Or.inl ⟨mk_0 (by unfold cn_q; omega) (by unfold cn_q; omega), ?_⟩
    rw [show mk_C 222 (8 * c + t) = -1 from (nf_o _).2.2.2.1 _ (by omega)]
    decide
  · intro c hc f hf
    refine ⟨0, by decide, mk_0 (by unfold cn_f; omega) (by unfold cn_f; omega), ?_, Or.inl ⟨mk_0 (by unfold cn_f; omega) (by unfold cn_f; omega), mk_0 (by unfold cn_f; omega) (by unfold cn_f; omega), ?_⟩⟩
    · rw [mk_n (by decide) (by decide) (by decide), if_neg (by omega), if_neg (by omega), if_neg (by omega), if_neg (by omega)]
      rfl
    · rw [show mk_C 217 (6 * c + f) = -1 from (nf_o _).2.2.1 _ (by omega)]
      decide
  · have z : ∀ a j, 204 < a → a ≠ 217 → a ≠ 222 → a ≠ 205 → a ≠ 206 → a ≠ 213 → a ≠ 208 → mk_C a j = 0 := by
      intro a j h0 h1 h2 h3 h4 h5 h6
      rw [mk_n h0 h1 h2, if_neg (by omega), if_neg (by omega), if_neg (by omega), if_neg (by omega)]
    have z8 : ∀ k, nv mk_C k → mk_C 208 k = -1 := by
      intro k hk
      rw [mk_n (by decide) (by decide) (by decide), if_neg (by omega), if_neg (by omega), if_neg (by omega), if_pos ⟨rfl, mk_nv hk⟩]
    have z13 : ∀ k, nv mk_C k → mk_C 213 k = 2559 := by
      intro k hk
      rw [mk_n (by decide) (by decide) (by decide), if_neg (by omega), if_neg (by omega), if_pos ⟨rfl, mk_nv hk⟩]
    have n1 : (-1 : Int32) < 0 := by decide
    have tcs : ∀ k, nv mk_C k → tc (k / 20) = 0 ∨ tc (k / 20) = 5 := by
      intro k hk
      rcases mk_nv hk with q | q
      · rw [q]; exact Or.inl rfl
      · rw [q]; exact Or.inr rfl
    refine rT_mk ?_ ?_ ?_ ?_ ?_ ?_ ?_ ?_ ?_ ?_ ?_ ?_ ?_ ?_
    · intro t ht
      rw [mk_nm]
      have e : mk_C 206 t = if t = 0 ∨ t = 1 then 1 else 0 := by
        rw [mk_n (by decide) (by decide) (by decide), if_neg (by omega)]
        by_cases q : t = 0 ∨ t = 1
        · rw [if_pos ⟨rfl, q⟩, if_pos q]
        · rw [if_neg (fun z => q z.2), if_neg (by omega), if_neg (by omega), if_neg q]
      rw [e]
      by_cases q : t = 0 ∨ t = 1
      · rw [if_pos q, if_pos q]; decide
      · rw [if_neg q, if_neg q]; decide
    · intro k hk
      show 0 < 64 ∧ bt (mk_C (bk 0) 1) (tc (k / 20)) = true ∧ nE mk_C mk_C 0 k
      refine ⟨by decide, ?_, ?_⟩
      · rw [mk_bk (by decide), if_pos rfl]
        rcases tcs k hk with q | q <;> rw [q] <;> decide +kernel
      · unfold nE
        rw [z8 k hk, z13 k hk, z 207 k (by decide) (by decide) (by decide) (by decide) (by decide) (by decide) (by decide), z 209 k (by decide) (by decide) (by decide) (by decide) (by decide) (by decide) (by decide), z 210 k (by decide) (by decide) (by decide) (by decide) (by decide) (by decide) (by decide), z 211 k (by decide) (by decide) (by decide) (by decide) (by decide) (by decide) (by decide), z 212 k (by decide) (by decide) (by decide) (by decide) (by decide) (by decide) (by decide), z 214 k (by decide) (by decide) (by decide) (by decide) (by decide) (by decide) (by decide)]
        rw [mk_bk (by decide), mk_bk (by decide), mk_bk (by decide), mk_bk (by decide), mk_bk (by decide), mk_bk (by decide), mk_bk (by decide), mk_bk (by decide), if_pos rfl, if_pos n1]
        exact ⟨⟨rfl, rfl⟩, rfl, rfl, rfl, rfl, rfl, rfl, fun j hj => absurd hj (by rw [show (0 : Int32).toNatClampNeg = 0 from rfl]; omega)⟩
    · intro t i ht hi hb
      rw [mk_bk hi] at hb
      by_cases q : i = 0
      · rw [if_pos q, show zb 1 = 33 from rfl] at hb
        have : ∀ t, t < 6 → bt 33 (tc t) = true → t = 0 ∨ t = 1 := by decide +kernel
        rcases this t ht hb with r | r
        · exact ⟨0, ⟨by decide, by rw [mk_nm]; decide⟩, by rw [r], q.symm⟩
        · exact ⟨20, ⟨by decide, by rw [mk_nm]; decide⟩, by rw [r], q.symm⟩
      · rw [if_neg q, b_0] at hb
        cases hb
    · intro k l hk hl e _
      rcases mk_nv hk with q | q <;> rcases mk_nv hl with r | r <;> omega
    · intro k l hk hl
      rw [z 215 k (by decide) (by decide) (by decide) (by decide) (by decide) (by decide) (by decide), z 215 l (by decide) (by decide) (by decide) (by decide) (by decide) (by decide) (by decide)]
      simp
    · intro k hk
      refine Or.inl ⟨?_, by rw [z8 k hk]; exact n1, z 207 k (by decide) (by decide) (by decide) (by decide) (by decide) (by decide) (by decide)⟩
      rcases mk_nv hk with q | q <;> omega
    · refine ⟨fun k l hk hl _ e => ?_, fun k hk e => ?_⟩
      · exact absurd (by rcases mk_nv hk with q | q <;> omega) e
      · exact absurd (by rcases mk_nv hk with q | q <;> omega) e
    · intro i hi j hj
      rw [mk_bk hi]
      by_cases q : i = 0
      · rw [if_pos q, show zb 1 = 33 from rfl]
        rcases Nat.lt_or_ge j 32 with r | r
        · exact (by decide +kernel : ∀ j, j < 32 → 6 ≤ j → bt 33 j = false) j r hj
        · exact b_big r
      · rw [if_neg q, b_0]
    · refine ⟨mk_0 (by decide) (by decide), by rw [mk_4 (by decide) (by decide)]; rfl, by decide, fun t ht => ?_⟩
      rw [mk_nm]
      by_cases q : t = 0 ∨ t = 1
      · rw [if_pos q]
        exact ⟨fun _ => by decide, fun _ => by omega⟩
      · rw [if_neg q]
        exact ⟨fun _ => by omega, fun _ => rfl⟩
    · refine ⟨by rw [mk_4 (by decide) (by decide)]; rfl, fun k hk => ⟨0, by decide, z 215 k (by decide) (by decide) (by decide) (by decide) (by decide) (by decide) (by decide)⟩⟩
    · refine ⟨by rw [mk_4 (by decide) (by decide)]; rfl, mk_0 (by decide) (by decide), by decide, fun k hk => ⟨0, by decide, z 207 k (by decide) (by decide) (by decide) (by decide) (by decide) (by decide) (by decide)⟩⟩
    · refine ⟨fun i hi => ⟨0, by decide, ?_⟩, fun k hk => ?_, fun k hk => ?_⟩
      · rw [mk_bk hi]
        by_cases q : i = 0
        · rw [if_pos q]; rfl
        · rw [if_neg q]; rfl
      · rw [z 214 k (by decide) (by decide) (by decide) (by decide) (by decide) (by decide) (by decide)]; decide
      · rw [z 211 k (by decide) (by decide) (by decide) (by decide) (by decide) (by decide) (by decide)]; decide
    · intro k hk _
      exact z 214 k (by decide) (by decide) (by decide) (by decide) (by decide) (by decide) (by decide)
    · intro k hk
      constructor
      · unfold nk_n
        rw [mk_nm]
        split
        · exact Nat.zero_le _
        · exact Nat.zero_le _
      · rw [nd_n, z8 k hk, if_pos n1]
        decide
