/-! Changing what a node is (wstat). -/
theorem i_2048 {x : Int32} (h1 : ¬ x < 0) (h2 : ¬ 2047 < x) : (x &&& 2048) = 0 := by
  obtain ⟨b, b1, b2⟩ := nI_of h1
  rw [b2, show (2047 : Int32) = nI 2047 from rfl, nI_ltI (by decide) b1] at h2
  have e : ∀ i, i < 32 → bt 2048 i = decide (i = 11) := by decide +kernel
  apply b_ext
  intro i hi
  rw [b_and, b_0, e i hi]
  by_cases q : i = 11
  · subst q
    have : bt x 11 = false := by
      rw [b2]
      show (BitVec.ofNat 32 b).getLsbD 11 = false
      rw [BitVec.getLsbD_ofNat]
      simp [Nat.testBit_lt_two_pow (show b < 2 ^ 11 by omega)]
    rw [this]
    rfl
  · simp [q]
theorem i_keep (x y : Int32) (h : (y &&& 2048) = 0) : (((x &&& 2048) ||| y) &&& 2048) = (x &&& 2048) := by
  apply b_ext
  intro i hi
  have := congrArg (fun z => bt z i) h
  simp only [b_and, b_0] at this
  rw [b_and, b_or, b_and]
  cases e1 : bt x i <;> cases e2 : bt y i <;> cases e3 : bt 2048 i <;> simp_all
theorem i_2047 (x : Int32) : (¬ x < -1 ∧ ¬ 2048 ≤ x) ↔ (x = -1 ∨ (¬ x < 0 ∧ ¬ 2047 < x)) := by
  rw [Int32.lt_iff_toInt_lt, Int32.le_iff_toInt_le, Int32.lt_iff_toInt_lt, Int32.lt_iff_toInt_lt, ← Int32.toInt_inj]
  have e1 : (-1 : Int32).toInt = -1 := by decide
  have e2 : (2048 : Int32).toInt = 2048 := by decide
  have e3 : (0 : Int32).toInt = 0 := by decide
  have e4 : (2047 : Int32).toInt = 2047 := by decide
  omega
theorem cs_id {C : Nat → Nat → Int32} {i k : Nat} {v : Int32} (h : C i k = v) : cs_C C i k v = C := by
  funext a j
  rw [cs_app]
  split
  · rename_i q
    rw [q.1, q.2, h]
  · rfl
/-- the class's wish, pointwise -/
theorem wa_1o (C : Nat → Nat → Int32) (i a j : Nat) : wa_1 C i a j = if a = bk i ∧ j = 8 ∧ ¬ C 203 1 = -1 then (C (bk i) 8 &&& 2048) ||| C 203 1 else C a j := by
  unfold wa_1
  by_cases q : C 203 1 = -1
  · rw [if_pos q, if_neg (fun z => z.2.2 q)]
  · rw [if_neg q, cs_app]
    by_cases q2 : a = bk i ∧ j = 8
    · rw [if_pos q2, if_pos ⟨q2.1, q2.2, q⟩]
    · rw [if_neg q2, if_neg (fun z => q2 ⟨z.1, z.2.1⟩)]
theorem wa_2o (D : Nat → Nat → Int32) (i l n a j : Nat) : wa_2 D i l n a j = if D 203 2 = -1 then D a j else if a = bk i ∧ j = 7 then D (bk i) 7 + 1 else if a = bk i ∧ j = 9 then nI n else if a = bk i + 1 ∧ l ≤ j ∧ j < n then 0 else D a j := by
  unfold wa_2
  by_cases q : D 203 2 = -1
  · rw [if_pos q, if_pos q]
  · rw [if_neg q, if_neg q, cs_app]
    unfold bl_sl
    by_cases q2 : a = bk i ∧ j = 7
    · rw [if_pos q2, if_pos q2]
    · rw [if_neg q2, if_neg q2, cs_app]
      by_cases q3 : a = bk i ∧ j = 9
      · rw [if_pos q3, if_pos q3]
      · rw [if_neg q3, if_neg q3]
        rfl
theorem wa_3o (G : Nat → Nat → Int32) (i a j : Nat) : wa_3 G i a j = if a = bk i ∧ j = 6 ∧ ¬ G 203 3 = -1 then G 203 3 else G a j := by
  unfold wa_3
  by_cases q : G 203 3 = -1
  · rw [if_pos q, if_neg (fun z => z.2.2 q)]
  · rw [if_neg q, cs_app]
    by_cases q2 : a = bk i ∧ j = 6
    · rw [if_pos q2, if_pos ⟨q2.1, q2.2, q⟩]
    · rw [if_neg q2, if_neg (fun z => q2 ⟨z.1, z.2.1⟩)]
theorem wa_o (C : Nat → Nat → Int32) {i l n : Nat} (hi : i < 64) : (∀ a j, a ≠ bk i → a ≠ bk i + 1 → wa_C C i l n a j = C a j) ∧ (∀ j, j ≤ 5 → wa_C C i l n (bk i) j = C (bk i) j) ∧ wa_C C i l n (bk i) 6 = (if C 203 3 = -1 then C (bk i) 6 else C 203 3) ∧ wa_C C i l n (bk i) 7 = (if C 203 2 = -1 then C (bk i) 7 else C (bk i) 7 + 1) ∧ wa_C C i l n (bk i) 8 = (if C 203 1 = -1 then C (bk i) 8 else (C (bk i) 8 &&& 2048) ||| C 203 1) ∧ wa_C C i l n (bk i) 9 = (if C 203 2 = -1 then C (bk i) 9 else nI n) ∧ ∀ j, wa_C C i l n (bk i + 1) j = (if C 203 2 = -1 then C (bk i + 1) j else if l ≤ j ∧ j < n then 0 else C (bk i + 1) j) := by
  have h203 : ¬ 203 = bk i := by unfold bk; omega
  have h204 : ¬ 203 = bk i + 1 := by unfold bk; omega
  have hs : ¬ bk i + 1 = bk i := by omega
  have hs' : ¬ bk i = bk i + 1 := by omega
  have r1 : ∀ j, wa_1 C i 203 j = C 203 j := fun j => by rw [wa_1o, if_neg (fun z => h203 z.1)]
  have r2 : ∀ j, wa_2 (wa_1 C i) i l n 203 j = C 203 j := by
    intro j
    rw [wa_2o, r1, r1]
    simp only [h203, h204, false_and, if_false]
    split <;> rfl
  have all : ∀ a j, wa_C C i l n a j = if a = bk i ∧ j = 6 ∧ ¬ C 203 3 = -1 then C 203 3 else if C 203 2 = -1 then wa_1 C i a j else if a = bk i ∧ j = 7 then wa_1 C i (bk i) 7 + 1 else if a = bk i ∧ j = 9 then nI n else if a = bk i + 1 ∧ l ≤ j ∧ j < n then 0 else wa_1 C i a j := by
    intro a j
    unfold wa_C
    rw [wa_3o, r2, wa_2o, r1]
  refine ⟨fun a j h1 h2 => ?_, fun j hj => ?_, ?_, ?_, ?_, ?_, fun j => ?_⟩
  · rw [all, wa_1o]
    simp only [h1, h2, false_and, if_false]
    split <;> rfl
  · have j6 : ¬ j = 6 := by omega
    have j7 : ¬ j = 7 := by omega
    have j8 : ¬ j = 8 := by omega
    have j9 : ¬ j = 9 := by omega
    rw [all, wa_1o]
    simp only [hs', j6, j7, j8, j9, false_and, and_false, if_false]
    split <;> rfl
  · rw [all, wa_1o]
    by_cases q : C 203 3 = -1 <;> simp [q]
  · rw [all, wa_1o]
    simp
  · rw [all, wa_1o]
    by_cases q : C 203 1 = -1 <;> simp [q]
  · rw [all, wa_1o]
    simp
  · rw [all, wa_1o]
    simp only [hs, false_and, if_false, true_and]
/-- the reference's wish, pointwise -/
theorem nU_o (C : Nat → Nat → Int32) {k l : Nat} {md g x : Int32} : (∀ a j, a ≠ 216 → ¬ (211 ≤ a ∧ a ≤ 214 ∧ j = k) → nU_3 (nU_2 C k md g) k l x a j = C a j) ∧ nU_3 (nU_2 C k md g) k l x 213 k = md ∧ nU_3 (nU_2 C k md g) k l x 211 k = g ∧ nU_3 (nU_2 C k md g) k l x 212 k = (if x = -1 then C 212 k else C 212 k + 1) ∧ nU_3 (nU_2 C k md g) k l x 214 k = (if x = -1 then C 214 k else x) ∧ ∀ j, nU_3 (nU_2 C k md g) k l x 216 j = (if x = -1 then C 216 j else if 16 * k + l ≤ j ∧ j < 16 * k + x.toNatClampNeg then 0 else C 216 j) := by
  have n2 : ∀ a j, nU_2 C k md g a j = if a = 211 ∧ j = k then g else if a = 213 ∧ j = k then md else C a j := by
    intro a j
    unfold nU_2
    rw [cs_app, cs_app]
  have n3 : ∀ a j, nU_3 (nU_2 C k md g) k l x a j = if x = -1 then nU_2 C k md g a j else if a = 214 ∧ j = k then x else if a = 216 ∧ 16 * k + l ≤ j ∧ j < 16 * k + x.toNatClampNeg then 0 else if a = 212 ∧ j = k then nU_2 C k md g 212 k + 1 else nU_2 C k md g a j := by
    intro a j
    unfold nU_3
    by_cases q : x = -1
    · rw [if_pos q, if_pos q]
    · rw [if_neg q, if_neg q, cs_app]
      by_cases q2 : a = 214 ∧ j = k
      · rw [if_pos q2, if_pos q2]
      · rw [if_neg q2, if_neg q2]
        unfold ng_C
        rw [cs_ne _ _ q2]
        unfold nz_C
        by_cases q3 : a = 216 ∧ 16 * k + l ≤ j ∧ j < 16 * k + x.toNatClampNeg
        · rw [if_pos q3, if_pos q3]
        · rw [if_neg q3, if_neg q3, cs_app]
  refine ⟨fun a j h1 h2 => ?_, ?_, ?_, ?_, ?_, fun j => ?_⟩
  · have q1 : ¬ (a = 211 ∧ j = k) := by omega
    have q2 : ¬ (a = 213 ∧ j = k) := by omega
    have q3 : ¬ (a = 214 ∧ j = k) := by omega
    have q4 : ¬ (a = 212 ∧ j = k) := by omega
    have q5 : ¬ (a = 216 ∧ 16 * k + l ≤ j ∧ j < 16 * k + x.toNatClampNeg) := by omega
    rw [n3, n2, if_neg q1, if_neg q2, if_neg q3, if_neg q4, if_neg q5]
    split <;> rfl
  · rw [n3, n2]
    simp
  · rw [n3, n2]
    simp
  · rw [n3, n2]
    simp
  · rw [n3, n2]
    simp
  · rw [n3, n2]
    simp
section
variable {X N X' N' : Nat → Nat → Int32} {β : Nat → Nat} {s p d c f : Nat}
theorem rT_ws (h : rT X N β s p d) {k : Nat} {ti w1 w2 w3 : Int32} (hk : nv N k) (hu : ∀ l, nv N l → β l = β k → l = k) (e1 : X 203 1 = w1) (e2 : X 203 2 = w2) (e3 : X 203 3 = w3)
    (h7 : ti = N 209 k ∨ ((∃ x, 1 ≤ x ∧ x ≤ 99 ∧ ti = nI x) ∧ ∀ l, nv N l → l / 20 = k / 20 → ¬ l % 20 = 0 → N 208 l = N 208 k → N 209 l = ti → l = k))
    (c1 : w1 = -1 ∨ (¬ w1 < 0 ∧ ¬ 2047 < w1)) (c2 : w2 = -1 ∨ (¬ w2 < 0 ∧ ¬ 16 < w2 ∧ (N 213 k &&& 2048) = 0)) (c3 : w3 = -1 ∨ ∃ g, g < 4 ∧ w3 = nI g) :
    rT (wa_C (cs_C X (bk (β k)) 4 ti) (β k) (N 214 k).toNatClampNeg w2.toNatClampNeg) (nU_3 (nU_2 (cs_C N 209 k ti) k (if w1 = -1 then N 213 k else (N 213 k &&& 2048) ||| w1) (if w3 = -1 then N 211 k else w3)) k (N 214 k).toNatClampNeg w2) β s p d := by
  obtain ⟨b1, b2, b3⟩ := rT_2 h k hk
  obtain ⟨l1, l2⟩ := (rT_12 h).2.1 k hk.1
  have h203 : ¬ (203 = bk (β k) ∧ (1 : Nat) = 4) := by omega
  obtain ⟨x0, x5, x6, x7, x8, x9, xb⟩ := wa_o (cs_C X (bk (β k)) 4 ti) (l := (N 214 k).toNatClampNeg) (n := w2.toNatClampNeg) b1
  have r203 : ∀ j, cs_C X (bk (β k)) 4 ti 203 j = X 203 j := fun j => cs_ne _ _ (by unfold bk; omega)
  have rf : ∀ j, j ≠ 4 → cs_C X (bk (β k)) 4 ti (bk (β k)) j = X (bk (β k)) j := fun j hj => cs_ne _ _ (by omega)
  have rb : ∀ j, cs_C X (bk (β k)) 4 ti (bk (β k) + 1) j = X (bk (β k) + 1) j := fun j => cs_ne _ _ (by omega)
  rw [r203, e3, rf 6 (by decide)] at x6
  rw [r203, e2, rf 7 (by decide)] at x7
  rw [r203, e1, rf 8 (by decide)] at x8
  rw [r203, e2, rf 9 (by decide)] at x9
  simp only [r203, e2, rb] at xb
  obtain ⟨n0, n13, n11, n12, n14, nb⟩ := nU_o (cs_C N 209 k ti) (k := k) (l := (N 214 k).toNatClampNeg) (md := if w1 = -1 then N 213 k else (N 213 k &&& 2048) ||| w1) (g := if w3 = -1 then N 211 k else w3) (x := w2)
  rw [cs_ne _ _ (by omega)] at n12 n14
  have nb' : ∀ j, cs_C N 209 k ti 216 j = N 216 j := fun j => cs_ne _ _ (by omega)
  simp only [nb'] at nb
  generalize wa_C (cs_C X (bk (β k)) 4 ti) (β k) (N 214 k).toNatClampNeg w2.toNatClampNeg = X' at *
  generalize nU_3 (nU_2 (cs_C N 209 k ti) k (if w1 = -1 then N 213 k else (N 213 k &&& 2048) ||| w1) (if w3 = -1 then N 211 k else w3)) k (N 214 k).toNatClampNeg w2 = N' at *
  have n9 : N' 209 k = ti := by rw [n0 209 k (by omega) (by omega), cs_at]
  have no : ∀ a j, a ≠ 216 → ¬ (211 ≤ a ∧ a ≤ 214 ∧ j = k) → ¬ (a = 209 ∧ j = k) → N' a j = N a j := fun a j q1 q2 q3 => by rw [n0 a j q1 q2, cs_ne _ _ q3]
  -- the wished length
  have hw : w2 = -1 ∨ ∃ y, y ≤ 16 ∧ w2 = nI y ∧ w2.toNatClampNeg = y ∧ (N 213 k &&& 2048) = 0 := by
    rcases c2 with c2 | ⟨q1, q2, q3⟩
    · exact Or.inl c2
    · obtain ⟨y, y1, y2⟩ := nI_of q1
      rw [y2, show (16 : Int32) = nI 16 from rfl, nI_ltI (by decide) y1] at q2
      exact Or.inr ⟨y, by omega, y2, by rw [y2, nI_clamp y1], q3⟩
  have hdir : (N' 213 k &&& 2048) = (N 213 k &&& 2048) := by
    rw [n13]
    rcases c1 with q | ⟨q1, q2⟩
    · rw [if_pos q]
    · by_cases q : w1 = -1
      · rw [if_pos q]
      · rw [if_neg q, i_keep _ _ (i_2048 q1 q2)]
  refine rT_edit h hk hu (fun a j _ q1 q2 => ?_) ?_ (fun a j q1 q2 q3 => no a j (by omega) (by omega) (by omega)) (fun j hj => ?_) (fun j _ _ => no _ _ (by omega) (by omega) (by omega)) ?_ ?_ ?_ ?_ ?_
  · rw [x0 a j q1 q2, cs_ne _ _ (fun z => q1 z.1)]
  · rw [x5 1 (by decide), rf 1 (by decide)]
  · rw [nb]
    rcases hw with q | ⟨y, y1, y2, y3, _⟩
    · rw [if_pos q]
    · rw [y3]
      split
      · rfl
      · rw [if_neg (by omega)]
  · unfold nE at b3 ⊢
    rw [x5 2 (by decide), rf 2 (by decide), x5 3 (by decide), rf 3 (by decide), x5 4 (by decide), cs_at, x5 5 (by decide), rf 5 (by decide), x6, x7, x8, x9, no 207 k (by omega) (by omega) (by omega), no 208 k (by omega) (by omega) (by omega), n9, no 210 k (by omega) (by omega) (by omega), n11, n12, n13, n14, b3.2.2.2.1, b3.2.2.2.2.1, b3.2.2.2.2.2.1, b3.2.2.2.2.2.2.1]
    refine ⟨b3.1, rfl, b3.2.2.1, rfl, rfl, rfl, ?_, fun j hj => ?_⟩
    · rcases hw with q | ⟨y, y1, y2, y3, _⟩
      · rw [if_pos q, if_pos q]
      · rw [y3, ← y2]
    · rw [xb, nb]
      rcases hw with q | ⟨y, y1, y2, y3, _⟩
      · rw [if_pos q, if_pos q]
        rw [if_pos q] at hj
        exact b3.2.2.2.2.2.2.2 j hj
      · by_cases q : w2 = -1
        · rw [if_pos q, if_pos q]
          rw [if_pos q] at hj
          exact b3.2.2.2.2.2.2.2 j hj
        · rw [if_neg q] at hj
          rw [if_neg q, if_neg q]
          by_cases q2 : (N 214 k).toNatClampNeg ≤ j ∧ j < w2.toNatClampNeg
          · have q3 : 16 * k + (N 214 k).toNatClampNeg ≤ 16 * k + j ∧ 16 * k + j < 16 * k + w2.toNatClampNeg := by omega
            rw [if_pos q2, if_pos q3]
          · have q3 : ¬ (16 * k + (N 214 k).toNatClampNeg ≤ 16 * k + j ∧ 16 * k + j < 16 * k + w2.toNatClampNeg) := by omega
            rw [if_neg q2, if_neg q3]
            exact b3.2.2.2.2.2.2.2 j (by omega)
  · rw [n9]
    exact h7
  · rw [hdir, n14]
    intro z
    rcases hw with q | ⟨y, y1, y2, y3, y4⟩
    · rw [if_pos q]
      exact rT_13 h k hk z
    · exact absurd y4 z
  · rw [n11]
    by_cases q : w3 = -1
    · rw [if_pos q]
      exact (rT_12 h).2.2 k hk.1
    · rcases c3 with c3 | ⟨g, g1, g2⟩
      · exact absurd c3 q
      · rw [if_neg q, g2, nI_clamp (by omega)]
        exact ⟨g1, rfl⟩
  · rw [n14]
    rcases hw with q | ⟨y, y1, y2, y3, y4⟩
    · rw [if_pos q]
      exact ⟨l1, l2⟩
    · by_cases q : w2 = -1
      · rw [if_pos q]
        exact ⟨l1, l2⟩
      · rw [if_neg q, y3]
        exact ⟨y1, y2⟩
end
