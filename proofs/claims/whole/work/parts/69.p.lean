/-! The relation's parts under changes elsewhere; replies; rights. -/
theorem cs_row (C : Nat → Nat → Int32) {i k j : Nat} {v : Int32} (h : j ≠ i) : cs_C C i k v j = C j := by
  funext l
  exact cs_ne _ _ (fun z => h z.1)
theorem rp_row (C : Nat → Nat → Int32) {k a : Nat} {v : Int32} (h1 : a ≠ 201) (h2 : a ≠ 202) : rp_add C k v a = C a := by
  funext j
  exact rp_ne h1 h2
theorem nt_row (C : Nat → Nat → Int32) {k a : Nat} {v : Int32} (h1 : a ≠ 204) (h2 : a ≠ 227) : nt_C C k v a = C a := by
  unfold nt_C
  rw [cs_row _ h1, cs_row _ h2]
theorem nt_4 (C : Nat → Nat → Int32) {k j : Nat} {v : Int32} (h : j ≠ 26) : nt_C C k v 204 j = C 204 j := by
  unfold nt_C
  rw [cs_ne _ _ (fun z => h z.2), cs_row _ (by decide)]
/-- one fid -/
def rF0 (X N : Nat → Nat → Int32) (s p c f : Nat) : Prop := ∃ t, t ≤ 4 ∧ X (cn_f c f) 3 = nI t ∧ N 218 (6 * c + f) = nI (if t = 0 then 0 else t + 1) ∧ ((X (cn_f c f) 0 = 0 ∧ X (cn_f c f) 1 = 0 ∧ N 217 (6 * c + f) < 0) ∨ (¬ X (cn_f c f) 0 = 0 ∧ ¬ N 217 (6 * c + f) < 0 ∧ rF1 X N (cn_f c f) (6 * c + f) t s p))
section
variable {X N X' N' : Nat → Nat → Int32} {β : Nat → Nat} {s s' p p' d : Nat}
theorem rM_c (h1 : X' 131 = X 131) (h2 : N' 205 = N 205) (h : rM X N) : rM X' N' := by
  unfold rM at h ⊢
  rw [h1, h2]
  exact h
theorem rS_c (h1 : X' 199 = X 199) (h2 : X' 200 = X 200) (h3 : N' 204 24 = N 204 24) (h4 : N' 226 = N 226) (h : rS X N) : rS X' N' := by
  unfold rS at h ⊢
  rw [h1, h2, h3, h4]
  exact h
theorem rP_c (h1 : X' 201 = X 201) (h2 : X' 202 = X 202) (h3 : N' 204 26 = N 204 26) (h4 : N' 227 = N 227) (h : rP X N) : rP X' N' := by
  unfold rP at h ⊢
  rw [h1, h2, h3, h4]
  exact h
theorem rQ_c (h1 : ∀ a, (142 ≤ a ∧ a < 166) ∨ (175 ≤ a ∧ a < 199) → X' a = X a) (h2 : ∀ a, 222 ≤ a → a ≤ 225 → N' a = N a) (h : rQ X N) : rQ X' N' := by
  intro c hc t ht
  have a := h c hc t ht
  unfold rQ1 at a ⊢
  rw [h1 (cn_q c t) (by unfold cn_q; omega), h1 (cn_q c t + 1) (by unfold cn_q; omega), h1 (cn_q c t + 2) (by unfold cn_q; omega), h2 222 (by decide) (by decide), h2 223 (by decide) (by decide), h2 224 (by decide) (by decide), h2 225 (by decide) (by decide)]
  exact a
theorem rF_c (h1 : ∀ a, (135 ≤ a ∧ a < 141) ∨ (168 ≤ a ∧ a < 174) → X' a = X a) (h2 : ∀ a, 217 ≤ a → a ≤ 221 → N' a = N a) (hs : s ≤ s') (hp : p ≤ p') (hpp : p < 2 ^ 30)
    (hT : ∀ k, nv N' k → k / 20 = 0 → N' 207 k = nI p ∨ ∃ l, nv N l ∧ l / 20 = 0 ∧ N 207 l = N' 207 k ∧ (N 213 l &&& 2048) = (N' 213 k &&& 2048)) (h : rF X N s p) : rF X' N' s' p' := by
  intro c hc f hf
  obtain ⟨t, t1, t2, t3, t4⟩ := h c hc f hf
  rw [h1 (cn_f c f) (by unfold cn_f; omega), h2 217 (by decide) (by decide), h2 218 (by decide) (by decide)]
  refine ⟨t, t1, t2, t3, ?_⟩
  rcases t4 with t4 | ⟨t5, t6, t7⟩
  · exact Or.inl t4
  · refine Or.inr ⟨t5, t6, ?_⟩
    unfold rF1 at t7 ⊢
    rw [h1 (cn_f c f) (by unfold cn_f; omega), h2 217 (by decide) (by decide), h2 219 (by decide) (by decide), h2 220 (by decide) (by decide), h2 221 (by decide) (by decide)]
    obtain ⟨a1, a2, ⟨q, q1, q2, q3⟩, a4⟩ := t7
    refine ⟨by omega, a2, ⟨q, by omega, q2, q3⟩, ?_⟩
    rcases a4 with a4 | ⟨b1, b2, b3, b4, b5⟩
    · exact Or.inl a4
    · refine Or.inr ⟨b1, b2, b3, b4, fun z => ⟨(b5 z).1, fun k k1 k2 k3 => ?_⟩⟩
      rcases hT k k1 k2 with g | ⟨l, l1, l2, l3, l4⟩
      · rw [g, q3, nI_eq (by omega) (by omega)] at k3
        omega
      · rw [← l4]
        exact (b5 z).2 l l1 l2 (by rw [l3, k3])
theorem rF_t (h1 : ∀ a, (135 ≤ a ∧ a < 141) ∨ (168 ≤ a ∧ a < 174) → X' a = X a) (h2 : ∀ a, 217 ≤ a → a ≤ 221 → N' a = N a) (h6 : N' 206 = N 206) (h7 : N' 207 = N 207) (h13 : N' 213 = N 213) (hpp : p < 2 ^ 30) (h : rF X N s p) : rF X' N' s p :=
  rF_c h1 h2 (Nat.le_refl _) (Nat.le_refl _) hpp (fun k hk h0 => Or.inr ⟨k, (nv_c h6 k).mp hk, h0, by rw [h7], by rw [h13]⟩) h
theorem rF_up (h : rF X N s p) {c f : Nat} (hX : ∀ c' f', c' < 2 → f' < 6 → ¬ (c' = c ∧ f' = f) → X' (cn_f c' f') = X (cn_f c' f')) (hN : ∀ a j, 217 ≤ a → a ≤ 221 → j ≠ 6 * c + f → N' a j = N a j) (hc : c < 2) (hf : f < 6)
    (h6 : N' 206 = N 206) (h7 : N' 207 = N 207) (h13 : N' 213 = N 213) (hnew : rF0 X' N' s p c f) : rF X' N' s p := by
  intro c' hc' f' hf'
  by_cases e : c' = c ∧ f' = f
  · rw [e.1, e.2]
    exact hnew
  · have o := h c' hc' f' hf'
    have hne : 6 * c' + f' ≠ 6 * c + f := by omega
    unfold rF1 at o ⊢
    simp only [nv_c h6]
    rw [hX c' f' hc' hf' e, hN 217 _ (by decide) (by decide) hne, hN 218 _ (by decide) (by decide) hne, hN 219 _ (by decide) (by decide) hne, hN 220 _ (by decide) (by decide) hne, hN 221 _ (by decide) (by decide) hne, h7, h13]
    exact o
theorem rT_c (h1 : ∀ a, a < 131 → X' a = X a) (h2 : ∀ a, 206 ≤ a → a ≤ 216 → N' a = N a) (h4 : ∀ j, 12 ≤ j → j ≤ 14 → N' 204 j = N 204 j) (h : rT X N β s p d) : rT X' N' β s p d := by
  have b1 : ∀ i, i < 64 → X' (bk i) = X (bk i) := fun i hi => h1 _ (by unfold bk; omega)
  have b2 : ∀ i, i < 64 → X' (bk i + 1) = X (bk i + 1) := fun i hi => h1 _ (by unfold bk; omega)
  have e6 := h2 206 (by decide) (by decide)
  have e7 := h2 207 (by decide) (by decide)
  have e8 := h2 208 (by decide) (by decide)
  have e9 := h2 209 (by decide) (by decide)
  have e11 := h2 211 (by decide) (by decide)
  have e13 := h2 213 (by decide) (by decide)
  have e14 := h2 214 (by decide) (by decide)
  have e15 := h2 215 (by decide) (by decide)
  have nv' : ∀ l, nv N' l ↔ nv N l := nv_c e6
  refine rT_mk (nm_c e6 (rT_nm h)) ?_ ?_ (rT4_c e6 e7 (rT_4 h)) ?_ (rT6_c e6 e7 e8 (rT_6 h)) (rT7_c e6 e8 e9 (rT_7 h)) ?_ ?_ ?_ ?_ ?_ ?_ (rT14_c e6 e7 e8 (rT_14 h))
  · intro k hk
    rw [nv'] at hk
    obtain ⟨a1, a2, a3⟩ := rT_2 h k hk
    unfold nE at a3 ⊢
    rw [b1 _ a1, b2 _ a1, e7, e8, e9, h2 210 (by decide) (by decide), e11, h2 212 (by decide) (by decide), e13, e14, h2 216 (by decide) (by decide)]
    exact ⟨a1, a2, a3⟩
  · intro t i ht hi hb
    rw [b1 i hi] at hb
    obtain ⟨k, k1, k2⟩ := rT_3 h t i ht hi hb
    exact ⟨k, (nv' k).mpr k1, k2⟩
  · intro k l hk hl
    rw [nv'] at hk hl
    rw [e15]
    exact rT_5 h k l hk hl
  · intro i hi j hj
    rw [b1 i hi]
    exact rT_8 h i hi j hj
  · obtain ⟨a1, a2, a3, a4⟩ := rT_9 h
    refine ⟨by rw [h1 1 (by decide)]; exact a1, by rw [h4 14 (by decide) (by decide)]; exact a2, a3, ?_⟩
    simpa only [nm, e6] using a4
  · refine ⟨by rw [h4 13 (by decide) (by decide)]; exact (rT_10 h).1, fun k hk => ?_⟩
    rw [nv'] at hk
    rw [e15]
    exact (rT_10 h).2 k hk
  · obtain ⟨a1, a2, a3, a4⟩ := rT_11 h
    refine ⟨by rw [h4 12 (by decide) (by decide)]; exact a1, by rw [h1 1 (by decide)]; exact a2, a3, fun k hk => ?_⟩
    rw [nv'] at hk
    rw [e7]
    exact a4 k hk
  · obtain ⟨a1, a2, a3⟩ := rT_12 h
    refine ⟨fun i hi => ?_, ?_, ?_⟩
    · rw [b1 i hi]; exact a1 i hi
    · unfold lk_ok at a2 ⊢; rw [e14]; exact a2
    · unfold gn_ok at a3 ⊢; rw [e11]; exact a3
  · intro k hk
    rw [nv'] at hk
    rw [e13, e14]
    exact rT_13 h k hk
theorem rR_M (h : rR X N β s p d) : rM X N := h.1
theorem rR_S (h : rR X N β s p d) : rS X N := h.2.1
theorem rR_P (h : rR X N β s p d) : rP X N := h.2.2.1
theorem rR_Q (h : rR X N β s p d) : rQ X N := h.2.2.2.1
theorem rR_F (h : rR X N β s p d) : rF X N s p := h.2.2.2.2.1
theorem rR_T (h : rR X N β s p d) : rT X N β s p d := h.2.2.2.2.2
/-- changes of the replies alone -/
theorem rR_cP (h : rR X N β s p d) (hp : p < 2 ^ 30) (h1 : ∀ a, a < 204 → a ≠ 201 → a ≠ 202 → X' a = X a) (h2 : ∀ a, 204 < a → a ≠ 227 → a ≠ 228 → N' a = N a) (h3 : ∀ j, j ≠ 26 → j ≠ 29 → N' 204 j = N 204 j) (hP : rP X' N') : rR X' N' β s p d :=
  ⟨rM_c (h1 _ (by decide) (by decide) (by decide)) (h2 _ (by decide) (by decide) (by decide)) (rR_M h), rS_c (h1 _ (by decide) (by decide) (by decide)) (h1 _ (by decide) (by decide) (by decide)) (h3 _ (by decide) (by decide)) (h2 _ (by decide) (by decide) (by decide)) (rR_S h), hP,
    rQ_c (fun a ha => h1 a (by omega) (by omega) (by omega)) (fun a b c => h2 a (by omega) (by omega) (by omega)) (rR_Q h),
    rF_t (fun a ha => h1 a (by omega) (by omega) (by omega)) (fun a b c => h2 a (by omega) (by omega) (by omega)) (h2 _ (by decide) (by decide) (by decide)) (h2 _ (by decide) (by decide) (by decide)) (h2 _ (by decide) (by decide) (by decide)) hp (rR_F h),
    rT_c (fun a ha => h1 a (by omega) (by omega) (by omega)) (fun a b c => h2 a (by omega) (by omega) (by omega)) (fun j a b => h3 j (by omega) (by omega)) (rR_T h)⟩
/-- changes of the fids alone -/
theorem rR_cF (h : rR X N β s p d) (h1 : ∀ a, a < 204 → ¬ ((135 ≤ a ∧ a < 141) ∨ (168 ≤ a ∧ a < 174)) → X' a = X a) (h2 : ∀ a, 204 ≤ a → ¬ (217 ≤ a ∧ a ≤ 221) → N' a = N a) (hF : rF X' N' s p) : rR X' N' β s p d :=
  ⟨rM_c (h1 _ (by decide) (by decide)) (h2 _ (by decide) (by decide)) (rR_M h), rS_c (h1 _ (by decide) (by decide)) (h1 _ (by decide) (by decide)) (by rw [h2 204 (by decide) (by decide)]) (h2 _ (by decide) (by decide)) (rR_S h),
    rP_c (h1 _ (by decide) (by decide)) (h1 _ (by decide) (by decide)) (by rw [h2 204 (by decide) (by decide)]) (h2 _ (by decide) (by decide)) (rR_P h),
    rQ_c (fun a ha => h1 a (by omega) (by omega)) (fun a b c => h2 a (by omega) (by omega)) (rR_Q h), hF,
    rT_c (fun a ha => h1 a (by omega) (by omega)) (fun a b c => h2 a (by omega) (by omega)) (fun j a b => by rw [h2 204 (by decide) (by decide)]) (rR_T h)⟩
/-- changes of the trees alone -/
theorem rR_cT {β' : Nat → Nat} {d' : Nat} (h : rR X N β s p d) (h1 : ∀ a, 131 ≤ a → a < 204 → X' a = X a) (h2 : ∀ a, (a = 205 ∨ 217 ≤ a) → N' a = N a) (h3 : ∀ j, 24 ≤ j → N' 204 j = N 204 j) (hT : rT X' N' β' s' p' d') (hF : rF X' N' s' p') : rR X' N' β' s' p' d' :=
  ⟨rM_c (h1 _ (by decide) (by decide)) (h2 _ (by decide)) (rR_M h), rS_c (h1 _ (by decide) (by decide)) (h1 _ (by decide) (by decide)) (h3 24 (by decide)) (h2 _ (by decide)) (rR_S h),
    rP_c (h1 _ (by decide) (by decide)) (h1 _ (by decide) (by decide)) (h3 26 (by decide)) (h2 _ (by decide)) (rR_P h),
    rQ_c (fun a ha => h1 a (by omega) (by omega)) (fun a b c => h2 a (by omega)) (rR_Q h), hF, hT⟩
/-- one more reply -/
theorem rR_rp (h : rR X N β s p d) (hp : p < 2 ^ 30) {k : Nat} (hk : X 201 1 = nI k) (h8 : k < 8) (v : Int32) : rR (rp_add X k v) (nt_C N k v) β s p d := by
  obtain ⟨k', k1, k2, k3, k4⟩ := rR_P h
  have ek : k' = k := by
    rw [hk, nI_eq (by omega) (by omega)] at k2
    exact k2.symm
  subst ek
  refine rR_cP h hp (fun a _ a1 a2 => rp_row X a1 a2) (fun a a1 a2 _ => nt_row N (by omega) a2) (fun j a _ => nt_4 N a) ⟨k' + 1, by omega, rp_k _ _ _, ?_, fun j hj => ?_⟩
  · unfold nt_C
    rw [cs_at]
  · have a1 : rp_add X k' v 202 j = if j = k' then v else X 202 j := by
      unfold rp_add
      rw [cs_ne _ _ (by omega), cs_app]
      simp
    have a2 : nt_C N k' v 227 j = if j = k' then v else N 227 j := by
      unfold nt_C
      rw [cs_ne _ _ (by omega), cs_app]
      simp
    rw [a1, a2]
    by_cases e : j = k'
    · rw [if_pos e, if_pos e]
    · rw [if_neg e, if_neg e]
      exact k4 j (by omega)
theorem nE_k (h : rR X N β s p d) {k : Nat} (hk : nv N k) : nE X N (β k) k ∧ β k < 64 := ⟨(rT_2 (rR_T h) k hk).2.2, (rT_2 (rR_T h) k hk).1⟩
theorem rR_v (h : rR X N β s p d) (hp : p < 2 ^ 30) {k : Nat} (hk : nv N k) (h0 : X 201 1 = nI 0) : rR (rp_v X (bk (β k)) 0) (nt_v N k 0) β s p d := by
  obtain ⟨e, b⟩ := nE_k h hk
  unfold rp_v nt_v
  rw [e.1.1, e.2.2.2.2.1]
  exact rR_rp (rR_rp h hp h0 (by decide) _) hp (rp_k _ _ _) (by decide) _
theorem rR_m (h : rR X N β s p d) (hp : p < 2 ^ 30) {k : Nat} (hk : nv N k) (h0 : X 201 1 = nI 0) : rR (rp_m X (bk (β k)) 0) (nt_m N k 0) β s p d := by
  obtain ⟨e, b⟩ := nE_k h hk
  unfold rp_m nt_m
  rw [e.2.2.2.2.2.1]
  exact rR_rp (rR_v h hp hk h0) hp (rp_vk _ _ _) (by decide) _
/-- rights -/
theorem me_n : ∀ a, a < 4 → ∀ b, b < 4 → ((nI a * 4 + nI b) &&& 31) = (nI (4 * a + b) &&& 31) := by decide +kernel
theorem l_me (h : rM X N) {a b : Nat} (ha : a < 4) (hb : b < 4) : me_b X (nI a) (nI b) = 0 ↔ N 205 (4 * a + b) = 0 := by
  have g := (h a ha b hb).2
  unfold me_b
  by_cases e : a = b
  · rw [if_pos (by rw [e])]
    exact ⟨fun z => absurd z (by decide), fun z => absurd z (g.mpr (Or.inl e))⟩
  · rw [if_neg (by rw [nI_eq (by omega) (by omega)]; exact e), me_n a ha b hb]
    by_cases q : bt (X 131 0) (4 * a + b) = true
    · rw [if_neg (by rw [tb_and (by omega), q]; decide)]
      exact ⟨fun z => absurd z (by decide), fun z => absurd z (g.mpr (Or.inr q))⟩
    · rw [if_pos (by rw [tb_and (by omega)]; simpa using q)]
      refine ⟨fun _ => ?_, fun _ => rfl⟩
      refine Classical.byContradiction fun z => ?_
      rcases g.mp z with r | r
      · exact e r
      · exact q r
theorem l_may (hM : rM X N) (h : rT X N β s p d) {k u : Nat} (hk : nv N k) (hu : u < 4) : ma_r X (nI u) (bk (β k)) = na_r N u k := by
  obtain ⟨b1, b2, b3⟩ := rT_2 h k hk
  obtain ⟨g1, g2⟩ := (rT_12 h).2.2 k hk.1
  have e5 : X (bk (β k)) 5 = N 210 k := b3.2.2.1
  have e6 : X (bk (β k)) 6 = N 211 k := b3.2.2.2.1
  have e8 : X (bk (β k)) 8 = N 213 k := b3.2.2.2.2.2.1
  have hme := l_me hM hu g1
  rw [← g2] at hme
  unfold ma_r na_r
  rw [e5, e6, e8]
  simp only
  by_cases q1 : N 205 (4 * u + (N 211 k).toNatClampNeg) = 0
  · rw [if_pos (hme.mpr q1), if_pos q1]
    by_cases q2 : N 210 k = nI u
    · rw [if_pos q2.symm, if_pos q2]
    · rw [if_neg (fun z => q2 z.symm), if_neg q2]
  · rw [if_neg (fun z => q1 (hme.mp z)), if_neg q1]
    by_cases q2 : N 210 k = nI u
    · rw [if_pos q2.symm, if_pos q2, Int32.or_assoc, Int32.or_assoc, Int32.or_comm ((N 213 k >>> ((6 : Int32) &&& 31)) &&& 7)]
    · rw [if_neg (fun z => q2 z.symm), if_neg q2]
theorem l_my (hM : rM X N) (h : rT X N β s p d) {k u : Nat} (hk : nv N k) (hu : u < 4) (x : Int32) : my_P X (nI u) (β k) x ↔ nY N u k x := by
  unfold my_P
  rw [l_may hM h hk hu]
theorem tc_n {t : Nat} (h : t ≤ 4) : tc (if t = 0 then 0 else t + 1) = t ∧ (if t = 0 then 0 else t + 1) < 6 := by
  by_cases e : t = 0
  · rw [if_pos e, e]; decide
  · rw [if_neg e]
    unfold tc
    rw [if_neg (by omega), if_neg (by omega)]
    omega
end
