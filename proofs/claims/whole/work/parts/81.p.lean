/-! The short calls: member, say, send, flush, reply, waiting, fid. -/
/-- the invariant of the law's loop -/
def rJ (n : Nat) (C : Nat → Nat → Int32) : Prop := ∃ β s p d, rR C C β s p d ∧ p ≤ 1 + 10 * n ∧ d ≤ 1 + 200 * n
theorem i_56 (x : Int32) : x < 6 ↔ ¬ 5 < x := by
  rw [Int32.lt_iff_toInt_lt, Int32.lt_iff_toInt_lt]
  have : (6 : Int32).toInt = 6 := by decide
  have : (5 : Int32).toInt = 5 := by decide
  omega
section
variable {X N X' N' : Nat → Nat → Int32} {β : Nat → Nat} {s p d c f : Nat}
theorem rR_cong (h : rR X N β s p d) (hp : p < 2 ^ 30) (h1 : ∀ a, a < 204 → X' a = X a) (h2 : ∀ a, 204 ≤ a → N' a = N a) : rR X' N' β s p d :=
  ⟨rM_c (h1 _ (by decide)) (h2 _ (by decide)) (rR_M h), rS_c (h1 _ (by decide)) (h1 _ (by decide)) (by rw [h2 204 (by decide)]) (h2 _ (by decide)) (rR_S h), rP_c (h1 _ (by decide)) (h1 _ (by decide)) (by rw [h2 204 (by decide)]) (h2 _ (by decide)) (rR_P h),
    rQ_c (fun a ha => h1 a (by omega)) (fun a a1 a2 => h2 a (by omega)) (rR_Q h), rF_t (fun a ha => h1 a (by omega)) (fun a a1 a2 => h2 a (by omega)) (h2 _ (by decide)) (h2 _ (by decide)) (h2 _ (by decide)) hp (rR_F h),
    rT_c (fun a ha => h1 a (by omega)) (fun a a1 a2 => h2 a (by omega)) (fun j a b => by rw [h2 204 (by decide)]) (rR_T h)⟩
theorem rR_fr {C C1 : Nat → Nat → Int32} (h : rR C C β s p d) (hp : p < 2 ^ 30) (hf : fr C C1) : rR C C1 β s p d := rR_cong h hp (fun _ _ => rfl) hf
theorem rR_gr {C1 C2 : Nat → Nat → Int32} (h : rR C1 C2 β s p d) (hp : p < 2 ^ 30) (hg : gr C1 C2) : rR C2 C2 β s p d := rR_cong h hp hg (fun _ _ => rfl)
/-- changes of what is said alone -/
theorem rR_cS (h : rR X N β s p d) (hp : p < 2 ^ 30) (h1 : ∀ a, a < 204 → a ≠ 199 → a ≠ 200 → X' a = X a) (h2 : ∀ a, 204 < a → a ≠ 226 → N' a = N a) (h3 : ∀ j, j ≠ 24 → N' 204 j = N 204 j) (hS : rS X' N') : rR X' N' β s p d :=
  ⟨rM_c (h1 _ (by decide) (by decide) (by decide)) (h2 _ (by decide) (by decide)) (rR_M h), hS, rP_c (h1 _ (by decide) (by decide) (by decide)) (h1 _ (by decide) (by decide) (by decide)) (h3 _ (by decide)) (h2 _ (by decide) (by decide)) (rR_P h),
    rQ_c (fun a ha => h1 a (by omega) (by omega) (by omega)) (fun a b c => h2 a (by omega) (by omega)) (rR_Q h),
    rF_t (fun a ha => h1 a (by omega) (by omega) (by omega)) (fun a b c => h2 a (by omega) (by omega)) (h2 _ (by decide) (by decide)) (h2 _ (by decide) (by decide)) (h2 _ (by decide) (by decide)) hp (rR_F h),
    rT_c (fun a ha => h1 a (by omega) (by omega) (by omega)) (fun a b c => h2 a (by omega) (by omega)) (fun j a b => h3 j (by omega)) (rR_T h)⟩
/-- changes of the requests and of what is said -/
theorem rR_cQ (h : rR X N β s p d) (hp : p < 2 ^ 30) (h1 : ∀ a, a < 204 → a ≠ 199 → a ≠ 200 → ¬ ((142 ≤ a ∧ a < 166) ∨ (175 ≤ a ∧ a < 199)) → X' a = X a) (h2 : ∀ a, 204 < a → a ≠ 226 → ¬ (222 ≤ a ∧ a ≤ 225) → N' a = N a) (h3 : ∀ j, j ≠ 24 → N' 204 j = N 204 j) (hS : rS X' N') (hQ : rQ X' N') : rR X' N' β s p d :=
  ⟨rM_c (h1 _ (by decide) (by decide) (by decide) (by decide)) (h2 _ (by decide) (by decide) (by decide)) (rR_M h), hS, rP_c (h1 _ (by decide) (by decide) (by decide) (by decide)) (h1 _ (by decide) (by decide) (by decide) (by decide)) (h3 _ (by decide)) (h2 _ (by decide) (by decide) (by decide)) (rR_P h), hQ,
    rF_t (fun a ha => h1 a (by omega) (by omega) (by omega) (by omega)) (fun a b c => h2 a (by omega) (by omega) (by omega)) (h2 _ (by decide) (by decide) (by decide)) (h2 _ (by decide) (by decide) (by decide)) (h2 _ (by decide) (by decide) (by decide)) hp (rR_F h),
    rT_c (fun a ha => h1 a (by omega) (by omega) (by omega) (by omega)) (fun a b c => h2 a (by omega) (by omega) (by omega)) (fun j a b => h3 j (by omega)) (rR_T h)⟩
theorem q_say (h : rR X N β s p d) (hp : p < 2 ^ 30) {k : Nat} (hk : X 199 1 = nI k) (h4 : k < 4) (x : Int32) : rR (cs_C (cs_C X 200 k x) 199 1 (nI (k + 1))) (cs_C (cs_C N 226 k x) 204 24 (nI (k + 1))) β s p d := by
  obtain ⟨k', k1, k2, k3, k4⟩ := rR_S h
  have ek : k' = k := by
    rw [hk, nI_eq (by omega) (by omega)] at k2
    exact k2.symm
  subst ek
  refine rR_cS h hp (fun a _ a1 a2 => by rw [cs_row _ a1, cs_row _ a2]) (fun a a1 a2 => by rw [cs_row _ (by omega), cs_row _ a2]) (fun j hj => by rw [cs_ne _ _ (by omega), cs_ne _ _ (by omega)]) ⟨k' + 1, by omega, cs_at _ _ _ _, cs_at _ _ _ _, fun j hj => ?_⟩
  have a1 : cs_C (cs_C X 200 k' x) 199 1 (nI (k' + 1)) 200 j = if j = k' then x else X 200 j := by
    rw [cs_ne _ _ (by omega), cs_app]
    simp
  have a2 : cs_C (cs_C N 226 k' x) 204 24 (nI (k' + 1)) 226 j = if j = k' then x else N 226 j := by
    rw [cs_ne _ _ (by omega), cs_app]
    simp
  rw [a1, a2]
  by_cases e : j = k'
  · rw [if_pos e, if_pos e]
  · rw [if_neg e, if_neg e]
    exact k4 j (by omega)
theorem l_wai (h : rR X N β s p d) {t : Nat} (hc : c < 2) (ht : t < 8) : X (cn_q c t) 1 = 0 ↔ N 222 (8 * c + t) < 0 := by
  rcases rR_Q h c hc t ht with ⟨q1, q2⟩ | ⟨q1, kd, fd, k, kd1, fd1, k1, x2, x3, x4, y2, _⟩
  · exact ⟨fun _ => q2, fun _ => q1⟩
  · refine ⟨fun z => absurd z q1, fun z => absurd z ?_⟩
    rw [y2]
    exact nI_pos (by omega)
theorem rQ_up (h : rQ X N) {t : Nat} (hX : ∀ a, ((142 ≤ a ∧ a < 166) ∨ (175 ≤ a ∧ a < 199)) → ¬ (cn_q c t ≤ a ∧ a ≤ cn_q c t + 2) → X' a = X a) (hN : ∀ a j, 222 ≤ a → a ≤ 224 → j ≠ 8 * c + t → N' a j = N a j) (hN2 : ∀ j, ¬ (4 * (8 * c + t) ≤ j ∧ j < 4 * (8 * c + t) + 4) → N' 225 j = N 225 j) (hc : c < 2) (ht : t < 8)
    (hnew : (X' (cn_q c t) 1 = 0 ∧ N' 222 (8 * c + t) < 0) ∨ (¬ X' (cn_q c t) 1 = 0 ∧ rQ1 X' N' c t)) : rQ X' N' := by
  intro c' hc' t' ht'
  by_cases e : c' = c ∧ t' = t
  · rw [e.1, e.2]
    exact hnew
  · have a := h c' hc' t' ht'
    have y : (142 ≤ cn_q c' t' ∧ cn_q c' t' + 2 < 166) ∨ (175 ≤ cn_q c' t' ∧ cn_q c' t' + 2 < 199) := by unfold cn_q; omega
    have z : cn_q c' t' + 2 < cn_q c t ∨ cn_q c t + 2 < cn_q c' t' := by unfold cn_q; omega
    have w : 8 * c' + t' ≠ 8 * c + t := by omega
    unfold rQ1 at a ⊢
    rw [hX (cn_q c' t') (by omega) (by omega), hX (cn_q c' t' + 1) (by omega) (by omega), hX (cn_q c' t' + 2) (by omega) (by omega), hN 222 _ (by decide) (by decide) w, hN 223 _ (by decide) (by decide) w, hN 224 _ (by decide) (by decide) w]
    rcases a with a | ⟨a0, kd, fd, k, b1, b2, b3, b4, b5, b6, b7, b8, b9, b10⟩
    · exact Or.inl a
    · refine Or.inr ⟨a0, kd, fd, k, b1, b2, b3, b4, b5, b6, b7, b8, b9, fun j hj => ?_⟩
      rw [hN2 _ (by omega)]
      exact b10 j hj
theorem q_flush (h : rR X N β s p d) (hp : p < 2 ^ 30) {t : Nat} (hc : c < 2) (ht : t < 8) : rR (cs_C X (cn_q c t) 1 0) (cs_C N 222 (8 * c + t) (-1)) β s p d := by
  have y : (142 ≤ cn_q c t ∧ cn_q c t < 166) ∨ (175 ≤ cn_q c t ∧ cn_q c t < 199) := by unfold cn_q; omega
  refine rR_cQ h hp (fun a _ _ _ a4 => cs_row _ (fun z => a4 (z ▸ y))) (fun a _ _ a3 => cs_row _ (by omega)) (fun j _ => cs_ne _ _ (by omega)) (rS_c (cs_row _ (by omega)) (cs_row _ (by omega)) (cs_ne _ _ (by omega)) (cs_row _ (by omega)) (rR_S h)) ?_
  refine rQ_up (rR_Q h) (fun a _ a2 => cs_row _ (by omega)) (fun a j _ _ a3 => cs_ne _ _ (by omega)) (fun j _ => cs_ne _ _ (by omega)) hc ht (Or.inl ⟨cs_at _ _ _ _, ?_⟩)
  rw [cs_at]
  decide
theorem q_send (h : rR X N β s p d) (hp : p < 2 ^ 30) {t k a b : Nat} (hc : c < 2) (ht : t < 8) (hk : X 199 1 = nI k) (hk4 : k ≤ 4) (ha : a < 10) (hb : b < 6) : rR (cs_C (rq_beg X (cn_q c t) 199 k (nI a) (nI b)) 199 1 0) (nq_C N (8 * c + t) k (nI a) (nI (6 * c) + nI b)) β s p d := by
  have y : (142 ≤ cn_q c t ∧ cn_q c t + 2 < 166) ∨ (175 ≤ cn_q c t ∧ cn_q c t + 2 < 199) := by unfold cn_q; omega
  obtain ⟨k', k1, k2, k3, k4⟩ := rR_S h
  have ek : k' = k := by
    rw [hk, nI_eq (by omega) (by omega)] at k2
    exact k2.symm
  subst ek
  generalize hq : cn_q c t = q at *
  have xo : ∀ e, e ≠ 199 → ¬ (q ≤ e ∧ e ≤ q + 2) → cs_C (rq_beg X q 199 k' (nI a) (nI b)) 199 1 0 e = X e := by
    intro e e1 e2
    funext j
    unfold rq_beg
    rw [cs_ne _ _ (by omega), cs_ne _ _ (by omega)]
    unfold rw_cp
    rw [if_neg (by omega), if_neg (by omega), cs_ne _ _ (by omega), cs_ne _ _ (by omega)]
  have x1 : cs_C (rq_beg X q 199 k' (nI a) (nI b)) 199 1 0 q 1 = 1 := by
    unfold rq_beg
    rw [cs_ne _ _ (by omega), cs_at]
  have x2 : cs_C (rq_beg X q 199 k' (nI a) (nI b)) 199 1 0 q 2 = nI a := by
    unfold rq_beg
    rw [cs_ne _ _ (by omega), cs_ne _ _ (by omega)]
    unfold rw_cp
    rw [if_neg (by omega), if_neg (by omega), cs_ne _ _ (by omega), cs_at]
  have x3 : cs_C (rq_beg X q 199 k' (nI a) (nI b)) 199 1 0 q 3 = nI b := by
    unfold rq_beg
    rw [cs_ne _ _ (by omega), cs_ne _ _ (by omega)]
    unfold rw_cp
    rw [if_neg (by omega), if_neg (by omega), cs_at]
  have x4 : cs_C (rq_beg X q 199 k' (nI a) (nI b)) 199 1 0 (q + 1) 1 = nI k' := by
    unfold rq_beg
    rw [cs_ne _ _ (by omega), cs_ne _ _ (by omega)]
    unfold rw_cp
    rw [if_pos ⟨rfl, rfl⟩]
  have x5 : ∀ j, j < k' → cs_C (rq_beg X q 199 k' (nI a) (nI b)) 199 1 0 (q + 2) j = X 200 j := by
    intro j hj
    unfold rq_beg
    rw [cs_ne _ _ (by omega), cs_ne _ _ (by omega)]
    unfold rw_cp
    rw [if_neg (by omega), if_pos ⟨rfl, hj⟩, cs_ne _ _ (by omega), cs_ne _ _ (by omega)]
  have no : ∀ e j, ¬ (222 ≤ e ∧ e ≤ 224 ∧ j = 8 * c + t) → ¬ (e = 225 ∧ 4 * (8 * c + t) ≤ j ∧ j < 4 * (8 * c + t) + 4) → ¬ (e = 204 ∧ j = 24) → nq_C N (8 * c + t) k' (nI a) (nI (6 * c) + nI b) e j = N e j := by
    intro e j e1 e2 e3
    unfold nq_C
    rw [cs_ne _ _ e3]
    unfold nq_n
    rw [if_neg (by omega), cs_ne _ _ (by omega), cs_ne _ _ (by omega), cs_ne _ _ (by omega)]
  have y2 : nq_C N (8 * c + t) k' (nI a) (nI (6 * c) + nI b) 222 (8 * c + t) = nI a := by
    unfold nq_C
    rw [cs_ne _ _ (by omega)]
    unfold nq_n
    rw [if_neg (by omega), cs_ne _ _ (by omega), cs_ne _ _ (by omega), cs_at]
  have y3 : nq_C N (8 * c + t) k' (nI a) (nI (6 * c) + nI b) 223 (8 * c + t) = nI (6 * c + b) := by
    unfold nq_C
    rw [cs_ne _ _ (by omega)]
    unfold nq_n
    rw [if_neg (by omega), cs_ne _ _ (by omega), cs_at, nI_add]
  have y4 : nq_C N (8 * c + t) k' (nI a) (nI (6 * c) + nI b) 224 (8 * c + t) = nI k' := by
    unfold nq_C
    rw [cs_ne _ _ (by omega)]
    unfold nq_n
    rw [if_neg (by omega), cs_at]
  have y5 : ∀ j, j < k' → nq_C N (8 * c + t) k' (nI a) (nI (6 * c) + nI b) 225 (4 * (8 * c + t) + j) = N 226 j := by
    intro j hj
    unfold nq_C
    rw [cs_ne _ _ (by omega)]
    unfold nq_n
    rw [if_pos ⟨rfl, by omega, by omega⟩, cs_ne _ _ (by omega), cs_ne _ _ (by omega), cs_ne _ _ (by omega)]
    congr 1
    omega
  have y6 : nq_C N (8 * c + t) k' (nI a) (nI (6 * c) + nI b) 204 24 = 0 := by
    unfold nq_C
    rw [cs_at]
  have z1 : cs_C (rq_beg X q 199 k' (nI a) (nI b)) 199 1 0 199 1 = 0 := cs_at _ _ _ _
  generalize cs_C (rq_beg X q 199 k' (nI a) (nI b)) 199 1 0 = X' at *
  generalize nq_C N (8 * c + t) k' (nI a) (nI (6 * c) + nI b) = N' at *
  refine rR_cQ h hp (fun e _ e1 e2 e3 => xo e e1 (by omega)) (fun e e1 e2 e3 => funext fun j => no e j (by omega) (by omega) (by omega)) (fun j hj => no 204 j (by omega) (by omega) (by omega)) ⟨0, by decide, z1, y6, fun j hj => by omega⟩ ?_
  refine rQ_up (rR_Q h) (fun e e1 e2 => xo e (by omega) (by omega)) (fun e j e1 e2 e3 => no e j (by omega) (by omega) (by omega)) (fun j hj => no 225 j (by omega) (by omega) (by omega)) hc ht (Or.inr ⟨?_, a, b, k', ha, hb, hk4, ?_, ?_, ?_, y2, y3, y4, fun j hj => ?_⟩)
  · rw [hq, x1]
    decide
  · rw [hq]; exact x2
  · rw [hq]; exact x3
  · rw [hq]; exact x4
  · rw [hq, x5 j hj, y5 j hj]
    exact k4 j hj
theorem q_member (h : rR X N β s p d) (hp : p < 2 ^ 30) {u g : Nat} (hu : u < 4) (hg : g < 4) : rR (xm_C X (nI u) (nI g)) (cs_C N 205 (4 * u + g) 1) β s p d := by
  have xr : ∀ a, a ≠ 131 → xm_C X (nI u) (nI g) a = X a := fun a ha => cs_row _ ha
  have nr : ∀ a, a ≠ 205 → cs_C N 205 (4 * u + g) 1 a = N a := fun a ha => cs_row _ ha
  refine ⟨fun a ha b hb => ?_, rS_c (xr _ (by decide)) (xr _ (by decide)) (by rw [nr _ (by decide)]) (nr _ (by decide)) (rR_S h), rP_c (xr _ (by decide)) (xr _ (by decide)) (by rw [nr _ (by decide)]) (nr _ (by decide)) (rR_P h), rQ_c (fun a ha => xr a (by omega)) (fun a a1 a2 => nr a (by omega)) (rR_Q h), rF_t (fun a ha => xr a (by omega)) (fun a a1 a2 => nr a (by omega)) (nr _ (by decide)) (nr _ (by decide)) (nr _ (by decide)) hp (rR_F h), rT_c (fun a ha => xr a (by omega)) (fun a a1 a2 => nr a (by omega)) (fun j a b => by rw [nr _ (by decide)]) (rR_T h)⟩
  obtain ⟨m1, m2⟩ := rR_M h a ha b hb
  have e : bt (xm_C X (nI u) (nI g) 131 0) (4 * a + b) = (bt (X 131 0) (4 * a + b) || decide (4 * a + b = 4 * u + g)) := by
    unfold xm_C
    rw [cs_at, me_n u hu g hg, tb_or (by omega) (by omega)]
  rw [e, cs_app]
  by_cases q : 4 * a + b = 4 * u + g
  · rw [if_pos ⟨rfl, q⟩]
    refine ⟨Or.inr rfl, ?_⟩
    constructor
    · intro _
      exact Or.inr (by simp [q])
    · intro _
      decide
  · rw [if_neg (fun z => q z.2)]
    refine ⟨m1, ?_⟩
    rw [m2]
    simp [q]
theorem q_reply (h : rR X N β s p d) (x : Int32) : ∃ r, r ≤ 16 ∧ N 204 26 = nI r ∧ (if x = -1 then X 201 1 else rw_at X 201 8 x) = (if x = -1 then nI r else if ¬ x < 0 ∧ x < nI r then N 227 x.toNatClampNeg else 0) := by
  obtain ⟨k, k1, k2, k3, k4⟩ := rR_P h
  refine ⟨k, by omega, k3, ?_⟩
  rw [k2]
  by_cases q : x = -1
  · rw [if_pos q, if_pos q]
  · rw [if_neg q, if_neg q]
    unfold rw_at
    rw [k2]
    by_cases q2 : ¬ x < 0 ∧ x < nI k
    · obtain ⟨y, y1, y2⟩ := nI_of q2.1
      have z := q2.2
      rw [y2, nI_ltI y1 (by omega)] at z
      have q3 : 0 ≤ x ∧ x < nI k ∧ x < nI 8 := by
        refine ⟨nx_le0 q2.1, q2.2, ?_⟩
        rw [y2, nI_ltI y1 (by decide)]
        omega
      rw [if_pos q2, if_pos q3, y2, nI_clamp y1]
      exact k4 y z
    · rw [if_neg q2, if_neg (fun z => q2 ⟨Int32.not_lt.mpr z.1, z.2.1⟩)]
theorem q_waiting (h : rR X N β s p d) (hc : c < 2) : fx_c (fun t => decide (¬ X (cn_q c t) 1 = 0)) 8 0 = fx_c (fun r => decide (¬ N 222 r < 0)) 8 (8 * c) := by
  rw [fx_c_sh (fun r => decide (¬ N 222 r < 0)) 8 (8 * c)]
  refine fx_c_cg 8 0 (fun t _ ht => ?_)
  have := l_wai h hc (show t < 8 by omega)
  simp only [this]
theorem q_fid (h : rR X N β s p d) (hc : c < 2) (hf : f < 6) : xf_v X (cn_f c f) = nf_v N (6 * c + f) := by
  obtain ⟨t, t1, t2, t3, u1, u2, u3⟩ := f_view h hc hf
  unfold xf_v nf_v
  by_cases q : X (cn_f c f) 0 = 0
  · rw [if_pos q, if_pos (u1.mp q)]
  · rw [if_neg q, if_neg (fun z => q (u1.mpr z))]
    have ez : X (cn_f c f) 3 = 0 ↔ N 218 (6 * c + f) = 0 := by
      rw [t2, t3, show (0 : Int32) = nI 0 from rfl, nI_eq (by omega) (by omega), nI_eq (by split <;> omega) (by omega)]
      by_cases e : t = 0
      · simp [e]
      · simp [e]
    simp only [(u3 q).2.1, ez]
end
