/-! What the law's loop wants: more frames, serving with given numbers. -/
section
variable {X N C : Nat → Nat → Int32} {β : Nat → Nat} {s p d : Nat}
theorem fr_ct {f t : Nat} : fr C (so_ct C f t 64) := fun a ha => funext fun j => so_ct2 _ (by omega)
theorem fr_xc : fr C (xc_C C) := fun a ha => (xc_o C).2.2.2.2.2.2 a ha
theorem gr_ct {f t : Nat} : gr C (ct_C C f t) := by
  intro a ha
  funext j
  unfold ct_C ct_n
  rw [if_neg (by omega), if_neg (by omega), cs_ne _ _ (by omega)]
theorem gr_nf : gr C (nf_C C) := fun a ha => (nf_o C).1 a (by omega) (by omega) (by omega)
theorem gr_nr : gr C (nr_C C) := gr_t gr_ct gr_nf
theorem fr_hu {c : Nat} (hc : c < 2) : ∀ n, n ≤ 6 → fr C (hu_f C c n) := by
  intro n
  induction n with
  | zero =>
    intro _ a ha
    funext j
    show cn_dq C c 8 a j = C a j
    unfold cn_dq
    rw [if_neg (by omega)]
  | succ n ih =>
    intro hn
    exact fr_t (ih (by omega)) (fr_xk (fr_f hc (by omega)))
theorem gr_nH {c : Nat} : ∀ n, gr C (nH_f C c s n) := by
  intro n
  induction n with
  | zero =>
    intro a ha
    funext j
    show nf_2 C 222 (8 * c) (8 * c + 8) a j = C a j
    unfold nf_2
    rw [if_neg (by omega)]
  | succ n ih => exact gr_t ih gr_nK
theorem fr_xs {x : Int32} : fr C (xs_C C x) := by
  unfold xs_C
  split
  · exact fr_ct
  · split
    · exact fr_t fr_ct fr_xc
    · exact fr_xc
theorem gr_nS {x : Int32} : gr C (nS_C C s x) := by
  unfold nS_C
  split
  · exact gr_ct
  · split
    · exact gr_t gr_ct gr_nr
    · exact gr_nr
theorem fr_sa : fr C (sa_C (so_ct C 0 5 64) s) := fr_t (fr_t fr_ct (fr_cs fr_r (by decide))) fr_ct
theorem gr_nV : gr C (nV_C C s) := gr_cs (gr_t gr_ct gr_ct) (by decide)
theorem fr_send {c t k : Nat} {kd f : Int32} (hc : c < 2) (ht : t < 8) : fr C (cs_C (rq_beg C (cn_q c t) 199 k kd f) 199 1 0) := by
  have hq : cn_q c t < 200 := by unfold cn_q; omega
  refine fr_cs (fr_cs ?_ (by omega)) (by decide)
  intro a ha
  funext j
  unfold rw_cp
  rw [if_neg (by omega), if_neg (by omega), cs_ne _ _ (by omega), cs_ne _ _ (by omega)]
theorem gr_send {r k : Nat} {kd f : Int32} : gr C (nq_C C r k kd f) := by
  refine gr_cs ?_ (by decide)
  intro a ha
  funext j
  unfold nq_n
  rw [if_neg (by omega), cs_ne _ _ (by omega), cs_ne _ _ (by omega), cs_ne _ _ (by omega)]
/-- the numbers of a request that waits -/
theorem q_pick (h : rR X N β s p d) {c t0 : Nat} (hc : c < 2) (ht0 : t0 < 8) : ∃ kd fd k t, (¬ X (cn_q c t0) 1 = 0 → kd < 10 ∧ fd < 6 ∧ X (cn_q c t0) 2 = nI kd ∧ X (cn_q c t0) 3 = nI fd ∧ X (cn_q c t0 + 1) 1 = nI k ∧ k ≤ 4) ∧ (¬ X (cn_q c t0) 1 = 0 → ∃ t1, t1 ≤ 4 ∧ X (cn_f c fd) 3 = nI t1 ∧ t = if t1 = 0 then 0 else t1 + 1) := by
  rcases rR_Q h c hc t0 ht0 with ⟨q1, q2⟩ | ⟨q1, kd, fd, k, kd1, fd1, k1, x2, x3, x4, _⟩
  · exact ⟨0, 0, 0, 0, fun z => absurd q1 z, fun z => absurd q1 z⟩
  · obtain ⟨t, t1, t2, _⟩ := rR_F h c hc fd fd1
    exact ⟨kd, fd, k, _, fun _ => ⟨kd1, fd1, x2, x3, x4, k1⟩, fun _ => ⟨t, t1, t2, rfl⟩⟩
theorem q_serve2 (h : rR X N β s p d) (hp : p < 2 ^ 20) (hd : d ≤ 2 ^ 20) {c t0 kd fd k t : Nat} (hc : c < 2) (ht0 : t0 < 8) (hx : ¬ X (cn_q c t0) 1 = 0 → kd < 10 ∧ fd < 6 ∧ X (cn_q c t0) 2 = nI kd ∧ X (cn_q c t0) 3 = nI fd ∧ X (cn_q c t0 + 1) 1 = nI k ∧ k ≤ 4) (ht : ¬ X (cn_q c t0) 1 = 0 → ∃ t1, t1 ≤ 4 ∧ X (cn_f c fd) 3 = nI t1 ∧ t = if t1 = 0 then 0 else t1 + 1) : (¬ N 222 (8 * c + t0) < 0 → kd < 10 ∧ N 222 (8 * c + t0) = nI kd ∧ N 223 (8 * c + t0) = nI (6 * c + fd) ∧ N 224 (8 * c + t0) = nI k ∧ k ≤ 4 ∧ nu_P N (6 * c + fd) t) ∧ (xS_R X c t0 kd fd k).1 = (nZ_R N (8 * c + t0) kd (6 * c + fd) t s k).1 ∧ ∃ β' p' d', rR (xS_R X c t0 kd fd k).2 (nZ_R N (8 * c + t0) kd (6 * c + fd) t s k).2 β' s p' d' ∧ p' ≤ p + 1 ∧ d' ≤ d + 22 := by
  by_cases q : X (cn_q c t0) 1 = 0
  · have q2 := (l_wai h hc ht0).mp q
    refine ⟨fun z => absurd q2 z, ?_⟩
    unfold xS_R nZ_R
    rw [if_pos q, if_pos q2]
    exact ⟨rfl, β, p, d, h, by omega, by omega⟩
  · obtain ⟨kd', fd', k', t', g1, g2, g3, g4⟩ := q_serve h hp hd hc ht0
    obtain ⟨b1, b2, b3, b4, b5, b6⟩ := hx q
    obtain ⟨c1, c2, c3, c4, c5, c6⟩ := g1 q
    have q2 : ¬ N 222 (8 * c + t0) < 0 := fun z => q ((l_wai h hc ht0).mpr z)
    have e1 : kd' = kd := by
      rw [b3, nI_eq (by omega) (by omega)] at c3
      exact c3.symm
    have e2 : fd' = fd := by
      rw [b4, nI_eq (by omega) (by omega)] at c4
      exact c4.symm
    have e3 : k' = k := by
      rw [b5, nI_eq (by omega) (by omega)] at c5
      exact c5.symm
    subst e1
    subst e2
    subst e3
    obtain ⟨t1, t2, t3, t4⟩ := ht q
    have e4 : t' = t := by
      have a := (g2 q2).2.2.2.2.2
      have b := r_nu h hc b2 t2 t3
      have e := a.2.2.1.symm.trans b.2.2.1
      rw [nI_eq (by have := a.2.1; omega) (by split <;> omega)] at e
      rw [e, t4]
    subst e4
    exact ⟨g2, g3, g4⟩
end
