/-! Every call of the law's loop leads from the invariant to the invariant. -/
theorem lp_ok (E : mm_En) (hE : st_ok E) : lp_I E rJ := by
  intro n C hn hJ
  obtain ⟨β, s, p, d, h, hp, hd⟩ := hJ
  have p30 : p < 2 ^ 30 := by omega
  have p20 : p < 2 ^ 20 := by omega
  have p19 : p < 2 ^ 19 := by omega
  have d20 : d ≤ 2 ^ 20 := by omega
  have d19 : d ≤ 2 ^ 19 := by omega
  have fin : ∀ {C' : Nat → Nat → Int32} {β' : Nat → Nat} {s' p' d' : Nat}, rR C' C' β' s' p' d' → p' ≤ p + 10 → d' ≤ d + 200 → rJ (n + 1) C' := fun r r1 r2 => ⟨_, _, _, _, r, by omega, by omega⟩
  have same : rJ (n + 1) C := fin h (by omega) (by omega)
  obtain ⟨s1, s2, s4, _⟩ := rT_9 (rR_T h)
  refine ⟨same, ?_, ?_, ?_, ?_, ?_, ?_, ?_, ?_, ?_, ?_, ?_, ?_, ?_, ?_⟩
  · -- member
    intro a b
    rcases ix_or a (n := 4) (by decide) with ⟨u, u1, u2⟩ | hx
    · rcases ix_or b (n := 4) (by decide) with ⟨g, g1, g2⟩ | hx
      · subst u2
        subst g2
        have h01 := (rR_M h u u1 g g1).1
        have hme := l_me (rR_M h) u1 g1
        by_cases q : C 205 (4 * u + g) = 0
        · have hok : xm_ok C (nI u) (nI g) := ⟨⟨nI_pos (by omega), by rw [show (4 : Int32) = nI 4 from rfl, nI_leI (by decide) (by omega)]; omega⟩, ⟨nI_pos (by omega), by rw [show (4 : Int32) = nI 4 from rfl, nI_leI (by decide) (by omega)]; omega⟩, hme.mpr q⟩
          have hf : fr C (xm_C C (nI u) (nI g)) := fr_cs fr_r (by decide)
          have e5 : xm_C C (nI u) (nI g) 205 (4 * u + g) = C 205 (4 * u + g) := by rw [hf 205 (by decide)]
          have ref := ct_N_member E (xm_C C (nI u) (nI g)) u1 g1 (by rw [e5]; exact h01)
          rw [if_pos (by rw [e5]; exact q)] at ref
          exact ⟨1, _, _, ct_X_memberT E C _ _ hok, ref, fin (rR_gr (q_member (rR_fr h p30 hf) p30 u1 g1) p30 (gr_cs gr_r (by decide))) (by omega) (by omega)⟩
        · have hok : ¬ xm_ok C (nI u) (nI g) := fun z => q (hme.mp z.2.2)
          have ref := ct_N_member E C u1 g1 h01
          rw [if_neg q] at ref
          exact ⟨0, _, _, ct_X_memberF E C _ _ hok, ref, same⟩
      · have hok : ¬ xm_ok C a b := fun z => hx.elim z.2.1.1 z.2.1.2
        exact ⟨0, _, _, ct_X_memberF E C _ _ hok, ct_N_memberF E C (Or.inr hx), same⟩
    · have hok : ¬ xm_ok C a b := fun z => hx.elim z.1.1 z.1.2
      exact ⟨0, _, _, ct_X_memberF E C _ _ hok, ct_N_memberF E C (Or.inl hx), same⟩
  · -- say
    intro a
    obtain ⟨k, k1, k2, k3, _⟩ := rR_S h
    have cls := ct_X_say E C k2 k1 a
    by_cases q : k < 4
    · rw [b2_t q, if_pos q] at cls
      have hf : fr C (cs_C (cs_C C 200 k a) 199 1 (nI (k + 1))) := fr_cs (fr_cs fr_r (by decide)) (by decide)
      exact ⟨1, _, _, cls, ct_N_say E _ (by rw [hf 204 (by decide)]; exact k3) q a, fin (rR_gr (q_say (rR_fr h p30 hf) p30 k2 q a) p30 (gr_cs (gr_cs gr_r (by decide)) (by decide))) (by omega) (by omega)⟩
    · rw [b2_f q, if_neg q] at cls
      have e : k = 4 := by omega
      exact ⟨0, _, _, cls, ct_N_sayF E C (by rw [k3, e]) a, same⟩
  · -- send
    intro a b kd f
    have out : (∀ c t : Nat, c < 2 → t < 8 → a = nI c → b = nI t → False) → (a < 0 ∨ 2 ≤ a) ∨ (b < 0 ∨ 8 ≤ b) → lp_V E rJ K_X_send K_N_send n C [.int a, .int b, .int kd, .int f] := by
      intro z hx
      exact ⟨0, _, _, ct_X_sendN E C hx kd f, ct_N_sendF E C a b kd f (fun c t c1 t1 e1 e2 => (z c t c1 t1 e1 e2).elim), same⟩
    rcases ix_or a (n := 2) (by decide) with ⟨c, c1, c2⟩ | hx
    · rcases ix_or b (n := 8) (by decide) with ⟨t, t1, t2⟩ | hx
      · subst c2
        subst t2
        obtain ⟨k, k1, k2, k3, _⟩ := rR_S h
        have cls := ct_X_send E C c1 t1 k2 k1 kd f
        have hw := l_wai h c1 t1
        by_cases q : xd_ok C (cn_q c t) kd f
        · unfold xd_C at cls
          rw [b3_t q, it_t q] at cls
          obtain ⟨y, y1, y2⟩ := nI_of q.2.1
          obtain ⟨z, z1, z2⟩ := nI_of q.2.2.2.1
          subst y2
          subst z2
          have y3 := q.2.2.1
          rw [show (9 : Int32) = nI 9 from rfl, nI_ltI (by decide) y1] at y3
          have z3 := q.2.2.2.2
          rw [show (6 : Int32) = nI 6 from rfl, nI_ltI z1 (by decide)] at z3
          have q5 : ¬ 5 < nI z := (i_56 _).mp q.2.2.2.2
          have hf : fr C (cs_C (rq_beg C (cn_q c t) 199 k (nI y) (nI z)) 199 1 0) := fr_send c1 t1
          exact ⟨1, _, _, cls, ct_N_send E _ c1 t1 (by rw [hf 204 (by decide)]; exact k3) k1 (nI y) (nI z) ⟨q.2.1, q.2.2.1, q.2.2.2.1, q5, by rw [hf 222 (by decide)]; exact hw.mp q.1⟩, fin (rR_gr (q_send (rR_fr h p30 hf) p30 c1 t1 k2 k1 (by omega) (by omega)) p30 gr_send) (by omega) (by omega)⟩
        · unfold xd_C at cls
          rw [b3_f q, it_f q] at cls
          refine ⟨0, _, _, cls, ct_N_sendF E C _ _ kd f (fun c' t' c1' t1' e1 e2 z => q ?_), same⟩
          have e1' : c' = c := by
            rw [nI_eq (by omega) (by omega)] at e1
            exact e1.symm
          have e2' : t' = t := by
            rw [nI_eq (by omega) (by omega)] at e2
            exact e2.symm
          subst e1'
          subst e2'
          exact ⟨hw.mpr z.2.2.2.2, z.1, z.2.1, z.2.2.1, (i_56 f).mpr z.2.2.2.1⟩
      · refine out (fun c' t' _ t1 _ e2 => ?_) (Or.inr hx)
        rcases hx with z | z
        · rw [e2] at z
          exact nI_pos (by omega) z
        · rw [e2, nI_leI (by decide) (by omega)] at z
          omega
    · refine out (fun c' t' c1 _ e1 _ => ?_) (Or.inl hx)
      rcases hx with z | z
      · rw [e1] at z
        exact nI_pos (by omega) z
      · rw [e1, nI_leI (by decide) (by omega)] at z
        omega
  · -- serve
    intro a b
    rcases ix_or a (n := 2) (by decide) with ⟨c, c1, c2⟩ | hx
    · rcases ix_or b (n := 8) (by decide) with ⟨t0, t1, t2⟩ | hx
      · subst c2
        subst t2
        obtain ⟨kd, fd, k, t, g1, g2⟩ := q_pick h c1 t1
        have hf : fr C (xS_R C c t0 kd fd k).2 := fr_xS c1 t1 (fun z => (g1 z).2.1)
        have hR := rR_fr h p30 hf
        obtain ⟨r1, r2, β', p', d', r3, r4, r5⟩ := q_serve2 hR p20 d20 c1 t1 g1 g2
        have ref := ct_N_serve E (xS_R C c t0 kd fd k).2 c1 t1 (r_nw hR) r1
        rw [← r2] at ref
        exact ⟨_, _, _, ct_X_serve E hE C c1 t1 g1 (r_iv h), ref, fin (rR_gr r3 (by omega) gr_nZ) (by omega) (by omega)⟩
      · exact ⟨_, _, _, ct_X_serveN E C (Or.inr hx), ct_N_serveN E C (Or.inr hx), same⟩
    · exact ⟨_, _, _, ct_X_serveN E C (Or.inl hx), ct_N_serveN E C (Or.inl hx), same⟩
  · -- flush
    intro a b
    rcases ix_or a (n := 2) (by decide) with ⟨c, c1, c2⟩ | hx
    · rcases ix_or b (n := 8) (by decide) with ⟨t, t1, t2⟩ | hx
      · subst c2
        subst t2
        have hw := l_wai h c1 t1
        have cls := ct_X_flush E C c1 t1
        by_cases q : C (cn_q c t) 1 = 0
        · have ref := ct_N_flush E C c1 t1
          rw [if_pos (hw.mp q), b2_f (fun z => z (hw.mp q))] at ref
          rw [if_pos q, b2_f (fun z => z q)] at cls
          exact ⟨0, _, _, cls, ref, same⟩
        · have hq : cn_q c t < 204 := by unfold cn_q; omega
          have hf : fr C (cs_C C (cn_q c t) 1 0) := fr_cs fr_r hq
          have q2 : ¬ cs_C C (cn_q c t) 1 0 222 (8 * c + t) < 0 := by
            rw [hf 222 (by decide)]
            exact fun z => q (hw.mpr z)
          have ref := ct_N_flush E (cs_C C (cn_q c t) 1 0) c1 t1
          rw [if_neg q2, b2_t q2] at ref
          rw [if_neg q, b2_t q] at cls
          exact ⟨1, _, _, cls, ref, fin (rR_gr (q_flush (rR_fr h p30 hf) p30 c1 t1) p30 (gr_cs gr_r (by decide))) (by omega) (by omega)⟩
      · exact ⟨_, _, _, ct_X_flushN E C (Or.inr hx), ct_N_flushN E C (Or.inr hx), same⟩
    · exact ⟨_, _, _, ct_X_flushN E C (Or.inl hx), ct_N_flushN E C (Or.inl hx), same⟩
  · -- hangUp
    intro a
    rcases ix_or a (n := 2) (by decide) with ⟨c, c1, c2⟩ | hx
    · subst c2
      have hf : fr C (hu_f C c 6) := fr_hu c1 6 (Nat.le_refl _)
      have hR := rR_fr h p30 hf
      obtain ⟨β', p', d', r1, r2, r3, _⟩ := q_hang hR p19 d19 c1 6 (Nat.le_refl _)
      exact ⟨1, _, _, ct_X_hangUp E C c1 ((r_iv h).2.1 c c1), ct_N_hangUp E (hu_f C c 6) c1 (q_hangN hR p19 d19 c1), fin (rR_gr r1 (by omega) (gr_nH 6)) (by omega) (by omega)⟩
    · exact ⟨_, _, _, ct_X_hangUpN E C hx, ct_N_hangUpN E C hx, same⟩
  · -- reply
    intro a
    obtain ⟨r, r1, r2, r3⟩ := q_reply h a
    have cls := ct_X_reply E C a
    rw [r3] at cls
    exact ⟨_, _, _, cls, ct_N_reply E C r2 r1 a, same⟩
  · -- waiting
    intro a
    rcases ix_or a (n := 2) (by decide) with ⟨c, c1, c2⟩ | hx
    · subst c2
      have cls := ct_X_waiting E C c1
      rw [q_waiting h c1] at cls
      exact ⟨_, _, _, cls, ct_N_waiting E C c1, same⟩
    · exact ⟨_, _, _, ct_X_waitingN E C hx, ct_N_waitingN E C hx, same⟩
  · -- fid
    intro a b
    rcases ix_or a (n := 2) (by decide) with ⟨c, c1, c2⟩ | hx
    · rcases ix_or b (n := 6) (by decide) with ⟨f, f1, f2⟩ | hx
      · subst c2
        subst f2
        have cls := ct_X_fid E C c1 f1
        rw [q_fid h c1 f1] at cls
        exact ⟨_, _, _, cls, ct_N_fid E C c1 f1, same⟩
      · exact ⟨_, _, _, ct_X_fidN E C (Or.inr hx), ct_N_fidN E C (Or.inr hx), same⟩
    · exact ⟨_, _, _, ct_X_fidN E C (Or.inl hx), ct_N_fidN E C (Or.inl hx), same⟩
  · -- sync
    intro a
    have hf : fr C (xs_C C a) := fr_xs
    have hR := rR_fr h p30 hf
    obtain ⟨r1, β', r2⟩ := q_sync hR p30 a
    have ref := ct_N_sync E (xs_C C a) (rT_nm (rR_T hR)) (rT_9 (rR_T hR)).2.1 s4 a
    rw [← r1] at ref
    exact ⟨_, _, _, ct_X_sync E C a, ref, fin (rR_gr r2 p30 gr_nS) (by omega) (by omega)⟩
  · -- snapshot
    have cls := ct_X_snapshot E C s1 s4
    by_cases q : s < 4
    · rw [if_pos q, if_pos q] at cls
      have hf : fr C (sa_C (so_ct C 0 5 64) s) := fr_sa
      have hR := rR_fr h p30 hf
      have ref := ct_N_snapshot E (sa_C (so_ct C 0 5 64) s) (rT_nm (rR_T hR)) (rT_9 (rR_T hR)).2.1 s4
      rw [if_pos q, if_pos q] at ref
      obtain ⟨β', r1⟩ := q_snap hR p30 q
      exact ⟨_, _, _, cls, ref, fin (rR_gr r1 p30 gr_nV) (by omega) (by omega)⟩
    · rw [if_neg q, if_neg q] at cls
      have ref := ct_N_snapshot E C (rT_nm (rR_T h)) s2 s4
      rw [if_neg q, if_neg q] at ref
      exact ⟨_, _, _, cls, ref, same⟩
  · -- crash
    have hf : fr C (xc_C C) := fr_xc
    have hR := rR_fr h p30 hf
    exact ⟨_, _, ct_X_crash E C, ct_N_crash E (xc_C C) (rT_nm (rR_T hR)), fin (rR_gr (q_crash hR) p30 gr_nr) (by omega) (by omega)⟩
  · -- blocks
    have cls := ct_X_blocks E C
    rw [l_nb (rR_T h)] at cls
    exact ⟨_, _, _, cls, ct_N_blocks E C (rT_nm (rR_T h)) s2 s4, same⟩
  · -- nodes
    have cls := ct_X_nodes E C
    rw [q_nodes h] at cls
    exact ⟨_, _, _, cls, ct_N_nodes E C, same⟩
