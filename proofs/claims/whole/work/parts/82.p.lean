/-! The long calls: hangUp, sync, snapshot, crash. -/
section
variable {X N X' N' : Nat → Nat → Int32} {β : Nat → Nat} {s p d c f : Nat}
/-- what clunk leaves -/
theorem xr_row {u : Int32} {t : Nat} {q : Int32} {a : Nat} (ha : 131 ≤ a) : (xr_R X u t q).2 a = X a := by
  unfold xr_R
  split
  · rfl
  · rename_i i hi
    split
    · rfl
    · split
      · rfl
      · rename_i e he
        rcases Classical.em (my_P X u e 2) with z | z
        · rw [it_t z]
          split
          · rfl
          · split
            · have e64 := so_abi_lt he
              have o64 := ob_i_lt (C := X) e64
              have i64 := so_i_lt hi
              show xr_fin X i e a = X a
              unfold xr_fin bl_lv
              rw [cs_row _ (by unfold bk; omega), cs_row _ (by unfold bk; omega), cg_row e64 (Or.inr ha)]
            · rfl
        · rw [it_f z]
theorem xk_row {F t a j : Nat} (ha : 131 ≤ a) (hj : 2 ≤ j) : (xk_R X F t).2 a j = X a j := by
  have fre : fi_free X F a j = X a j := by
    unfold fi_free
    rw [cs_ne _ _ (by omega), cs_ne _ _ (by omega)]
  unfold xk_R
  split
  · rfl
  · split
    · show (xr_R (fi_free X F) (X F 2) t (X F 4)).2 a j = X a j
      rw [xr_row ha]
      exact fre
    · exact fre
theorem nR_row {u t : Nat} {q : Int32} {s : Nat} : (nR_R N u t q s).2 218 = N 218 := by
  unfold nR_R
  split
  · rfl
  · split
    · rfl
    · split
      · rfl
      · split
        · split
          · rfl
          · split
            · rename_i k _ _ _ _ _ _
              show nR_C N s k 218 = N 218
              unfold nR_C nR_D
              rw [sh_row _ _ (by omega), cs_row _ (by omega), cs_row _ (by omega), nx_Cc N s _ (by omega) (by omega)]
            · rfl
        · rfl
theorem nK_row {g t s : Nat} : (nK_R N g t s).2 218 = N 218 := by
  unfold nK_R
  split
  · rfl
  · split
    · show (nR_R (cs_C N 217 g (-1)) (nus N g) t (N 219 g) s).2 218 = N 218
      rw [nR_row, cs_row _ (by omega)]
    · show cs_C N 217 g (-1) 218 = N 218
      rw [cs_row _ (by omega)]
/-- no request waits -/
theorem rR_dq (h : rR X N β s p d) (hp : p < 2 ^ 30) (hc : c < 2) : rR (cn_dq X c 8) (nf_2 N 222 (8 * c) (8 * c + 8)) β s p d := by
  have xr : ∀ a j, ¬ (j = 1 ∧ 133 + 33 * c + 9 ≤ a ∧ a < 133 + 33 * c + 9 + 3 * 8) → cn_dq X c 8 a j = X a j := by
    intro a j h1
    unfold cn_dq
    rw [if_neg (by omega)]
  have nr : ∀ a j, ¬ (a = 222 ∧ 8 * c ≤ j ∧ j < 8 * c + 8) → nf_2 N 222 (8 * c) (8 * c + 8) a j = N a j := by
    intro a j h1
    unfold nf_2
    rw [if_neg h1]
  refine rR_cQ h hp (fun a a0 a1 a2 a3 => funext fun j => xr a j (by omega)) (fun a a1 a2 a3 => funext fun j => nr a j (by omega)) (fun j hj => nr _ _ (by omega)) (rS_c (funext fun j => xr _ j (by omega)) (funext fun j => xr _ j (by omega)) (nr _ _ (by omega)) (funext fun j => nr _ j (by omega)) (rR_S h)) ?_
  intro c' hc' t' ht'
  by_cases e : c' = c
  · subst e
    refine Or.inl ⟨?_, ?_⟩
    · unfold cn_dq
      rw [if_pos (by unfold cn_q; omega)]
    · unfold nf_2
      rw [if_pos ⟨rfl, by omega, by omega⟩]
      decide
  · have a := rR_Q h c' hc' t' ht'
    have z : ∀ j, cn_dq X c 8 (cn_q c' t') j = X (cn_q c' t') j := fun j => xr _ _ (by unfold cn_q; omega)
    have z1 : ∀ j, cn_dq X c 8 (cn_q c' t' + 1) j = X (cn_q c' t' + 1) j := fun j => xr _ _ (by unfold cn_q; omega)
    have z2 : ∀ j, cn_dq X c 8 (cn_q c' t' + 2) j = X (cn_q c' t' + 2) j := fun j => xr _ _ (by unfold cn_q; omega)
    unfold rQ1 at a ⊢
    simp only [z, z1, z2]
    rw [nr 222 _ (by omega), nr 223 _ (by omega), nr 224 _ (by omega)]
    have n5 : nf_2 N 222 (8 * c) (8 * c + 8) 225 = N 225 := funext fun j => nr _ j (by omega)
    rw [n5]
    exact a
theorem q_hang (h : rR X N β s p d) (hp : p < 2 ^ 19) (hd : d ≤ 2 ^ 19) (hc : c < 2) : ∀ n, n ≤ 6 → ∃ β' p' d', rR (hu_f X c n) (nH_f N c s n) β' s p' d' ∧ p' ≤ p + n ∧ d' ≤ d + 22 * n ∧ (∀ f', f' < 6 → hu_f X c n (cn_f c f') 3 = X (cn_f c f') 3) ∧ nH_f N c s n 218 = N 218 := by
  intro n
  induction n with
  | zero =>
    intro _
    refine ⟨β, p, d, rR_dq h (by omega) hc, by omega, by omega, fun f' hf' => ?_, funext fun j => ?_⟩
    · show cn_dq X c 8 (cn_f c f') 3 = _
      unfold cn_dq
      rw [if_neg (by omega)]
    · show nf_2 N 222 (8 * c) (8 * c + 8) 218 j = _
      unfold nf_2
      rw [if_neg (by omega)]
  | succ n ih =>
    intro hn
    obtain ⟨β1, p1, d1, r1, r2, r3, r4, r5⟩ := ih (by omega)
    obtain ⟨t, t1, t2, t3, _⟩ := rR_F h c hc n (by omega)
    have e1 : (X (cn_f c n) 3).toNatClampNeg = t := by rw [t2, nI_clamp (by omega)]
    have e2 : (N 218 (6 * c + n)).toNatClampNeg = (if t = 0 then 0 else t + 1) := by rw [t3, nI_clamp (by split <;> omega)]
    have hz := q_clunkY r1 (by omega) (by omega) hc (show n < 6 by omega) t1 (by rw [r4 n (by omega)]; exact t2)
    obtain ⟨_, _, β', p', d', z1, z2, z3, z4⟩ := hz
    refine ⟨β', p', d', ?_, by omega, by omega, fun f' hf' => ?_, ?_⟩
    · rw [hu_f, nH_f, e1, e2]
      exact z1
    · rw [hu_f, xk_row (by unfold cn_f; omega) (by decide)]
      exact r4 f' hf'
    · rw [nH_f, nK_row]
      exact r5
/-- what the reference's hangUp asks for -/
theorem q_hangN (h : rR X N β s p d) (hp : p < 2 ^ 19) (hd : d ≤ 2 ^ 19) (hc : c < 2) : ∀ n, n < 6 → nw_P (nH_f N c s n) s ∧ nu_P (nH_f N c s n) (6 * c + n) (N 218 (6 * c + n)).toNatClampNeg := by
  intro n hn
  obtain ⟨β1, p1, d1, r1, r2, r3, r4, r5⟩ := q_hang h hp hd hc n (by omega)
  obtain ⟨t, t1, t2, t3, _⟩ := rR_F h c hc n hn
  have e2 : (N 218 (6 * c + n)).toNatClampNeg = (if t = 0 then 0 else t + 1) := by rw [t3, nI_clamp (by split <;> omega)]
  rw [e2]
  exact ⟨r_nw r1, r_nu r1 hc hn t1 (by rw [r4 n hn]; exact t2)⟩
/-- the present tree is kept as the saved one -/
theorem q_save (h : rR X N β s p d) (hp : p < 2 ^ 30) : rR (so_ct X 0 5 64) (ct_C N 0 1) (fun j => β (if j / 20 = 1 then j - 20 * 1 + 20 * 0 else j)) s p d := by
  have hT := rR_T h
  obtain ⟨a1, a2, a3, a4⟩ := rT_9 hT
  have xr : ∀ a, 131 ≤ a → so_ct X 0 5 64 a = X a := fun a ha => funext fun j => so_ct2 _ (by omega)
  have nr : ∀ a, a < 206 ∨ 217 ≤ a → ct_C N 0 1 a = N a := by
    intro a ha
    funext j
    unfold ct_C ct_n
    rw [if_neg (by omega), if_neg (by omega), cs_ne _ _ (by omega)]
  refine rR_cT h (fun a a1 _ => xr a a1) (fun a ha => nr a (by omega)) (fun j _ => by rw [nr _ (by omega)]) ?_ ?_
  · refine rT_copy hT (f := 0) (t := 1) (by decide) (by decide) (by decide) (fun a j _ _ => rfl) (fun a j _ _ => rfl) (by rw [nr _ (by omega)]) (by rw [nr _ (by omega)]) ⟨?_, ?_, a3, fun t ht => ?_⟩
    · rw [so_ct2 _ (by omega)]; exact a1
    · rw [nr _ (by omega)]; exact a2
    · rw [ct_nm]
      by_cases e : t = 1
      · rw [if_pos e]
        exact ⟨fun _ => (a4 0 (by decide)).1 (by omega), fun z => by omega⟩
      · rw [if_neg e]
        exact a4 t ht
  · refine rF_c (fun a ha => xr a (by omega)) (fun a a1 a2 => nr a (by omega)) (Nat.le_refl _) (Nat.le_refl _) hp (fun k hk k0 => Or.inr ⟨k, ?_, k0, ?_, ?_⟩) (rR_F h)
    · refine ⟨hk.1, ?_⟩
      have := hk.2
      rw [ct_nm, k0, if_neg (by decide)] at this
      rw [k0]
      exact this
    · rw [ct_a _ _ _ (by decide) (by decide), if_neg (by omega)]
    · rw [ct_a _ _ _ (by decide) (by decide), if_neg (by omega)]
/-- the crash -/
theorem xc_o (X : Nat → Nat → Int32) : (∀ a j, a < 131 → xc_C X a j = so_ct X 5 0 64 a j) ∧ xc_C X 131 = X 131 ∧ (∀ c f, c < 2 → f < 6 → xc_C X (cn_f c f) 0 = 0 ∧ xc_C X (cn_f c f) 1 = 0 ∧ xc_C X (cn_f c f) 3 = X (cn_f c f) 3) ∧ (∀ c t, c < 2 → t < 8 → xc_C X (cn_q c t) 1 = 0) ∧ xc_C X 199 1 = 0 ∧ xc_C X 201 1 = 0 ∧ ∀ a, 204 ≤ a → xc_C X a = X a := by
  have l2 : ∀ a j, xc_l X 2 a j = if j < 2 ∧ cn_f 1 0 ≤ a ∧ a < cn_f 1 6 then 0 else if j = 1 ∧ 133 + 33 * 1 + 9 ≤ a ∧ a < 133 + 33 * 1 + 9 + 3 * 8 ∧ (a - (133 + 33 * 1 + 9)) % 3 = 0 then 0 else if j < 2 ∧ cn_f 0 0 ≤ a ∧ a < cn_f 0 6 then 0 else if j = 1 ∧ 133 + 33 * 0 + 9 ≤ a ∧ a < 133 + 33 * 0 + 9 + 3 * 8 ∧ (a - (133 + 33 * 0 + 9)) % 3 = 0 then 0 else so_ct X 5 0 64 a j := fun a j => rfl
  have c2 : ∀ a j, a ≠ 199 → a ≠ 201 → xc_C X a j = xc_l X 2 a j := by
    intro a j h1 h2
    unfold xc_C
    rw [cs_ne _ _ (by omega), cs_ne _ _ (by omega)]
  have u10 : cn_f 1 0 = 168 := rfl
  have u16 : cn_f 1 6 = 174 := rfl
  have u00 : cn_f 0 0 = 135 := rfl
  have u06 : cn_f 0 6 = 141 := rfl
  rw [u10, u16, u00, u06] at l2
  have far : ∀ a j, a ≠ 199 → a ≠ 201 → (a < 135 ∨ 199 ≤ a) → xc_C X a j = so_ct X 5 0 64 a j := by
    intro a j h1 h2 h3
    rw [c2 a j h1 h2, l2, if_neg (by omega), if_neg (by omega), if_neg (by omega), if_neg (by omega)]
  refine ⟨fun a j ha => far a j (by omega) (by omega) (by omega), funext fun j => ?_, fun c f hc hf => ?_, fun c t hc ht => ?_, ?_, ?_, fun a ha => funext fun j => ?_⟩
  · rw [far _ _ (by omega) (by omega) (by omega), so_ct2 _ (by omega)]
  · have hF : (135 ≤ cn_f c f ∧ cn_f c f < 141) ∨ (168 ≤ cn_f c f ∧ cn_f c f < 174) := by unfold cn_f; omega
    generalize cn_f c f = F at hF
    refine ⟨?_, ?_, ?_⟩
    · rw [c2 _ _ (by omega) (by omega), l2]
      by_cases e : 168 ≤ F ∧ F < 174
      · rw [if_pos (by omega)]
      · rw [if_neg (by omega), if_neg (by omega), if_pos (by omega)]
    · rw [c2 _ _ (by omega) (by omega), l2]
      by_cases e : 168 ≤ F ∧ F < 174
      · rw [if_pos (by omega)]
      · rw [if_neg (by omega), if_neg (by omega), if_pos (by omega)]
    · rw [c2 _ _ (by omega) (by omega), l2, if_neg (by omega), if_neg (by omega), if_neg (by omega), if_neg (by omega), so_ct2 _ (by omega)]
  · have hF : (142 ≤ cn_q c t ∧ cn_q c t < 166 ∧ (cn_q c t - 142) % 3 = 0) ∨ (175 ≤ cn_q c t ∧ cn_q c t < 199 ∧ (cn_q c t - 175) % 3 = 0) := by unfold cn_q; omega
    generalize cn_q c t = F at hF
    rw [c2 _ _ (by omega) (by omega), l2]
    by_cases e : 175 ≤ F
    · rw [if_neg (by omega), if_pos (by omega)]
    · rw [if_neg (by omega), if_neg (by omega), if_neg (by omega), if_pos (by omega)]
  · unfold xc_C
    rw [cs_ne _ _ (by omega), cs_at]
  · unfold xc_C
    rw [cs_at]
  · rw [far _ _ (by omega) (by omega) (by omega), so_ct2 _ (by omega)]
theorem nf_o (C : Nat → Nat → Int32) : (∀ a, a ≠ 204 → a ≠ 217 → a ≠ 222 → nf_C C a = C a) ∧ (∀ j, j ≠ 24 → j ≠ 26 → nf_C C 204 j = C 204 j) ∧ (∀ j, j < 12 → nf_C C 217 j = -1) ∧ (∀ j, j < 16 → nf_C C 222 j = -1) ∧ nf_C C 204 24 = 0 ∧ nf_C C 204 26 = 0 := by
  have o : ∀ a j, ¬ (a = 204 ∧ j = 24) → ¬ (a = 204 ∧ j = 26) → nf_C C a j = if a = 222 ∧ 0 ≤ j ∧ j < 16 then -1 else if a = 217 ∧ 0 ≤ j ∧ j < 12 then -1 else C a j := by
    intro a j h1 h2
    unfold nf_C
    rw [cs_ne _ _ h2, cs_ne _ _ h1]
    rfl
  refine ⟨fun a h1 h2 h3 => funext fun j => ?_, fun j h1 h2 => ?_, fun j hj => ?_, fun j hj => ?_, ?_, ?_⟩
  · rw [o a j (by omega) (by omega), if_neg (by omega), if_neg (by omega)]
  · rw [o _ j (by omega) (by omega), if_neg (by omega), if_neg (by omega)]
  · rw [o _ j (by omega) (by omega), if_neg (by omega), if_pos (by omega)]
  · rw [o _ j (by omega) (by omega), if_pos (by omega)]
  · unfold nf_C
    rw [cs_ne _ _ (by omega), cs_at]
  · unfold nf_C
    rw [cs_at]
theorem q_crash (h : rR X N β s p d) : rR (xc_C X) (nr_C N) (fun j => β (if j / 20 = 0 then j - 20 * 0 + 20 * 1 else j)) s p d := by
  have hT := rR_T h
  obtain ⟨a1, a2, a3, a4⟩ := rT_9 hT
  obtain ⟨x1, x2, x3, x4, x5, x6, x7⟩ := xc_o X
  obtain ⟨n1, n2, n3, n4, n5, n6⟩ := nf_o (ct_C N 1 0)
  have e4 : ct_C N 1 0 204 = N 204 := ct_C4 N 1 0
  have nr : ∀ a, a < 206 ∨ 217 ≤ a → ct_C N 1 0 a = N a := by
    intro a ha
    funext j
    unfold ct_C ct_n
    rw [if_neg (by omega), if_neg (by omega), cs_ne _ _ (by omega)]
  unfold nr_C
  generalize hN' : nf_C (ct_C N 1 0) = N' at *
  refine ⟨rM_c x2 (by rw [n1 _ (by decide) (by decide) (by decide), nr _ (by omega)]) (rR_M h), ⟨0, by decide, x5, n5, fun j hj => by omega⟩, ⟨0, by decide, x6, n6, fun j hj => by omega⟩, fun c hc t ht => Or.inl ⟨x4 c t hc ht, ?_⟩, fun c hc f hf => ?_, ?_⟩
  · rw [n4 _ (by omega)]
    decide
  · obtain ⟨t, t1, t2, t3, _⟩ := rR_F h c hc f hf
    obtain ⟨y1, y2, y3⟩ := x3 c f hc hf
    refine ⟨t, t1, by rw [y3]; exact t2, ?_, Or.inl ⟨y1, y2, ?_⟩⟩
    · rw [n1 218 (by decide) (by decide) (by decide), nr _ (by omega)]
      exact t3
    · rw [n3 _ (by omega)]
      decide
  · refine rT_copy hT (f := 1) (t := 0) (by decide) (by decide) (by decide) (fun a j ha _ => x1 a j ha) (fun a j b1 b2 => by rw [n1 a (by omega) (by omega) (by omega)]) (by rw [n2 12 (by decide) (by decide), e4]) (by rw [n2 13 (by decide) (by decide), e4]) ⟨?_, ?_, a3, fun t ht => ?_⟩
    · rw [x1 1 1 (by decide), so_ct2 _ (by omega)]; exact a1
    · rw [n2 14 (by decide) (by decide), e4]; exact a2
    · have em : nm N' t = nm (ct_C N 1 0) t := by
        unfold nm
        rw [n1 206 (by decide) (by decide) (by decide)]
      rw [em, ct_nm]
      by_cases e : t = 0
      · rw [if_pos e]
        exact ⟨fun _ => (a4 1 (by decide)).1 (by omega), fun z => by omega⟩
      · rw [if_neg e]
        exact a4 t ht
theorem q_sync (h : rR X N β s p d) (hp : p < 2 ^ 30) (x : Int32) : xs_r X x = nS_r N s x ∧ ∃ β', rR (xs_C X x) (nS_C N s x) β' s p d := by
  have hT := rR_T h
  have e := l_nu hT
  unfold xs_r nS_r xs_C nS_C
  rw [e]
  refine ⟨rfl, ?_⟩
  split
  · exact ⟨_, q_save h hp⟩
  · split
    · exact ⟨_, q_crash (q_save h hp)⟩
    · exact ⟨_, q_crash h⟩
theorem q_snap (h : rR X N β s p d) (hp : p < 2 ^ 30) (hs : s < 4) : ∃ β', rR (sa_C (so_ct X 0 5 64) s) (nV_C N s) β' (s + 1) p d := by
  have h1 := q_save h hp
  unfold sa_C nV_C
  generalize so_ct X 0 5 64 = Y at *
  generalize ct_C N 0 1 = M at *
  generalize (fun j => β (if j / 20 = 1 then j - 20 * 1 + 20 * 0 else j)) = β1 at *
  have hT := rR_T h1
  obtain ⟨a1, a2, a3, a4⟩ := rT_9 hT
  have tc2 : tc (2 + s) = s + 1 := by
    unfold tc
    rw [if_neg (by omega), if_neg (by omega)]
    omega
  have xr : ∀ a, 131 ≤ a → so_ct (cs_C Y 1 1 (nI (s + 1))) 0 (s + 1) 64 a = Y a := fun a ha => funext fun j => by rw [so_ct2 _ (by omega), cs_ne _ _ (by omega)]
  have nr : ∀ a, (a = 205 ∨ 217 ≤ a) → cs_C (ct_C M 0 (2 + s)) 204 14 (nI (s + 1)) a = M a := by
    intro a ha
    funext j
    rw [cs_ne _ _ (by omega)]
    unfold ct_C ct_n
    rw [if_neg (by omega), if_neg (by omega), cs_ne _ _ (by omega)]
  have n4 : ∀ j, j ≠ 14 → cs_C (ct_C M 0 (2 + s)) 204 14 (nI (s + 1)) 204 j = M 204 j := by
    intro j hj
    rw [cs_ne _ _ (by omega), ct_C4]
  have na : ∀ a j, 206 ≤ a → a ≤ 216 → cs_C (ct_C M 0 (2 + s)) 204 14 (nI (s + 1)) a j = ct_C M 0 (2 + s) a j := fun a j b1 b2 => cs_ne _ _ (by omega)
  refine ⟨_, rR_cT h1 (fun a b1 _ => xr a b1) nr (fun j hj => n4 j (by omega)) (rT_copy hT (f := 0) (t := 2 + s) (by decide) (by omega) (by omega) (fun a j b1 b2 => ?_) na (n4 12 (by decide)) (n4 13 (by decide)) ⟨?_, ?_, by omega, fun t ht => ?_⟩) ?_⟩
  · rw [tc2, show tc 0 = 0 from rfl]
    unfold so_ct
    by_cases q : j = 1 ∧ 3 ≤ a ∧ a < 3 + 2 * 64 ∧ a % 2 = 1
    · rw [if_pos q, if_pos q, cs_ne _ _ (by omega)]
    · rw [if_neg q, if_neg q, cs_ne _ _ b2]
  · rw [so_ct2 _ (by omega), cs_at]
  · rw [cs_at]
  · have em : nm (cs_C (ct_C M 0 (2 + s)) 204 14 (nI (s + 1))) t = nm (ct_C M 0 (2 + s)) t := by
      unfold nm
      rw [na 206 t (by decide) (by decide)]
    rw [em, ct_nm]
    by_cases e : t = 2 + s
    · rw [if_pos e]
      exact ⟨fun _ => (a4 0 (by decide)).1 (by omega), fun z => by omega⟩
    · rw [if_neg e]
      exact ⟨fun z => (a4 t ht).1 (by omega), fun z => (a4 t ht).2 (by omega)⟩
  · refine rF_c (fun a ha => xr a (by omega)) (fun a b1 b2 => nr a (by omega)) (by omega) (Nat.le_refl _) hp (fun k hk k0 => Or.inr ⟨k, ?_, k0, ?_, ?_⟩) (rR_F h1)
    · refine ⟨hk.1, ?_⟩
      have := hk.2
      have em : nm (cs_C (ct_C M 0 (2 + s)) 204 14 (nI (s + 1))) (k / 20) = nm (ct_C M 0 (2 + s)) (k / 20) := by
        unfold nm
        rw [na 206 _ (by decide) (by decide)]
      rw [em, ct_nm, k0, if_neg (by omega)] at this
      rw [k0]
      exact this
    · rw [na _ _ (by decide) (by decide), ct_a _ _ _ (by decide) (by decide), if_neg (by omega)]
    · rw [na _ _ (by decide) (by decide), ct_a _ _ _ (by decide) (by decide), if_neg (by omega)]
theorem q_nodes (h : rR X N β s p d) : nI (so_nn X) = N 206 0 := by
  rw [l_nn (rR_T h)]
  exact (rT_nm (rR_T h) 0 (by decide)).2.symm
end
