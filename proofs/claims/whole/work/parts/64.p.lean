/-! A node and all above it get blocks of their own, on both sides. -/
theorem no_c {C D : Nat → Nat → Int32} {s : Nat} (h6 : D 206 = C 206) (h15 : ∀ l, 20 ≤ l → D 215 l = C 215 l) (b : Int32) : no_P D s b ↔ no_P C s b := by
  unfold no_P
  simp only [nm, h6]
  constructor
  · rintro ⟨t, t1, t2, k, k1, k2, k3⟩
    exact ⟨t, t1, t2, k, k1, k2, by rw [← h15 k (by omega)]; exact k3⟩
  · rintro ⟨t, t1, t2, k, k1, k2, k3⟩
    exact ⟨t, t1, t2, k, k1, k2, by rw [h15 k (by omega)]; exact k3⟩
theorem fx_c_all (P : Nat → Bool) : ∀ n i, (∀ l, i ≤ l → l < i + n → P l = true) → fx_c P n i = n := by
  intro n
  induction n with
  | zero => intro i _; rfl
  | succ n ih =>
    intro i h
    simp only [fx_c]
    rw [if_pos (h i (Nat.le_refl _) (by omega)), ih (i + 1) (fun l a b => h l (by omega) (by omega))]
    omega
theorem fr_ex {X : Nat → Nat → Int32} (h : so_nb X < 64) : ∃ o, so_fr X = some o := by
  cases e : so_fr X with
  | some o => exact ⟨o, rfl⟩
  | none =>
    exfalso
    have := fx_f_none _ _ _ e
    have h2 : so_nb X = 64 := by
      unfold so_nb
      refine fx_c_all _ 64 0 (fun l a b => ?_)
      have := this l a b
      simpa using this
    omega
theorem n1_c {P Q : Prop} (h : P ↔ Q) : n1 P = n1 Q := by rw [propext h]
theorem nb_up {X Y : Nat → Nat → Int32} {o : Nat} (ho : o < 64) (h1 : X (bk o) 1 = 0) (h2 : ¬ Y (bk o) 1 = 0) (h3 : ∀ j, j < 64 → j ≠ o → (Y (bk j) 1 = 0 ↔ X (bk j) 1 = 0)) : so_nb Y = so_nb X + 1 := by
  unfold so_nb
  rw [fx_c_rm (fun i => decide (¬ Y (bk i) 1 = 0)) (j := o) (by simpa using h2) 64 ho]
  refine congrArg (· + 1) ?_
  refine fx_c_cg 64 0 (fun l _ hl => ?_)
  by_cases e : l = o
  · simp [e, h1]
  · have := h3 l (by omega) e
    simp [e, this]
section
variable {X N : Nat → Nat → Int32} {β : Nat → Nat} {s p d : Nat}
theorem nn_fu (h : rT X N β s p d) {k m m' : Nat} (hk : nv N k) (h0 : k / 20 = 0) (h1 : k % 20 ≤ m) (h2 : k % 20 ≤ m') : nn_f N s m k = nn_f N s m' k := by
  have a := l_hr h 19 m k hk h0 (by omega) h1
  have b := l_hr h 19 m' k hk h0 (by omega) h2
  omega
/-- one step of a change -/
theorem ch_1 (h : rT X N β s p d) (hd : d < 2 ^ 30) {k : Nat} (hk : nv N k) (h0 : k / 20 = 0) (hA : so_nb X + (n1 (no_P N s (N 215 k)) + nn_f N s 20 k) ≤ 64) : ∃ β1 d1, rT (ob_C X (β k)) (nx_1 N s k) β1 s p d1 ∧ d ≤ d1 ∧ d1 ≤ d + 1 ∧ β1 k = ob_i X (β k) ∧ (∀ l, l ≠ k → β1 l = β l ∧ nx_1 N s k 215 l = N 215 l) ∧ ¬ no_P N s (nx_1 N s k 215 k) ∧ so_nb (ob_C X (β k)) ≤ so_nb X + n1 (no_P N s (N 215 k)) ∧ so_abi (ob_C X (β k)) 0 (β k) = so_abi (ob_C X (β k)) 0 (ob_i X (β k)) := by
  by_cases hot : no_P N s (N 215 k)
  · rw [n1_t hot] at hA
    obtain ⟨o, ho⟩ := fr_ex (X := X) (by omega)
    have hs : so_ot (X (bk (β k)) 1) = true := (l_ot h hk).mpr hot
    have e1 : ob_C X (β k) = ob_m X (β k) o := by unfold ob_C; rw [if_pos hs, ho]
    have e2 : ob_i X (β k) = o := by unfold ob_i; rw [if_pos hs, ho]; rfl
    obtain ⟨o1, o2⟩ := so_fr_ok ho
    have hio : β k ≠ o := fun e => (l_mask h o1).mpr ⟨k, hk, e⟩ o2
    have hR := rT_own h hd hk h0 hot ho
    have hN : nx_1 N s k = cs_C (cs_C N 215 k (nI d)) 204 13 (nI (d + 1)) := by
      unfold nx_1
      rw [it_t hot, (rT_10 h).1, nI_1]
    rw [e1, e2]
    refine ⟨_, d + 1, hR, by omega, by omega, if_pos rfl, fun l hl => ⟨if_neg hl, ?_⟩, ?_, ?_, ?_⟩
    · rw [hN, cs_ne _ _ (by omega), cs_ne _ _ (by omega)]
    · rw [hN, cs_ne _ _ (by omega), cs_at]
      rintro ⟨t, t1, t2, l, l1, l2, l3⟩
      have t6 : t < 6 := by have := (rT_9 h).2.2.1; omega
      obtain ⟨c1, c2⟩ := nv_i (rT_nm h) t6 l1 l2
      obtain ⟨b, b1, b2⟩ := (rT_10 h).2 l c1
      rw [b2, nI_eq (by omega) (by omega)] at l3
      omega
    · have hz : ∀ j, j ≠ 0 → bt (X (bk (β k)) 1) j = true → bt (ob_m X (β k) o (bk (β k)) 1) j = true := by
        intro j hj hb
        rw [ob_m1 X hio, if_pos rfl, bt_clr _ (by decide)]
        exact ⟨hb, hj⟩
      have : so_nb (ob_m X (β k) o) = so_nb X + 1 := by
        refine nb_up o1 o2 ?_ (fun j hj hjo => ?_)
        · rw [ob_m1 X hio, if_neg (Ne.symm hio), if_pos rfl]
          intro z
          have := (tb_zero.mp z) 0 (by decide)
          rw [← Bool.not_eq_true, bt_set _ (by decide)] at this
          exact this (Or.inr rfl)
        · rw [ob_m1 X hio]
          by_cases e : j = β k
          · rw [if_pos e, e]
            have q1 : ¬ X (bk (β k)) 1 = 0 := (l_mask h (rT_2 h k hk).1).mpr ⟨k, hk, rfl⟩
            have q2 : ¬ (X (bk (β k)) 1 &&& (((1 : Int32) <<< (nI 0 &&& 31)) ^^^ (-1))) = 0 := by
              unfold so_ot at hs
              simpa using hs
            exact ⟨fun z => absurd z q2, fun z => absurd z q1⟩
          · rw [if_neg e, if_neg hjo]
      rw [n1_t hot]
      omega
    · unfold so_abi
      rw [ob_m2 X _ _ _ (by decide) (by decide), ob_m2 X _ _ _ (by decide) (by decide), ob_m2 X _ _ _ (by decide) (by decide), ob_m2 X _ _ _ (by decide) (by decide), if_pos (rfl : o = o), if_neg hio, if_pos rfl, if_neg hio]
  · have hs : ¬ so_ot (X (bk (β k)) 1) = true := fun z => hot ((l_ot h hk).mp z)
    have e1 : ob_C X (β k) = X := by unfold ob_C; rw [if_neg hs]
    have e2 : ob_i X (β k) = β k := by unfold ob_i; rw [if_neg hs]
    have e3 : nx_1 N s k = N := by unfold nx_1; rw [it_f hot]
    rw [e1, e2, e3]
    exact ⟨β, d, h, Nat.le_refl _, by omega, rfl, fun l _ => ⟨rfl, rfl⟩, hot, by omega, rfl⟩
end
theorem nn_up {N D : Nat → Nat → Int32} {s : Nat} (h6 : D 206 = N 206) (h7 : D 207 = N 207) (h8 : D 208 = N 208) (hq : ∀ l, 20 ≤ l → D 215 l = N 215 l) {k : Nat} (h15 : ∀ l, l < k → D 215 l = N 215 l) (hp : ∀ l, nv N l → l / 20 = 0 → ¬ N 208 l < 0 → nv N (np N l) ∧ np N l / 20 = 0 ∧ np N l < l) : ∀ m l, nv N l → l / 20 = 0 → l ≤ k → nn_f D s m l = nn_f N s m l := by
  intro m
  induction m with
  | zero => intro l _ _ _; rfl
  | succ m ih =>
    intro l hl h0 hlk
    simp only [nn_f, h8]
    by_cases e : N 208 l < 0
    · rw [if_pos e, if_pos e]
    · obtain ⟨a1, a2, a3⟩ := hp l hl h0 e
      rw [if_neg e, if_neg e, np_c h6 h7 h8, h15 _ (by omega), n1_c (no_c h6 hq _), ih _ a1 a2 (by omega)]
/-- a change -/
theorem ch_f (s p : Nat) : ∀ n X N β d k m, rT X N β s p d → nv N k → k / 20 = 0 → k % 20 < n → k % 20 < m → so_nb X + (n1 (no_P N s (N 215 k)) + nn_f N s 20 k) ≤ 64 → d + n ≤ 2 ^ 30 → ∃ β' d', rT (cg_f n X (some (β k))) (nx_f s m N k) β' s p d' ∧ d ≤ d' ∧ d' ≤ d + n ∧ β' k = ob_i X (β k) ∧ (∀ l, k < l → β' l = β l ∧ nx_f s m N k 215 l = N 215 l) ∧ ¬ no_P N s (nx_f s m N k 215 k) ∧ (¬ k % 20 = 0 → ¬ no_P N s (nx_f s m N k 215 (np N k))) ∧ so_nb (cg_f n X (some (β k))) ≤ so_nb X + (n1 (no_P N s (N 215 k)) + nn_f N s 20 k) := by
  intro n
  induction n with
  | zero => intro X N β d k m _ _ _ h; omega
  | succ n ih =>
    intro X N β d k m h hk h0 hn hm hA hd
    obtain ⟨m, rfl⟩ : ∃ m', m = m' + 1 := ⟨m - 1, by omega⟩
    obtain ⟨β1, d1, g1, g2, g3, g4, g5, g6, g7, g8⟩ := ch_1 h (by omega) hk h0 hA
    have e6 : nx_1 N s k 206 = N 206 := (nx_1c N s k).1 206 (by decide) (by decide)
    have e7 : nx_1 N s k 207 = N 207 := (nx_1c N s k).1 207 (by decide) (by decide)
    have e8 : nx_1 N s k 208 = N 208 := (nx_1c N s k).1 208 (by decide) (by decide)
    have hk' : nv (nx_1 N s k) k := (nv_c e6 k).mpr hk
    have eab := l_abi g1 hk'
    rw [h0, show tc 0 = 0 from rfl, g4] at eab
    rw [cg_f, nx_f, eab]
    by_cases e : k % 20 = 0
    · rw [if_pos e, if_pos (l_root h hk e).1]
      have ec : cg_f n (ob_C X (β k)) none = ob_C X (β k) := by cases n <;> rfl
      rw [ec]
      exact ⟨β1, d1, g1, g2, by omega, g4, fun l hl => g5 l (by omega), g6, fun z => absurd e z, by omega⟩
    · obtain ⟨c1, c2, c3, c4, c5, c6, c7⟩ := l_par h hk e
      have k20 : k < 20 := by omega
      have hnp : np (nx_1 N s k) k = np N k := np_c e6 e7 e8 k
      have c2' : nv (nx_1 N s k) (np N k) := (nv_c e6 _).mpr c2
      have hq : ∀ l, 20 ≤ l → nx_1 N s k 215 l = N 215 l := fun l hl => (g5 l (by omega)).2
      have hno : ∀ b, no_P (nx_1 N s k) s b ↔ no_P N s b := no_c e6 hq
      have hA' : so_nb (ob_C X (β k)) + (n1 (no_P (nx_1 N s k) s (nx_1 N s k 215 (np N k))) + nn_f (nx_1 N s k) s 20 (np N k)) ≤ 64 := by
        have q1 : nn_f N s 20 k = n1 (no_P N s (N 215 (np N k))) + nn_f N s 19 (np N k) := by
          rw [nn_f, if_neg c6]
        have q2 : nn_f N s 19 (np N k) = nn_f N s 20 (np N k) := nn_fu h c2 (by omega) (by omega) (by omega)
        have q3 : nn_f (nx_1 N s k) s 20 (np N k) = nn_f N s 20 (np N k) := by
          refine nn_up e6 e7 e8 hq (k := k) (fun l hl => (g5 l (by omega)).2) (fun l hl hl0 hl8 => ?_) 20 _ c2 (by omega) (by omega)
          have := l_par h hl (fun z => hl8 (l_root h hl z).1)
          exact ⟨this.2.1, by omega, this.2.2.2.1⟩
        rw [q3, (g5 (np N k) (by omega)).2, n1_c (hno _)]
        omega
      have hB : n1 (no_P (nx_1 N s k) s (nx_1 N s k 215 (np N k))) + nn_f (nx_1 N s k) s 20 (np N k) = nn_f N s 20 k := by
        have q1 : nn_f N s 20 k = n1 (no_P N s (N 215 (np N k))) + nn_f N s 19 (np N k) := by
          rw [nn_f, if_neg c6]
        have q2 : nn_f N s 19 (np N k) = nn_f N s 20 (np N k) := nn_fu h c2 (by omega) (by omega) (by omega)
        have q3 : nn_f (nx_1 N s k) s 20 (np N k) = nn_f N s 20 (np N k) := by
          refine nn_up e6 e7 e8 hq (k := k) (fun l hl => (g5 l (by omega)).2) (fun l hl hl0 hl8 => ?_) 20 _ c2 (by omega) (by omega)
          have := l_par h hl (fun z => hl8 (l_root h hl z).1)
          exact ⟨this.2.1, by omega, this.2.2.2.1⟩
        rw [q3, (g5 (np N k) (by omega)).2, n1_c (hno _)]
        omega
      obtain ⟨β', d', i1, i2, i3, i4, i5, i6, i7, i8⟩ := ih (ob_C X (β k)) (nx_1 N s k) β1 d1 (np N k) m g1 c2' (by omega) (by omega) (by omega) hA' (by omega)
      rw [if_neg e, if_neg c6, hnp]
      refine ⟨β', d', i1, by omega, by omega, ?_, ?_, ?_, ?_, by omega⟩
      · rw [(i5 k c4).1, g4]
      · intro l hl
        rw [(i5 l (by omega)).1, (i5 l (by omega)).2]
        exact g5 l (by omega)
      · rw [(i5 k c4).2]
        exact g6
      · intro _
        rw [hno] at i6
        exact i6
section
variable {X N : Nat → Nat → Int32} {β : Nat → Nat} {s p d : Nat}
/-- a block of the present tree alone -/
theorem l_own (h : rT X N β s p d) {k : Nat} (hk : nv N k) (h0 : k / 20 = 0) (hn : ¬ no_P N s (N 215 k)) : ∀ l, nv N l → β l = β k → l = k := by
  intro l hl e
  by_cases e0 : l / 20 = 0
  · exact l_inj h hl hk (by omega) e
  · exfalso
    obtain ⟨a1, a2, a3, a4⟩ := nv_t (rT_nm h) hl
    refine hn ⟨l / 20, by omega, ?_, l, a2, a3, (rT_5 h l k hl hk).mpr e⟩
    rcases Nat.lt_or_ge (l / 20) (2 + s) with q | q
    · exact q
    · have := ((rT_9 h).2.2.2 _ a1).2 q
      omega
theorem rT_chg (h : rT X N β s p d) {k : Nat} (hk : nv N k) (h0 : k / 20 = 0) (hA : so_nb X + hr_n X 20 (some (β k)) ≤ 64) (hd : d ≤ 2 ^ 20) : ∃ β' d', rT (cg_C X (β k)) (nx_C N s k) β' s p d' ∧ d ≤ d' ∧ d' ≤ d + 21 ∧ β' k = ob_i X (β k) ∧ (∀ l, k < l → β' l = β l) ∧ (∀ l, nv N l → β' l = β' k → l = k) ∧ (¬ k % 20 = 0 → ∀ l, nv N l → β' l = β' (np N k) → l = np N k) ∧ so_nb (cg_C X (β k)) ≤ so_nb X + nn_n N s k := by
  rw [l_need h hk h0] at hA
  have k20 : k < 20 := by omega
  obtain ⟨β', d', i1, i2, i3, i4, i5, i6, i7, i8⟩ := ch_f s p 21 X N β d k 21 h hk h0 (by omega) (by omega) hA (by omega)
  obtain ⟨_, _, _, _, _, _, _, _, _, g8⟩ := ch_1 h (by omega) hk h0 hA
  have e : cg_C X (β k) = cg_f 21 X (some (β k)) := by
    rw [cg_C, g8]
    rfl
  have e6 : nx_C N s k 206 = N 206 := nx_Cc N s k (by decide) (by decide)
  have e7 : nx_C N s k 207 = N 207 := nx_Cc N s k (by decide) (by decide)
  have hno : ∀ b, no_P (nx_C N s k) s b ↔ no_P N s b := no_c e6 (fun l hl => (i5 l (by omega)).2)
  rw [e]
  refine ⟨β', d', i1, i2, i3, i4, fun l hl => (i5 l hl).1, fun l hl => ?_, fun z l hl => ?_, i8⟩
  · exact l_own i1 ((nv_c e6 k).mpr hk) h0 (fun z => i6 ((hno _).mp z)) l ((nv_c e6 l).mpr hl)
  · obtain ⟨c1, c2, c3, c4, c5, c6, c7⟩ := l_par h hk z
    exact l_own i1 ((nv_c e6 _).mpr c2) (by omega) (fun q => i7 z ((hno _).mp q)) l ((nv_c e6 l).mpr hl)
end
