/-! What own blocks leave as it was; attach, stat, removing, opening. -/
theorem ob_m_out {C : Nat → Nat → Int32} {i o a j : Nat} (hi : i < 64) (ho : o < 64) (h : a < 3 ∨ 131 ≤ a) : ob_m C i o a j = C a j := by
  have k1 : bk o = 3 + 2 * o := rfl
  have k2 : bk i = 3 + 2 * i := rfl
  unfold ob_m bl_lv bl_ent bl_cp
  rw [cs_ne _ _ (by omega), cs_ne _ _ (by omega), if_neg (by omega), if_neg (by omega)]
theorem ob_or (C : Nat → Nat → Int32) (i : Nat) : (ob_C C i = C ∧ ob_i C i = i) ∨ ∃ o, so_ot (C (bk i) 1) = true ∧ so_fr C = some o ∧ ob_C C i = ob_m C i o ∧ ob_i C i = o := by
  by_cases h : so_ot (C (bk i) 1) = true
  · cases ho : so_fr C with
    | none => exact Or.inl ⟨by simp [ob_C, h, ho], by simp [ob_i, h, ho]⟩
    | some o => exact Or.inr ⟨o, h, rfl, by simp [ob_C, h, ho], by simp [ob_i, h, ho]⟩
  · exact Or.inl ⟨by simp [ob_C, h], by simp [ob_i, h]⟩
theorem ob_out {C : Nat → Nat → Int32} {i a j : Nat} (hi : i < 64) (h : a < 3 ∨ 131 ≤ a) : ob_C C i a j = C a j := by
  rcases ob_or C i with ⟨e, -⟩ | ⟨o, -, ho, e, -⟩
  · rw [e]
  · rw [e]
    exact ob_m_out hi (so_fr_ok ho).1 h
theorem cg_f_out {a j : Nat} (h : a < 3 ∨ 131 ≤ a) : ∀ (n : Nat) (C : Nat → Nat → Int32) (o : Option Nat), (∀ l, o = some l → l < 64) → cg_f n C o a j = C a j := by
  intro n
  induction n with
  | zero => intro C o _; rfl
  | succ n ih =>
    intro C o ho
    cases o with
    | none => rfl
    | some i =>
      show cg_f n (ob_C C i) (so_abi (ob_C C i) 0 (ob_i C i)) a j = C a j
      rw [ih _ _ (fun l hl => so_abi_lt hl), ob_out (ho i rfl) h]
theorem cg_out {C : Nat → Nat → Int32} {i a j : Nat} (hi : i < 64) (h : a < 3 ∨ 131 ≤ a) : cg_C C i a j = C a j := by
  unfold cg_C
  rw [cg_f_out h _ _ _ (fun l hl => so_abi_lt hl), ob_out hi h]
/-- every block's length is one of 0 .. 16 -/
def ln_ok (C : Nat → Nat → Int32) : Prop := ∀ i, i < 64 → ∃ l, l ≤ 16 ∧ C (bk i) 9 = nI l
def ln_ (C : Nat → Nat → Int32) (b : Nat) : Nat := (C b 9).toNatClampNeg
theorem ln_at {C : Nat → Nat → Int32} (h : ln_ok C) {i : Nat} (hi : i < 64) : C (bk i) 9 = nI (ln_ C (bk i)) ∧ ln_ C (bk i) ≤ 16 := by
  obtain ⟨l, h1, h2⟩ := h i hi
  have : ln_ C (bk i) = l := by rw [ln_, h2, nI_clamp (by omega)]
  rw [this]
  exact ⟨h2, h1⟩
theorem ln_ob {C : Nat → Nat → Int32} (h : ln_ok C) {i : Nat} (hi : i < 64) : ln_ok (ob_C C i) := by
  rcases ob_or C i with ⟨e, -⟩ | ⟨o, -, ho, e, -⟩
  · rw [e]
    exact h
  · rw [e]
    have hol := (so_fr_ok ho).1
    intro j hj
    by_cases hjo : j = o
    · subst hjo
      obtain ⟨l, h1, h2⟩ := h i hi
      refine ⟨l, h1, ?_⟩
      rw [← h2]
      unfold ob_m bl_lv bl_ent bl_cp
      rw [cs_ne _ _ (by omega), cs_ne _ _ (by omega), if_pos (by omega)]
    · obtain ⟨l, h1, h2⟩ := h j hj
      refine ⟨l, h1, ?_⟩
      rw [← h2]
      have k1 : bk o = 3 + 2 * o := rfl
      have k2 : bk j = 3 + 2 * j := rfl
      unfold ob_m bl_lv bl_ent bl_cp
      rw [cs_ne _ _ (by omega), cs_ne _ _ (by omega), if_neg (by omega), if_neg (by omega)]
theorem ln_cgf : ∀ (n : Nat) (C : Nat → Nat → Int32) (o : Option Nat), (∀ l, o = some l → l < 64) → ln_ok C → ln_ok (cg_f n C o) := by
  intro n
  induction n with
  | zero => intro C o _ h; exact h
  | succ n ih =>
    intro C o ho h
    cases o with
    | none => exact h
    | some i => exact ih _ _ (fun l hl => so_abi_lt hl) (ln_ob h (ho i rfl))
theorem ln_cg {C : Nat → Nat → Int32} (h : ln_ok C) {i : Nat} (hi : i < 64) : ln_ok (cg_C C i) := ln_cgf _ _ _ (fun l hl => so_abi_lt hl) (ln_ob h hi)
/-- a block that is in use stays in use -/
theorem nz_ob {C : Nat → Nat → Int32} {i d : Nat} (hi : i < 64) (hd : d < 64) (hz : ¬ C (bk d) 1 = 0) : ¬ ob_C C i (bk d) 1 = 0 := by
  rcases ob_or C i with ⟨e, -⟩ | ⟨o, hot, ho, e, -⟩
  · rw [e]
    exact hz
  · rw [e]
    obtain ⟨h1, h2⟩ := so_fr_ok ho
    have hdo : d ≠ o := fun z => hz (by rw [z]; exact h2)
    have k1 : bk o = 3 + 2 * o := rfl
    have k2 : bk d = 3 + 2 * d := rfl
    have k3 : bk i = 3 + 2 * i := rfl
    by_cases hdi : d = i
    · subst hdi
      have e : bl_ent (bl_cp C (bk o) (bk d) 16) (bk o) 0 (bk d) 1 = C (bk d) 1 := by
        unfold bl_ent bl_cp
        rw [cs_ne _ _ (by omega), if_neg (by omega), if_neg (by omega)]
      unfold ob_m bl_lv
      rw [cs_at, e]
      simpa [so_ot] using hot
    · unfold ob_m bl_lv bl_ent bl_cp
      rw [cs_ne _ _ (by omega), cs_ne _ _ (by omega), if_neg (by omega), if_neg (by omega)]
      exact hz
theorem nz_cgf {d : Nat} (hd : d < 64) : ∀ (n : Nat) (C : Nat → Nat → Int32) (o : Option Nat), (∀ l, o = some l → l < 64) → ¬ C (bk d) 1 = 0 → ¬ cg_f n C o (bk d) 1 = 0 := by
  intro n
  induction n with
  | zero => intro C o _ h; exact h
  | succ n ih =>
    intro C o ho h
    cases o with
    | none => exact h
    | some i => exact ih _ _ (fun l hl => so_abi_lt hl) (nz_ob (ho i rfl) hd h)
theorem nz_own {C : Nat → Nat → Int32} {i : Nat} (hi : i < 64) (hz : ¬ C (bk i) 1 = 0) : ¬ ob_C C i (bk (ob_i C i)) 1 = 0 := by
  rcases ob_or C i with ⟨e, e2⟩ | ⟨o, hot, ho, e, e2⟩
  · rw [e, e2]
    exact hz
  · rw [e, e2]
    obtain ⟨h1, h2⟩ := so_fr_ok ho
    have hio : i ≠ o := fun z => hz (by rw [z]; exact h2)
    have k1 : bk o = 3 + 2 * o := rfl
    have k3 : bk i = 3 + 2 * i := rfl
    unfold ob_m bl_lv
    rw [cs_ne _ _ (by omega)]
    unfold bl_ent
    rw [cs_at]
    have e : bl_cp C (bk o) (bk i) 16 (bk o) 1 = 0 := by
      unfold bl_cp
      rw [if_neg (by omega), if_neg (by omega)]
      exact h2
    rw [e]
    decide
theorem nz_cg {C : Nat → Nat → Int32} {i : Nat} (hi : i < 64) (hz : ¬ C (bk i) 1 = 0) : ¬ cg_C C i (bk (ob_i C i)) 1 = 0 := nz_cgf (ob_i_lt hi) _ _ _ (fun l hl => so_abi_lt hl) (nz_own hi hz)
theorem so_i_nz {C : Nat → Nat → Int32} {t i : Nat} {p : Int32} (ht : t < 32) (h : so_i C t p = some i) : ¬ C (bk i) 1 = 0 := by
  intro z
  have h1 := (fx_f_some _ _ _ _ h).2.2
  simp only [Bool.and_eq_true] at h1
  rw [z, b_0] at h1
  cases h1.2
/-- a fid's cell is one of the connections' -/
abbrev fi_n (f : Nat) : Prop := fi_s f ∧ 131 < f ∧ f < 199
theorem ft_ne {C : Nat → Nat → Int32} {f a j : Nat} {u t p : Int32} (h : a ≠ f) : fi_take C f u t p a j = C a j := by
  unfold fi_take
  rw [cs_ne _ _ (by omega), cs_ne _ _ (by omega), cs_ne _ _ (by omega), cs_ne _ _ (by omega), cs_ne _ _ (by omega)]
theorem fp_ne {C : Nat → Nat → Int32} {f a j : Nat} {m : Int32} (h : a ≠ f) : fi_open C f m a j = C a j := by
  unfold fi_open
  rw [cs_ne _ _ (by omega), cs_ne _ _ (by omega), cs_ne _ _ (by omega)]
def xa_R (C : Nat → Nat → Int32) (f : Nat) (u x : Int32) : Int32 × (Nat → Nat → Int32) := if ¬ C f 0 = 0 then (-2, C) else if (¬ u < 0 ∧ ¬ 4 ≤ u) ∧ ¬ x < 0 ∧ x ≤ C 1 1 then (match so_i C x.toNatClampNeg 0 with
  | none => (-13, C)
  | some i => (0, rp_m (fi_take C f u x 0) (bk i) 0)) else (-7, C)
theorem d_X_attach_0 : decode b_X_attach 0 = .ok (.aload_n 1, 1) := by decide +kernel
theorem d_X_attach_1 : decode b_X_attach 1 = .ok (.getfield 116, 3) := by decide +kernel
theorem d_X_attach_4 : decode b_X_attach 4 = .ok (.ifCond .eq 6, 3) := by decide +kernel
theorem d_X_attach_7 : decode b_X_attach 7 = .ok (.bipush (-2), 2) := by decide +kernel
theorem d_X_attach_9 : decode b_X_attach 9 = .ok (.ireturn, 1) := by decide +kernel
theorem d_X_attach_10 : decode b_X_attach 10 = .ok (.iload_n 2, 1) := by decide +kernel
theorem d_X_attach_11 : decode b_X_attach 11 = .ok (.invokestatic 49, 3) := by decide +kernel
theorem d_X_attach_14 : decode b_X_attach 14 = .ok (.ifCond .eq 18, 3) := by decide +kernel
theorem d_X_attach_17 : decode b_X_attach 17 = .ok (.iload_n 3, 1) := by decide +kernel
theorem d_X_attach_18 : decode b_X_attach 18 = .ok (.ifCond .lt 14, 3) := by decide +kernel
theorem d_X_attach_21 : decode b_X_attach 21 = .ok (.iload_n 3, 1) := by decide +kernel
theorem d_X_attach_22 : decode b_X_attach 22 = .ok (.aload_n 0, 1) := by decide +kernel
theorem d_X_attach_23 : decode b_X_attach 23 = .ok (.getfield 12, 3) := by decide +kernel
theorem d_X_attach_26 : decode b_X_attach 26 = .ok (.getfield 137, 3) := by decide +kernel
theorem d_X_attach_29 : decode b_X_attach 29 = .ok (.if_icmp .le 6, 3) := by decide +kernel
theorem d_X_attach_32 : decode b_X_attach 32 = .ok (.bipush (-7), 2) := by decide +kernel
theorem d_X_attach_34 : decode b_X_attach 34 = .ok (.ireturn, 1) := by decide +kernel
theorem d_X_attach_35 : decode b_X_attach 35 = .ok (.aload_n 0, 1) := by decide +kernel
theorem d_X_attach_36 : decode b_X_attach 36 = .ok (.getfield 12, 3) := by decide +kernel
theorem d_X_attach_39 : decode b_X_attach 39 = .ok (.iload_n 3, 1) := by decide +kernel
theorem d_X_attach_40 : decode b_X_attach 40 = .ok (.iconst 0, 1) := by decide +kernel
theorem d_X_attach_41 : decode b_X_attach 41 = .ok (.invokevirtual 205, 3) := by decide +kernel
theorem d_X_attach_44 : decode b_X_attach 44 = .ok (.astore 4, 2) := by decide +kernel
theorem d_X_attach_46 : decode b_X_attach 46 = .ok (.aload 4, 2) := by decide +kernel
theorem d_X_attach_48 : decode b_X_attach 48 = .ok (.ifnonnull 6, 3) := by decide +kernel
theorem d_X_attach_51 : decode b_X_attach 51 = .ok (.bipush (-13), 2) := by decide +kernel
theorem d_X_attach_53 : decode b_X_attach 53 = .ok (.ireturn, 1) := by decide +kernel
theorem d_X_attach_54 : decode b_X_attach 54 = .ok (.aload_n 1, 1) := by decide +kernel
theorem d_X_attach_55 : decode b_X_attach 55 = .ok (.iload_n 2, 1) := by decide +kernel
theorem d_X_attach_56 : decode b_X_attach 56 = .ok (.iload_n 3, 1) := by decide +kernel
theorem d_X_attach_57 : decode b_X_attach 57 = .ok (.iconst 0, 1) := by decide +kernel
theorem d_X_attach_58 : decode b_X_attach 58 = .ok (.invokevirtual 209, 3) := by decide +kernel
theorem d_X_attach_61 : decode b_X_attach 61 = .ok (.aload_n 0, 1) := by decide +kernel
theorem d_X_attach_62 : decode b_X_attach 62 = .ok (.aload 4, 2) := by decide +kernel
theorem d_X_attach_64 : decode b_X_attach 64 = .ok (.invokevirtual 213, 3) := by decide +kernel
theorem d_X_attach_67 : decode b_X_attach 67 = .ok (.iconst 0, 1) := by decide +kernel
theorem d_X_attach_68 : decode b_X_attach 68 = .ok (.ireturn, 1) := by decide +kernel
set_option maxHeartbeats 2000000 in
set_option maxRecDepth 20000 in
theorem ct_X_attach (E : mm_En) (C : Nat → Nat → Int32) {f s : Nat} (hf : fi_n f) (hs : C 1 1 = nI s) (h4 : s ≤ 4) (hk : C 201 1 = nI 0) (u x : Int32) : mm_MT E K_X_attach [.ref 0, .ref f, .int u, .int x] (hp_H C) (mm_D (some (.int (xa_R C f u x).1)) (xa_R C f u x).2) := by
  obtain ⟨s1, f1, f2⟩ := hf
  refine mm_mtL (by decide) (by rfl) (Nat.le_of_ble_eq_true rfl) rfl ?_
  refine ev_aload_n (pc := 0) d_X_attach_0 rfl rfl (by first | rfl | exact mm_rk_rf _) ?_
  refine ev_gI (pc := 1) (by first | with_reducible assumption | assumption) (by rfl) fl_X_116 d_X_attach_1 ?_
  refine ev_if_eq (pc := 4) (tgt := 10) d_X_attach_4 (by decide) (fun ha => ?_) (fun ha => ?_)
  rotate_left
  · refine ev_bipush (pc := 7) (v := -2) d_X_attach_7 (by decide) ?_
    exact ev_iret (pc := 9) d_X_attach_9 rfl (Nat.zero_le _) (Nat.zero_le _) ⟨by rw [xa_R, if_pos ha], by rw [xa_R, if_pos ha]⟩
  have ha' : ¬ ¬ C f 0 = 0 := fun z => z ha
  have bad : ¬ ((¬ u < 0 ∧ ¬ 4 ≤ u) ∧ ¬ x < 0 ∧ x ≤ C 1 1) → mm_D (some (.int (xa_R C f u x).1)) (xa_R C f u x).2 (some (.int (-7))) (hp_H C) := fun z => ⟨by rw [xa_R, if_neg ha', if_neg z], by rw [xa_R, if_neg ha', if_neg z]⟩
  refine ev_iload_n (pc := 10) d_X_attach_10 rfl rfl ?_
  refine ev_cS (pc := 11) (ct_X_isUser E C _) cl_X_49 js_X_isUser ⟨(Nat.le_of_ble_eq_true rfl), (Nat.le_of_ble_eq_true rfl)⟩ rfl rfl (Nat.le_of_ble_eq_true rfl) d_X_attach_11 ⟨Nat.zero_le _, Nat.zero_le _⟩ ?_
  refine ev_if_eq (pc := 14) (tgt := 32) d_X_attach_14 (by decide) (fun hb => ?_) (fun hb => ?_)
  · rw [b2_0] at hb
    refine ev_bipush (pc := 32) (v := -7) d_X_attach_32 (by decide) ?_
    exact ev_iret (pc := 34) d_X_attach_34 rfl (Nat.zero_le _) (Nat.zero_le _) (bad (fun z => hb z.1))
  rw [b2_0, Classical.not_not] at hb
  refine ev_iload_n (pc := 17) d_X_attach_17 rfl rfl ?_
  refine ev_if_lt (pc := 18) (tgt := 32) d_X_attach_18 (by decide) (fun hc => ?_) (fun hc => ?_)
  · refine ev_bipush (pc := 32) (v := -7) d_X_attach_32 (by decide) ?_
    exact ev_iret (pc := 34) d_X_attach_34 rfl (Nat.zero_le _) (Nat.zero_le _) (bad (fun z => z.2.1 hc))
  refine ev_iload_n (pc := 21) d_X_attach_21 rfl rfl ?_
  refine ev_aload_n (pc := 22) d_X_attach_22 rfl rfl (by first | rfl | exact mm_rk_rf _) ?_
  refine ev_gR (pc := 23) sh_X (by rfl) fl_X_12 d_X_attach_23 ?_
  refine ev_gI (pc := 26) sh_S (by rfl) fl_X_137 d_X_attach_26 ?_
  refine ev_icmp_le (pc := 29) (tgt := 35) d_X_attach_29 (by decide) (fun hd => ?_) (fun hd => ?_)
  rotate_left
  · refine ev_bipush (pc := 32) (v := -7) d_X_attach_32 (by decide) ?_
    exact ev_iret (pc := 34) d_X_attach_34 rfl (Nat.zero_le _) (Nat.zero_le _) (bad (fun z => hd z.2.2))
  have hok := And.intro hb (And.intro hc hd)
  obtain ⟨t, ht, rfl⟩ : ∃ t : Nat, t ≤ s ∧ x = nI t := nI_of2 (M := C 1 1) (by rw [hs, nI_toInt (by omega)]) hc hd
  have hcl : (nI t).toNatClampNeg = t := nI_clamp (by omega)
  have hF := ct_S_find E C (t := t) (by omega) 0
  unfold so_find at hF
  refine ev_aload_n (pc := 35) d_X_attach_35 rfl rfl (by first | rfl | exact mm_rk_rf _) ?_
  refine ev_gR (pc := 36) sh_X (by rfl) fl_X_12 d_X_attach_36 ?_
  refine ev_iload_n (pc := 39) d_X_attach_39 rfl rfl ?_
  refine ev_iconst (pc := 40) (v := 0) d_X_attach_40 rfl ?_
  refine ev_cV (pc := 41) hF cl_X_205 jv_S_find ⟨(Nat.le_of_ble_eq_true rfl), (Nat.le_of_ble_eq_true rfl)⟩ rfl sh_S rfl (Nat.le_of_ble_eq_true rfl) d_X_attach_41 ⟨Nat.zero_le _, Nat.zero_le _⟩ ?_
  refine ev_astore (pc := 44) d_X_attach_44 (by first | rfl | exact mm_rk_rf _) (Nat.le_of_ble_eq_true rfl) rfl ?_
  try dsimp only [List.set]
  refine ev_aload (pc := 46) d_X_attach_46 rfl (by first | rfl | exact mm_rk_rf _) ?_
  cases hq : so_i C t 0 with
  | none =>
    refine ev_ifnonnullN (pc := 48) d_X_attach_48 ?_
    refine ev_bipush (pc := 51) (v := -13) d_X_attach_51 (by decide) ?_
    exact ev_iret (pc := 53) d_X_attach_53 rfl (Nat.zero_le _) (Nat.zero_le _) ⟨by simp only [xa_R]; rw [if_neg ha', if_pos hok, hcl, hq], by simp only [xa_R]; rw [if_neg ha', if_pos hok, hcl, hq]⟩
  | some i =>
    have hi := so_i_lt hq
    have s3 := bk_s hi
    refine ev_ifnonnullR (pc := 48) (tgt := 54) d_X_attach_48 (by decide) ?_
    refine ev_aload_n (pc := 54) d_X_attach_54 rfl rfl (by first | rfl | exact mm_rk_rf _) ?_
    refine ev_iload_n (pc := 55) d_X_attach_55 rfl rfl ?_
    refine ev_iload_n (pc := 56) d_X_attach_56 rfl rfl ?_
    refine ev_iconst (pc := 57) (v := 0) d_X_attach_57 rfl ?_
    refine ev_cVv (pc := 58) (ct_F_take E C s1 u (nI t) 0) cl_X_209 jv_F_take ⟨(Nat.le_of_ble_eq_true rfl), (Nat.le_of_ble_eq_true rfl)⟩ rfl (by first | with_reducible assumption | assumption) rfl (Nat.le_of_ble_eq_true rfl) d_X_attach_58 ⟨Nat.zero_le _, Nat.zero_le _⟩ ?_
    refine ev_aload_n (pc := 61) d_X_attach_61 rfl rfl rfl ?_
    refine ev_aload (pc := 62) (v := .ref (bk i)) d_X_attach_62 rfl rfl ?_
    refine ev_cVv (pc := 64) (ct_X_replyWithMode E _ hi (k := 0) (by rw [ft_ne (by omega)]; exact hk) (by decide)) cl_X_213 jv_X_replyWithMode ⟨(Nat.le_of_ble_eq_true rfl), (Nat.le_of_ble_eq_true rfl)⟩ rfl sh_X rfl (Nat.le_of_ble_eq_true rfl) d_X_attach_64 ⟨Nat.zero_le _, Nat.zero_le _⟩ ?_
    refine ev_iconst (pc := 67) (v := 0) d_X_attach_67 rfl ?_
    exact ev_iret (pc := 68) d_X_attach_68 rfl (Nat.zero_le _) (Nat.zero_le _) ⟨by simp only [xa_R]; rw [if_neg ha', if_pos hok, hcl, hq], by simp only [xa_R]; rw [if_neg ha', if_pos hok, hcl, hq]⟩
/-- a node is taken away -/
def xr_fin (C : Nat → Nat → Int32) (i a : Nat) : Nat → Nat → Int32 := bl_lv (cs_C (cg_C C a) (bk (ob_i C a)) 7 (cg_C C a (bk (ob_i C a)) 7 + 1)) (bk i) 0
noncomputable def xr_R (C : Nat → Nat → Int32) (u : Int32) (t : Nat) (p : Int32) : Int32 × (Nat → Nat → Int32) := match so_i C t p with
  | none => (-13, C)
  | some i => if ¬ t = 0 then (-9, C) else (match so_abi C 0 i with
    | none => (-5, C)
    | some a => it_P (my_P C u a 2) (if 0 < so_nk C 0 (C (bk i) 2) then (-12, C) else if so_nb C + (0 + hr_n C 20 (some a)) ≤ 64 then (0, xr_fin C i a) else (-11, C)) (-5, C))
theorem d_X_removeNode_0 : decode b_X_removeNode 0 = .ok (.aload_n 0, 1) := by decide +kernel
theorem d_X_removeNode_1 : decode b_X_removeNode 1 = .ok (.getfield 12, 3) := by decide +kernel
theorem d_X_removeNode_4 : decode b_X_removeNode 4 = .ok (.iload_n 2, 1) := by decide +kernel
theorem d_X_removeNode_5 : decode b_X_removeNode 5 = .ok (.iload_n 3, 1) := by decide +kernel
theorem d_X_removeNode_6 : decode b_X_removeNode 6 = .ok (.invokevirtual 205, 3) := by decide +kernel
theorem d_X_removeNode_9 : decode b_X_removeNode 9 = .ok (.astore 4, 2) := by decide +kernel
theorem d_X_removeNode_11 : decode b_X_removeNode 11 = .ok (.aload 4, 2) := by decide +kernel
theorem d_X_removeNode_13 : decode b_X_removeNode 13 = .ok (.ifnonnull 6, 3) := by decide +kernel
theorem d_X_removeNode_16 : decode b_X_removeNode 16 = .ok (.bipush (-13), 2) := by decide +kernel
theorem d_X_removeNode_18 : decode b_X_removeNode 18 = .ok (.ireturn, 1) := by decide +kernel
theorem d_X_removeNode_19 : decode b_X_removeNode 19 = .ok (.iload_n 2, 1) := by decide +kernel
theorem d_X_removeNode_20 : decode b_X_removeNode 20 = .ok (.ifCond .eq 6, 3) := by decide +kernel
theorem d_X_removeNode_23 : decode b_X_removeNode 23 = .ok (.bipush (-9), 2) := by decide +kernel
theorem d_X_removeNode_25 : decode b_X_removeNode 25 = .ok (.ireturn, 1) := by decide +kernel
theorem d_X_removeNode_26 : decode b_X_removeNode 26 = .ok (.aload_n 0, 1) := by decide +kernel
theorem d_X_removeNode_27 : decode b_X_removeNode 27 = .ok (.getfield 12, 3) := by decide +kernel
theorem d_X_removeNode_30 : decode b_X_removeNode 30 = .ok (.iconst 0, 1) := by decide +kernel
theorem d_X_removeNode_31 : decode b_X_removeNode 31 = .ok (.aload 4, 2) := by decide +kernel
theorem d_X_removeNode_33 : decode b_X_removeNode 33 = .ok (.invokevirtual 297, 3) := by decide +kernel
theorem d_X_removeNode_36 : decode b_X_removeNode 36 = .ok (.astore 5, 2) := by decide +kernel
theorem d_X_removeNode_38 : decode b_X_removeNode 38 = .ok (.aload 5, 2) := by decide +kernel
theorem d_X_removeNode_40 : decode b_X_removeNode 40 = .ok (.ifnull 17, 3) := by decide +kernel
theorem d_X_removeNode_43 : decode b_X_removeNode 43 = .ok (.aload_n 0, 1) := by decide +kernel
theorem d_X_removeNode_44 : decode b_X_removeNode 44 = .ok (.getfield 19, 3) := by decide +kernel
theorem d_X_removeNode_47 : decode b_X_removeNode 47 = .ok (.iload_n 1, 1) := by decide +kernel
theorem d_X_removeNode_48 : decode b_X_removeNode 48 = .ok (.aload 5, 2) := by decide +kernel
theorem d_X_removeNode_50 : decode b_X_removeNode 50 = .ok (.iconst 2, 1) := by decide +kernel
theorem d_X_removeNode_51 : decode b_X_removeNode 51 = .ok (.invokevirtual 250, 3) := by decide +kernel
theorem d_X_removeNode_54 : decode b_X_removeNode 54 = .ok (.ifCond .ne 6, 3) := by decide +kernel
theorem d_X_removeNode_57 : decode b_X_removeNode 57 = .ok (.bipush (-5), 2) := by decide +kernel
theorem d_X_removeNode_59 : decode b_X_removeNode 59 = .ok (.ireturn, 1) := by decide +kernel
theorem d_X_removeNode_60 : decode b_X_removeNode 60 = .ok (.aload_n 0, 1) := by decide +kernel
theorem d_X_removeNode_61 : decode b_X_removeNode 61 = .ok (.getfield 12, 3) := by decide +kernel
theorem d_X_removeNode_64 : decode b_X_removeNode 64 = .ok (.iconst 0, 1) := by decide +kernel
theorem d_X_removeNode_65 : decode b_X_removeNode 65 = .ok (.aload 4, 2) := by decide +kernel
theorem d_X_removeNode_67 : decode b_X_removeNode 67 = .ok (.invokevirtual 359, 3) := by decide +kernel
theorem d_X_removeNode_70 : decode b_X_removeNode 70 = .ok (.ifCond .le 6, 3) := by decide +kernel
theorem d_X_removeNode_73 : decode b_X_removeNode 73 = .ok (.bipush (-12), 2) := by decide +kernel
theorem d_X_removeNode_75 : decode b_X_removeNode 75 = .ok (.ireturn, 1) := by decide +kernel
theorem d_X_removeNode_76 : decode b_X_removeNode 76 = .ok (.aload_n 0, 1) := by decide +kernel
theorem d_X_removeNode_77 : decode b_X_removeNode 77 = .ok (.getfield 12, 3) := by decide +kernel
theorem d_X_removeNode_80 : decode b_X_removeNode 80 = .ok (.aload 5, 2) := by decide +kernel
theorem d_X_removeNode_82 : decode b_X_removeNode 82 = .ok (.iconst 0, 1) := by decide +kernel
theorem d_X_removeNode_83 : decode b_X_removeNode 83 = .ok (.invokevirtual 261, 3) := by decide +kernel
theorem d_X_removeNode_86 : decode b_X_removeNode 86 = .ok (.ifCond .ne 6, 3) := by decide +kernel
theorem d_X_removeNode_89 : decode b_X_removeNode 89 = .ok (.bipush (-11), 2) := by decide +kernel
theorem d_X_removeNode_91 : decode b_X_removeNode 91 = .ok (.ireturn, 1) := by decide +kernel
theorem d_X_removeNode_92 : decode b_X_removeNode 92 = .ok (.aload_n 0, 1) := by decide +kernel
theorem d_X_removeNode_93 : decode b_X_removeNode 93 = .ok (.getfield 12, 3) := by decide +kernel
theorem d_X_removeNode_96 : decode b_X_removeNode 96 = .ok (.aload 5, 2) := by decide +kernel
theorem d_X_removeNode_98 : decode b_X_removeNode 98 = .ok (.invokevirtual 265, 3) := by decide +kernel
theorem d_X_removeNode_101 : decode b_X_removeNode 101 = .ok (.dup, 1) := by decide +kernel
theorem d_X_removeNode_102 : decode b_X_removeNode 102 = .ok (.getfield 272, 3) := by decide +kernel
theorem d_X_removeNode_105 : decode b_X_removeNode 105 = .ok (.iconst 1, 1) := by decide +kernel
theorem d_X_removeNode_106 : decode b_X_removeNode 106 = .ok (.iadd, 1) := by decide +kernel
theorem d_X_removeNode_107 : decode b_X_removeNode 107 = .ok (.putfield 272, 3) := by decide +kernel
theorem d_X_removeNode_110 : decode b_X_removeNode 110 = .ok (.aload 4, 2) := by decide +kernel
theorem d_X_removeNode_112 : decode b_X_removeNode 112 = .ok (.iconst 0, 1) := by decide +kernel
theorem d_X_removeNode_113 : decode b_X_removeNode 113 = .ok (.invokevirtual 363, 3) := by decide +kernel
theorem d_X_removeNode_116 : decode b_X_removeNode 116 = .ok (.iconst 0, 1) := by decide +kernel
theorem d_X_removeNode_117 : decode b_X_removeNode 117 = .ok (.ireturn, 1) := by decide +kernel
set_option maxHeartbeats 2000000 in
set_option maxRecDepth 20000 in
theorem ct_X_removeNode (E : mm_En) (C : Nat → Nat → Int32) {t : Nat} (ht : t ≤ 4) (u p : Int32) : mm_MT E K_X_removeNode [.ref 0, .int u, .int (nI t), .int p] (hp_H C) (mm_D (some (.int (xr_R C u t p).1)) (xr_R C u t p).2) := by
  have hF := ct_S_find E C (t := t) (by omega) p
  unfold so_find at hF
  refine mm_mtL (by decide) (by rfl) (Nat.le_of_ble_eq_true rfl) rfl ?_
  refine ev_aload_n (pc := 0) d_X_removeNode_0 rfl rfl (by first | rfl | exact mm_rk_rf _) ?_
  refine ev_gR (pc := 1) sh_X (by rfl) fl_X_12 d_X_removeNode_1 ?_
  refine ev_iload_n (pc := 4) d_X_removeNode_4 rfl rfl ?_
  refine ev_iload_n (pc := 5) d_X_removeNode_5 rfl rfl ?_
  refine ev_cV (pc := 6) hF cl_X_205 jv_S_find ⟨(Nat.le_of_ble_eq_true rfl), (Nat.le_of_ble_eq_true rfl)⟩ rfl sh_S rfl (Nat.le_of_ble_eq_true rfl) d_X_removeNode_6 ⟨Nat.zero_le _, Nat.zero_le _⟩ ?_
  refine ev_astore (pc := 9) d_X_removeNode_9 (by first | rfl | exact mm_rk_rf _) (Nat.le_of_ble_eq_true rfl) rfl ?_
  try dsimp only [List.set]
  refine ev_aload (pc := 11) d_X_removeNode_11 rfl (by first | rfl | exact mm_rk_rf _) ?_
  cases hq : so_i C t p with
  | none =>
    refine ev_ifnonnullN (pc := 13) d_X_removeNode_13 ?_
    refine ev_bipush (pc := 16) (v := -13) d_X_removeNode_16 (by decide) ?_
    exact ev_iret (pc := 18) d_X_removeNode_18 rfl (Nat.zero_le _) (Nat.zero_le _) ⟨by simp only [xr_R]; rw [hq], by simp only [xr_R]; rw [hq]⟩
  | some i =>
    have hi := so_i_lt hq
    have s3 := bk_s hi
    refine ev_ifnonnullR (pc := 13) (tgt := 19) d_X_removeNode_13 (by decide) ?_
    refine ev_eq rfl (show _ = [some (.ref 0), some (.int u), some (.int (nI t)), some (.int p), some (.ref (bk i)), none] from rfl) rfl rfl rfl rfl ?_
    refine ev_iload_n (pc := 19) d_X_removeNode_19 rfl rfl ?_
    refine ev_if_eq (pc := 20) (tgt := 26) d_X_removeNode_20 (by decide) (fun ha => ?_) (fun ha => ?_)
    rotate_left
    · have h0 : ¬ t = 0 := fun z => ha (by rw [z]; rfl)
      refine ev_bipush (pc := 23) (v := -9) d_X_removeNode_23 (by decide) ?_
      exact ev_iret (pc := 25) d_X_removeNode_25 rfl (Nat.zero_le _) (Nat.zero_le _) ⟨by simp only [xr_R]; rw [hq]; simp only []; rw [if_pos h0], by simp only [xr_R]; rw [hq]; simp only []; rw [if_pos h0]⟩
    have h0 : t = 0 := by
      have := (nI_eq (a := t) (b := 0) (by omega) (by decide)).mp ha
      exact this
    subst h0
    have e1 : xr_R C u 0 p = (match so_abi C 0 i with
      | none => (-5, C)
      | some a => it_P (my_P C u a 2) (if 0 < so_nk C 0 (C (bk i) 2) then (-12, C) else if so_nb C + (0 + hr_n C 20 (some a)) ≤ 64 then (0, xr_fin C i a) else (-11, C)) (-5, C)) := by
      simp only [xr_R]
      rw [hq]
      simp
    rw [e1]
    refine ev_aload_n (pc := 26) d_X_removeNode_26 rfl rfl (by first | rfl | exact mm_rk_rf _) ?_
    refine ev_gR (pc := 27) sh_X (by rfl) fl_X_12 d_X_removeNode_27 ?_
    refine ev_iconst (pc := 30) (v := 0) d_X_removeNode_30 rfl ?_
    refine ev_aload (pc := 31) d_X_removeNode_31 rfl (by first | rfl | exact mm_rk_rf _) ?_
    refine ev_cV (pc := 33) (ct_S_aboveI E C (t := 0) (by decide) hi) cl_X_297 jv_S_above ⟨(Nat.le_of_ble_eq_true rfl), (Nat.le_of_ble_eq_true rfl)⟩ rfl sh_S rfl (Nat.le_of_ble_eq_true rfl) d_X_removeNode_33 ⟨Nat.zero_le _, Nat.zero_le _⟩ ?_
    refine ev_astore (pc := 36) d_X_removeNode_36 (by first | rfl | exact mm_rk_rf _) (Nat.le_of_ble_eq_true rfl) rfl ?_
    try dsimp only [List.set]
    refine ev_aload (pc := 38) d_X_removeNode_38 rfl (by first | rfl | exact mm_rk_rf _) ?_
    cases hb : so_abi C 0 i with
    | none =>
      refine ev_ifnullN (pc := 40) (tgt := 57) d_X_removeNode_40 (by decide) ?_
      refine ev_bipush (pc := 57) (v := -5) d_X_removeNode_57 (by decide) ?_
      exact ev_iret (pc := 59) d_X_removeNode_59 rfl (Nat.zero_le _) (Nat.zero_le _) ⟨rfl, rfl⟩
    | some a =>
      have hal := so_abi_lt hb
      have s4 := bk_s hal
      refine ev_ifnullR (pc := 40) d_X_removeNode_40 ?_
      refine ev_eq rfl (show _ = [some (.ref 0), some (.int u), some (.int (nI 0)), some (.int p), some (.ref (bk i)), some (.ref (bk a))] from rfl) rfl rfl rfl rfl ?_
      refine ev_aload_n (pc := 43) d_X_removeNode_43 rfl rfl (by first | rfl | exact mm_rk_rf _) ?_
      refine ev_gR (pc := 44) sh_X (by rfl) fl_X_19 d_X_removeNode_44 ?_
      refine ev_iload_n (pc := 47) d_X_removeNode_47 rfl rfl ?_
      refine ev_aload (pc := 48) d_X_removeNode_48 rfl (by first | rfl | exact mm_rk_rf _) ?_
      refine ev_iconst (pc := 50) (v := 2) d_X_removeNode_50 rfl ?_
      refine ev_cV (pc := 51) (ct_mayI E C hal _ 2) cl_X_250 jv_M_may ⟨(Nat.le_of_ble_eq_true rfl), (Nat.le_of_ble_eq_true rfl)⟩ rfl sh_M rfl (Nat.le_of_ble_eq_true rfl) d_X_removeNode_51 ⟨Nat.zero_le _, Nat.zero_le _⟩ ?_
      refine ev_if_ne (pc := 54) (tgt := 60) d_X_removeNode_54 (by decide) (fun hc => ?_) (fun hc => ?_)
      rotate_left
      · rw [b3_0] at hc
        refine ev_bipush (pc := 57) (v := -5) d_X_removeNode_57 (by decide) ?_
        exact ev_iret (pc := 59) d_X_removeNode_59 rfl (Nat.zero_le _) (Nat.zero_le _) ⟨by simp only []; rw [it_f hc], by simp only []; rw [it_f hc]⟩
      rw [b3_0, Classical.not_not] at hc
      simp only []
      rw [it_t hc]
      have hnk : so_nk C 0 (C (bk i) 2) ≤ 64 := fx_c_le _ 64 0
      refine ev_aload_n (pc := 60) d_X_removeNode_60 rfl rfl (by first | rfl | exact mm_rk_rf _) ?_
      refine ev_gR (pc := 61) sh_X (by rfl) fl_X_12 d_X_removeNode_61 ?_
      refine ev_iconst (pc := 64) (v := 0) d_X_removeNode_64 rfl ?_
      refine ev_aload (pc := 65) d_X_removeNode_65 rfl (by first | rfl | exact mm_rk_rf _) ?_
      refine ev_cV (pc := 67) (ct_S_countChildren E C (t := 0) (by decide) s3) cl_X_359 jv_S_countChildren ⟨(Nat.le_of_ble_eq_true rfl), (Nat.le_of_ble_eq_true rfl)⟩ rfl sh_S rfl (Nat.le_of_ble_eq_true rfl) d_X_removeNode_67 ⟨Nat.zero_le _, Nat.zero_le _⟩ ?_
      refine ev_if_le (pc := 70) (tgt := 76) d_X_removeNode_70 (by decide) (fun hd => ?_) (fun hd => ?_)
      rotate_left
      · have h9 : 0 < so_nk C 0 (C (bk i) 2) := Nat.pos_of_ne_zero (fun z => hd (by rw [z]; exact Int32.le_refl _))
        refine ev_bipush (pc := 73) (v := -12) d_X_removeNode_73 (by decide) ?_
        exact ev_iret (pc := 75) d_X_removeNode_75 rfl (Nat.zero_le _) (Nat.zero_le _) ⟨by rw [if_pos h9], by rw [if_pos h9]⟩
      have h9 : ¬ 0 < so_nk C 0 (C (bk i) 2) := fun z => absurd hd (nI_nle z (by omega))
      rw [if_neg h9]
      refine ev_aload_n (pc := 76) d_X_removeNode_76 rfl rfl (by first | rfl | exact mm_rk_rf _) ?_
      refine ev_gR (pc := 77) sh_X (by rfl) fl_X_12 d_X_removeNode_77 ?_
      refine ev_aload (pc := 80) d_X_removeNode_80 rfl (by first | rfl | exact mm_rk_rf _) ?_
      refine ev_iconst (pc := 82) (v := 0) d_X_removeNode_82 rfl ?_
      refine ev_cV (pc := 83) (ct_S_hasRoom E C (w := 0) hal (by decide)) cl_X_261 jv_S_hasRoom ⟨(Nat.le_of_ble_eq_true rfl), (Nat.le_of_ble_eq_true rfl)⟩ rfl sh_S rfl (Nat.le_of_ble_eq_true rfl) d_X_removeNode_83 ⟨Nat.zero_le _, Nat.zero_le _⟩ ?_
      refine ev_if_ne (pc := 86) (tgt := 92) d_X_removeNode_86 (by decide) (fun he => ?_) (fun he => ?_)
      rotate_left
      · rw [b2_0] at he
        refine ev_bipush (pc := 89) (v := -11) d_X_removeNode_89 (by decide) ?_
        exact ev_iret (pc := 91) d_X_removeNode_91 rfl (Nat.zero_le _) (Nat.zero_le _) ⟨by rw [if_neg he], by rw [if_neg he]⟩
      rw [b2_0, Classical.not_not] at he
      rw [if_pos he]
      refine ev_aload_n (pc := 92) d_X_removeNode_92 rfl rfl (by first | rfl | exact mm_rk_rf _) ?_
      refine ev_gR (pc := 93) sh_X (by rfl) fl_X_12 d_X_removeNode_93 ?_
      refine ev_aload (pc := 96) d_X_removeNode_96 rfl (by first | rfl | exact mm_rk_rf _) ?_
      refine ev_cV (pc := 98) (ct_S_change E C hal) cl_X_265 jv_S_change ⟨(Nat.le_of_ble_eq_true rfl), (Nat.le_of_ble_eq_true rfl)⟩ rfl sh_S rfl (Nat.le_of_ble_eq_true rfl) d_X_removeNode_98 ⟨Nat.zero_le _, Nat.zero_le _⟩ ?_
      have s5 := bk_s (ob_i_lt (C := C) hal)
      refine ev_dup (pc := 101) d_X_removeNode_101 (by rfl) ?_
      refine ev_gI (pc := 102) (by first | with_reducible assumption | assumption) (by rfl) fl_X_272 d_X_removeNode_102 ?_
      refine ev_iconst (pc := 105) (v := 1) d_X_removeNode_105 rfl ?_
      refine ev_iadd (pc := 106) d_X_removeNode_106 ?_
      refine ev_pI (pc := 107) (by first | with_reducible assumption | assumption) (by rfl) fl_X_272 fw_0_7 (by rfl) d_X_removeNode_107 ?_
      refine ev_aload (pc := 110) d_X_removeNode_110 rfl (by first | rfl | exact mm_rk_rf _) ?_
      refine ev_iconst (pc := 112) (v := 0) d_X_removeNode_112 rfl ?_
      refine ev_cVv (pc := 113) (ct_B_leave E _ s3 0) cl_X_363 jv_B_leave ⟨(Nat.le_of_ble_eq_true rfl), (Nat.le_of_ble_eq_true rfl)⟩ rfl (by first | with_reducible assumption | assumption) rfl (Nat.le_of_ble_eq_true rfl) d_X_removeNode_113 ⟨Nat.zero_le _, Nat.zero_le _⟩ ?_
      refine ev_iconst (pc := 116) (v := 0) d_X_removeNode_116 rfl ?_
      exact ev_iret (pc := 117) d_X_removeNode_117 rfl (Nat.zero_le _) (Nat.zero_le _) ⟨rfl, rfl⟩
theorem d_X_clunk_0 : decode b_X_clunk 0 = .ok (.aload_n 1, 1) := by decide +kernel
theorem d_X_clunk_1 : decode b_X_clunk 1 = .ok (.getfield 116, 3) := by decide +kernel
theorem d_X_clunk_4 : decode b_X_clunk 4 = .ok (.ifCond .ne 5, 3) := by decide +kernel
theorem d_X_clunk_7 : decode b_X_clunk 7 = .ok (.iconst (-1), 1) := by decide +kernel
theorem d_X_clunk_8 : decode b_X_clunk 8 = .ok (.ireturn, 1) := by decide +kernel
theorem d_X_clunk_9 : decode b_X_clunk 9 = .ok (.aload_n 1, 1) := by decide +kernel
theorem d_X_clunk_10 : decode b_X_clunk 10 = .ok (.getfield 121, 3) := by decide +kernel
theorem d_X_clunk_13 : decode b_X_clunk 13 = .ok (.ifCond .eq 17, 3) := by decide +kernel
theorem d_X_clunk_16 : decode b_X_clunk 16 = .ok (.aload_n 1, 1) := by decide +kernel
theorem d_X_clunk_17 : decode b_X_clunk 17 = .ok (.getfield 317, 3) := by decide +kernel
theorem d_X_clunk_20 : decode b_X_clunk 20 = .ok (.bipush 64, 2) := by decide +kernel
theorem d_X_clunk_22 : decode b_X_clunk 22 = .ok (.iand, 1) := by decide +kernel
theorem d_X_clunk_23 : decode b_X_clunk 23 = .ok (.ifCond .eq 7, 3) := by decide +kernel
theorem d_X_clunk_26 : decode b_X_clunk 26 = .ok (.iconst 1, 1) := by decide +kernel
theorem d_X_clunk_27 : decode b_X_clunk 27 = .ok (.goto 4, 3) := by decide +kernel
theorem d_X_clunk_30 : decode b_X_clunk 30 = .ok (.iconst 0, 1) := by decide +kernel
theorem d_X_clunk_31 : decode b_X_clunk 31 = .ok (.istore_n 2, 1) := by decide +kernel
theorem d_X_clunk_32 : decode b_X_clunk 32 = .ok (.aload_n 1, 1) := by decide +kernel
theorem d_X_clunk_33 : decode b_X_clunk 33 = .ok (.invokevirtual 351, 3) := by decide +kernel
theorem d_X_clunk_36 : decode b_X_clunk 36 = .ok (.iload_n 2, 1) := by decide +kernel
theorem d_X_clunk_37 : decode b_X_clunk 37 = .ok (.ifCond .eq 20, 3) := by decide +kernel
theorem d_X_clunk_40 : decode b_X_clunk 40 = .ok (.aload_n 0, 1) := by decide +kernel
theorem d_X_clunk_41 : decode b_X_clunk 41 = .ok (.aload_n 1, 1) := by decide +kernel
theorem d_X_clunk_42 : decode b_X_clunk 42 = .ok (.getfield 237, 3) := by decide +kernel
theorem d_X_clunk_45 : decode b_X_clunk 45 = .ok (.aload_n 1, 1) := by decide +kernel
theorem d_X_clunk_46 : decode b_X_clunk 46 = .ok (.getfield 225, 3) := by decide +kernel
theorem d_X_clunk_49 : decode b_X_clunk 49 = .ok (.aload_n 1, 1) := by decide +kernel
theorem d_X_clunk_50 : decode b_X_clunk 50 = .ok (.getfield 354, 3) := by decide +kernel
theorem d_X_clunk_53 : decode b_X_clunk 53 = .ok (.invokevirtual 355, 3) := by decide +kernel
theorem d_X_clunk_56 : decode b_X_clunk 56 = .ok (.pop, 1) := by decide +kernel
theorem d_X_clunk_57 : decode b_X_clunk 57 = .ok (.iconst 0, 1) := by decide +kernel
theorem d_X_clunk_58 : decode b_X_clunk 58 = .ok (.ireturn, 1) := by decide +kernel
noncomputable def xk_R (C : Nat → Nat → Int32) (f t : Nat) : Int32 × (Nat → Nat → Int32) := if C f 0 = 0 then (-1, C) else if ¬ C f 1 = 0 ∧ ¬ (C f 5 &&& 64) = 0 then (0, (xr_R (fi_free C f) (C f 2) t (C f 4)).2) else (0, fi_free C f)
theorem ff_ne {C : Nat → Nat → Int32} {f a j : Nat} (h : ¬ (a = f ∧ j < 2)) : fi_free C f a j = C a j := by
  unfold fi_free
  rw [cs_ne _ _ (by omega), cs_ne _ _ (by omega)]
set_option maxHeartbeats 2000000 in
set_option maxRecDepth 20000 in
theorem ct_X_clunk (E : mm_En) (C : Nat → Nat → Int32) {f t : Nat} (hf : fi_n f) (ht : t ≤ 4) (he : C f 3 = nI t) : mm_MT E K_X_clunk [.ref 0, .ref f] (hp_H C) (mm_D (some (.int (xk_R C f t).1)) (xk_R C f t).2) := by
  obtain ⟨s1, f1, f2⟩ := hf
  have t31 : ∀ z : Int32, ¬ C f 0 = 0 → (z = 0 ↔ ¬ (¬ C f 1 = 0 ∧ ¬ (C f 5 &&& 64) = 0)) → ev_At E K_X_clunk 31 [some (.ref 0), some (.ref f), none] [.int z] (hp_H C) 0 0 (mm_D (some (.int (xk_R C f t).1)) (xk_R C f t).2) := by
    intro z h0 hz
    refine ev_istore_n (pc := 31) d_X_clunk_31 rfl (Nat.le_of_ble_eq_true rfl) rfl ?_
    try dsimp only [List.set]
    refine ev_aload_n (pc := 32) d_X_clunk_32 rfl rfl (by first | rfl | exact mm_rk_rf _) ?_
    refine ev_cVv (pc := 33) (ct_F_free E C s1) cl_X_351 jv_F_free ⟨(Nat.le_of_ble_eq_true rfl), (Nat.le_of_ble_eq_true rfl)⟩ rfl (by first | with_reducible assumption | assumption) rfl (Nat.le_of_ble_eq_true rfl) d_X_clunk_33 ⟨Nat.zero_le _, Nat.zero_le _⟩ ?_
    refine ev_iload_n (pc := 36) d_X_clunk_36 rfl rfl ?_
    refine ev_if_eq (pc := 37) (tgt := 57) d_X_clunk_37 (by decide) (fun ha => ?_) (fun ha => ?_)
    · have h9 := hz.mp ha
      refine ev_iconst (pc := 57) (v := 0) d_X_clunk_57 rfl ?_
      exact ev_iret (pc := 58) d_X_clunk_58 rfl (Nat.zero_le _) (Nat.zero_le _) ⟨by rw [xk_R, if_neg h0, if_neg h9], by rw [xk_R, if_neg h0, if_neg h9]⟩
    · have h9 : ¬ C f 1 = 0 ∧ ¬ (C f 5 &&& 64) = 0 := Classical.not_not.mp (fun y => ha (hz.mpr y))
      refine ev_aload_n (pc := 40) d_X_clunk_40 rfl rfl (by first | rfl | exact mm_rk_rf _) ?_
      refine ev_aload_n (pc := 41) d_X_clunk_41 rfl rfl (by first | rfl | exact mm_rk_rf _) ?_
      refine ev_gI (pc := 42) (by first | with_reducible assumption | assumption) (by rfl) fl_X_237 d_X_clunk_42 ?_
      refine ev_aload_n (pc := 45) d_X_clunk_45 rfl rfl (by first | rfl | exact mm_rk_rf _) ?_
      refine ev_gI (pc := 46) (by first | with_reducible assumption | assumption) (by rfl) fl_X_225 d_X_clunk_46 ?_
      refine ev_aload_n (pc := 49) d_X_clunk_49 rfl rfl (by first | rfl | exact mm_rk_rf _) ?_
      refine ev_gI (pc := 50) (by first | with_reducible assumption | assumption) (by rfl) fl_X_354 d_X_clunk_50 ?_
      rw [ff_ne (by omega), ff_ne (by omega), ff_ne (by omega), he]
      refine ev_cV (pc := 53) (ct_X_removeNode E _ ht _ _) cl_X_355 jv_X_removeNode ⟨(Nat.le_of_ble_eq_true rfl), (Nat.le_of_ble_eq_true rfl)⟩ rfl sh_X rfl (Nat.le_of_ble_eq_true rfl) d_X_clunk_53 ⟨Nat.zero_le _, Nat.zero_le _⟩ ?_
      refine ev_pop (pc := 56) d_X_clunk_56 (by rfl) ?_
      refine ev_iconst (pc := 57) (v := 0) d_X_clunk_57 rfl ?_
      exact ev_iret (pc := 58) d_X_clunk_58 rfl (Nat.zero_le _) (Nat.zero_le _) ⟨by rw [xk_R, if_neg h0, if_pos h9], by rw [xk_R, if_neg h0, if_pos h9]⟩
  refine mm_mtL (by decide) (by rfl) (Nat.le_of_ble_eq_true rfl) rfl ?_
  refine ev_aload_n (pc := 0) d_X_clunk_0 rfl rfl (by first | rfl | exact mm_rk_rf _) ?_
  refine ev_gI (pc := 1) (by first | with_reducible assumption | assumption) (by rfl) fl_X_116 d_X_clunk_1 ?_
  refine ev_if_ne (pc := 4) (tgt := 9) d_X_clunk_4 (by decide) (fun ha => ?_) (fun ha => ?_)
  rotate_left
  · refine ev_iconst (pc := 7) (v := -1) d_X_clunk_7 rfl ?_
    exact ev_iret (pc := 8) d_X_clunk_8 rfl (Nat.zero_le _) (Nat.zero_le _) ⟨by rw [xk_R, if_pos ha], by rw [xk_R, if_pos ha]⟩
  refine ev_aload_n (pc := 9) d_X_clunk_9 rfl rfl (by first | rfl | exact mm_rk_rf _) ?_
  refine ev_gI (pc := 10) (by first | with_reducible assumption | assumption) (by rfl) fl_X_121 d_X_clunk_10 ?_
  refine ev_if_eq (pc := 13) (tgt := 30) d_X_clunk_13 (by decide) (fun hb => ?_) (fun hb => ?_)
  · refine ev_iconst (pc := 30) (v := 0) d_X_clunk_30 rfl ?_
    exact t31 0 ha ⟨fun _ z => z.1 hb, fun _ => rfl⟩
  refine ev_aload_n (pc := 16) d_X_clunk_16 rfl rfl (by first | rfl | exact mm_rk_rf _) ?_
  refine ev_gI (pc := 17) (by first | with_reducible assumption | assumption) (by rfl) fl_X_317 d_X_clunk_17 ?_
  refine ev_bipush (pc := 20) (v := 64) d_X_clunk_20 (by decide) ?_
  refine ev_iand (pc := 22) d_X_clunk_22 ?_
  refine ev_if_eq (pc := 23) (tgt := 30) d_X_clunk_23 (by decide) (fun hc => ?_) (fun hc => ?_)
  · refine ev_iconst (pc := 30) (v := 0) d_X_clunk_30 rfl ?_
    exact t31 0 ha ⟨fun _ z => z.2 hc, fun _ => rfl⟩
  · refine ev_iconst (pc := 26) (v := 1) d_X_clunk_26 rfl ?_
    refine ev_goto (pc := 27) (tgt := 31) d_X_clunk_27 (by decide) ?_
    exact t31 1 ha ⟨fun z => absurd z (by decide), fun z => absurd ⟨hb, hc⟩ z⟩
theorem d_X_remove_0 : decode b_X_remove 0 = .ok (.aload_n 1, 1) := by decide +kernel
theorem d_X_remove_1 : decode b_X_remove 1 = .ok (.getfield 116, 3) := by decide +kernel
theorem d_X_remove_4 : decode b_X_remove 4 = .ok (.ifCond .ne 5, 3) := by decide +kernel
theorem d_X_remove_7 : decode b_X_remove 7 = .ok (.iconst (-1), 1) := by decide +kernel
theorem d_X_remove_8 : decode b_X_remove 8 = .ok (.ireturn, 1) := by decide +kernel
theorem d_X_remove_9 : decode b_X_remove 9 = .ok (.aload_n 1, 1) := by decide +kernel
theorem d_X_remove_10 : decode b_X_remove 10 = .ok (.invokevirtual 351, 3) := by decide +kernel
theorem d_X_remove_13 : decode b_X_remove 13 = .ok (.aload_n 0, 1) := by decide +kernel
theorem d_X_remove_14 : decode b_X_remove 14 = .ok (.aload_n 1, 1) := by decide +kernel
theorem d_X_remove_15 : decode b_X_remove 15 = .ok (.getfield 237, 3) := by decide +kernel
theorem d_X_remove_18 : decode b_X_remove 18 = .ok (.aload_n 1, 1) := by decide +kernel
theorem d_X_remove_19 : decode b_X_remove 19 = .ok (.getfield 225, 3) := by decide +kernel
theorem d_X_remove_22 : decode b_X_remove 22 = .ok (.aload_n 1, 1) := by decide +kernel
theorem d_X_remove_23 : decode b_X_remove 23 = .ok (.getfield 354, 3) := by decide +kernel
theorem d_X_remove_26 : decode b_X_remove 26 = .ok (.invokevirtual 355, 3) := by decide +kernel
theorem d_X_remove_29 : decode b_X_remove 29 = .ok (.ireturn, 1) := by decide +kernel
noncomputable def xv_R (C : Nat → Nat → Int32) (f t : Nat) : Int32 × (Nat → Nat → Int32) := if C f 0 = 0 then (-1, C) else xr_R (fi_free C f) (C f 2) t (C f 4)
set_option maxRecDepth 20000 in
theorem ct_X_remove (E : mm_En) (C : Nat → Nat → Int32) {f t : Nat} (hf : fi_n f) (ht : t ≤ 4) (he : C f 3 = nI t) : mm_MT E K_X_remove [.ref 0, .ref f] (hp_H C) (mm_D (some (.int (xv_R C f t).1)) (xv_R C f t).2) := by
  obtain ⟨s1, f1, f2⟩ := hf
  refine mm_mtL (by decide) (by rfl) (Nat.le_of_ble_eq_true rfl) rfl ?_
  refine ev_aload_n (pc := 0) d_X_remove_0 rfl rfl (by first | rfl | exact mm_rk_rf _) ?_
  refine ev_gI (pc := 1) (by first | with_reducible assumption | assumption) (by rfl) fl_X_116 d_X_remove_1 ?_
  refine ev_if_ne (pc := 4) (tgt := 9) d_X_remove_4 (by decide) (fun ha => ?_) (fun ha => ?_)
  rotate_left
  · refine ev_iconst (pc := 7) (v := -1) d_X_remove_7 rfl ?_
    exact ev_iret (pc := 8) d_X_remove_8 rfl (Nat.zero_le _) (Nat.zero_le _) ⟨by rw [xv_R, if_pos ha], by rw [xv_R, if_pos ha]⟩
  refine ev_aload_n (pc := 9) d_X_remove_9 rfl rfl (by first | rfl | exact mm_rk_rf _) ?_
  refine ev_cVv (pc := 10) (ct_F_free E C s1) cl_X_351 jv_F_free ⟨(Nat.le_of_ble_eq_true rfl), (Nat.le_of_ble_eq_true rfl)⟩ rfl (by first | with_reducible assumption | assumption) rfl (Nat.le_of_ble_eq_true rfl) d_X_remove_10 ⟨Nat.zero_le _, Nat.zero_le _⟩ ?_
  refine ev_aload_n (pc := 13) d_X_remove_13 rfl rfl (by first | rfl | exact mm_rk_rf _) ?_
  refine ev_aload_n (pc := 14) d_X_remove_14 rfl rfl (by first | rfl | exact mm_rk_rf _) ?_
  refine ev_gI (pc := 15) (by first | with_reducible assumption | assumption) (by rfl) fl_X_237 d_X_remove_15 ?_
  refine ev_aload_n (pc := 18) d_X_remove_18 rfl rfl (by first | rfl | exact mm_rk_rf _) ?_
  refine ev_gI (pc := 19) (by first | with_reducible assumption | assumption) (by rfl) fl_X_225 d_X_remove_19 ?_
  refine ev_aload_n (pc := 22) d_X_remove_22 rfl rfl (by first | rfl | exact mm_rk_rf _) ?_
  refine ev_gI (pc := 23) (by first | with_reducible assumption | assumption) (by rfl) fl_X_354 d_X_remove_23 ?_
  rw [ff_ne (by omega), ff_ne (by omega), ff_ne (by omega), he]
  refine ev_cV (pc := 26) (ct_X_removeNode E _ ht _ _) cl_X_355 jv_X_removeNode ⟨(Nat.le_of_ble_eq_true rfl), (Nat.le_of_ble_eq_true rfl)⟩ rfl sh_X rfl (Nat.le_of_ble_eq_true rfl) d_X_remove_26 ⟨Nat.zero_le _, Nat.zero_le _⟩ ?_
  exact ev_iret (pc := 29) d_X_remove_29 rfl (Nat.zero_le _) (Nat.zero_le _) ⟨by rw [xv_R, if_neg ha], by rw [xv_R, if_neg ha]⟩
