/-! What hinders: steps, opening, creating, wishes. -/
def my_P (C : Nat → Nat → Int32) (u : Int32) (i : Nat) (x : Int32) : Prop := ¬ (ma_r C u (bk i) &&& x) = 0
def my_o (C : Nat → Nat → Int32) (u : Int32) (o : Option Nat) (x : Int32) : Prop := ∃ a, o = some a ∧ my_P C u a x
theorem ct_mayI (E : mm_En) (C : Nat → Nat → Int32) {i : Nat} (hi : i < 64) (u x : Int32) : mm_MT E K_M_may [.ref 131, .int u, .ref (bk i), .int x] (hp_H C) (mm_D (some (.int (b3_P (my_P C u i x)))) C) := by
  have h := ct_M_may E C (bk_s hi) u x
  rw [← b3_b2] at h
  exact h
theorem ct_mayO (E : mm_En) (C : Nat → Nat → Int32) {o : Option Nat} (ho : ∀ a, o = some a → a < 64) (u x : Int32) : mm_MT E K_M_may [.ref 131, .int u, va_rf (o.map bk), .int x] (hp_H C) (mm_D (some (.int (b3_P (my_o C u o x)))) C) := by
  cases o with
  | none =>
    have h : b3_P (my_o C u none x) = 0 := b3_f (fun ⟨a, h1, _⟩ => by cases h1)
    rw [h]
    exact ct_M_mayN E C u x
  | some a =>
    have h : b3_P (my_o C u (some a) x) = b3_P (my_P C u a x) := b3_c ⟨fun ⟨b, h1, h2⟩ => by cases h1; exact h2, fun h => ⟨a, rfl, h⟩⟩
    rw [h]
    exact ct_mayI E C (ho a rfl) u x
/-- a fid that is open on a node -/
def fo_P (C : Nat → Nat → Int32) (f : Nat) (t p : Int32) : Prop := ¬ C f 1 = 0 ∧ C f 3 = t ∧ C f 4 = p
def fo_a (C : Nat → Nat → Int32) (t p : Int32) : Prop := ∃ c f, c < 2 ∧ f < 6 ∧ fo_P C (cn_f c f) t p
theorem d_X_isOpen_0 : decode b_X_isOpen 0 = .ok (.iconst 0, 1) := by decide +kernel
theorem d_X_isOpen_1 : decode b_X_isOpen 1 = .ok (.istore_n 3, 1) := by decide +kernel
theorem d_X_isOpen_2 : decode b_X_isOpen 2 = .ok (.iload_n 3, 1) := by decide +kernel
theorem d_X_isOpen_3 : decode b_X_isOpen 3 = .ok (.iconst 2, 1) := by decide +kernel
theorem d_X_isOpen_4 : decode b_X_isOpen 4 = .ok (.if_icmp .ge 25, 3) := by decide +kernel
theorem d_X_isOpen_7 : decode b_X_isOpen 7 = .ok (.aload_n 0, 1) := by decide +kernel
theorem d_X_isOpen_8 : decode b_X_isOpen 8 = .ok (.getfield 25, 3) := by decide +kernel
theorem d_X_isOpen_11 : decode b_X_isOpen 11 = .ok (.iload_n 3, 1) := by decide +kernel
theorem d_X_isOpen_12 : decode b_X_isOpen 12 = .ok (.aaload, 1) := by decide +kernel
theorem d_X_isOpen_13 : decode b_X_isOpen 13 = .ok (.iload_n 1, 1) := by decide +kernel
theorem d_X_isOpen_14 : decode b_X_isOpen 14 = .ok (.iload_n 2, 1) := by decide +kernel
theorem d_X_isOpen_15 : decode b_X_isOpen 15 = .ok (.invokevirtual 300, 3) := by decide +kernel
theorem d_X_isOpen_18 : decode b_X_isOpen 18 = .ok (.ifCond .eq 5, 3) := by decide +kernel
theorem d_X_isOpen_21 : decode b_X_isOpen 21 = .ok (.iconst 1, 1) := by decide +kernel
theorem d_X_isOpen_22 : decode b_X_isOpen 22 = .ok (.ireturn, 1) := by decide +kernel
theorem d_X_isOpen_23 : decode b_X_isOpen 23 = .ok (.iinc 3 1, 3) := by decide +kernel
theorem d_X_isOpen_26 : decode b_X_isOpen 26 = .ok (.goto (-24), 3) := by decide +kernel
theorem d_X_isOpen_29 : decode b_X_isOpen 29 = .ok (.iconst 0, 1) := by decide +kernel
theorem d_X_isOpen_30 : decode b_X_isOpen 30 = .ok (.ireturn, 1) := by decide +kernel
set_option maxRecDepth 20000 in
theorem ct_X_isOpen (E : mm_En) (C : Nat → Nat → Int32) (t p : Int32) : mm_MT E K_X_isOpen [.ref 0, .int t, .int p] (hp_H C) (mm_D (some (.int (b3_P (fo_a C t p)))) C) := by
  have s3 := sh_cons
  have loop : ∀ d i : Nat, i + d = 2 → (∀ c, c < i → ∀ f, f < 6 → ¬ fo_P C (cn_f c f) t p) → ev_At E K_X_isOpen 2 [some (.ref 0), some (.int t), some (.int p), some (.int (nI i))] [] (hp_H C) 0 0 (mm_D (some (.int (b3_P (fo_a C t p)))) C) := by
    intro d
    induction d with
    | zero =>
      intro i hi hno
      have hi2 : i = 2 := by omega
      subst hi2
      refine ev_iload_n (pc := 2) d_X_isOpen_2 rfl rfl ?_
      refine ev_iconst (pc := 3) (v := 2) d_X_isOpen_3 rfl ?_
      refine ev_icmp_ge (pc := 4) (tgt := 29) d_X_isOpen_4 (by decide) (fun ha => ?_) (fun ha => ?_)
      · refine ev_iconst (pc := 29) (v := 0) d_X_isOpen_29 rfl ?_
        exact ev_zret (pc := 30) d_X_isOpen_30 rfl (by first | exact Or.inl rfl | exact Or.inr rfl | assumption) (Nat.zero_le _) (Nat.zero_le _) ⟨by rw [b3_f (fun ⟨c, f, h1, h2, h3⟩ => hno c h1 f h2 h3)], rfl⟩
      · exact absurd (show nI 2 ≤ nI 2 from Int32.le_refl _) ha
    | succ d ih =>
      intro i hi hno
      have hin : vp_in (nI i) 2 := vp_in_nI (by omega) (by decide)
      have hpl := cn_at (c := i) (by omega)
      have s6 := sh_con i (by omega)
      refine ev_iload_n (pc := 2) d_X_isOpen_2 rfl rfl ?_
      refine ev_iconst (pc := 3) (v := 2) d_X_isOpen_3 rfl ?_
      refine ev_icmp_ge (pc := 4) (tgt := 29) d_X_isOpen_4 (by decide) (fun ha => ?_) (fun ha => ?_)
      · exact absurd ha (nI_ge (show i < 2 by omega) (by decide))
      refine ev_aload_n (pc := 7) d_X_isOpen_7 rfl rfl (by first | rfl | exact mm_rk_rf _) ?_
      refine ev_gR (pc := 8) sh_X (by rfl) fl_X_25 d_X_isOpen_8 ?_
      refine ev_iload_n (pc := 11) d_X_isOpen_11 rfl rfl ?_
      refine ev_rR (pc := 12) (by assumption) rfl (by assumption) (by assumption) d_X_isOpen_12 ?_
      refine ev_iload_n (pc := 13) d_X_isOpen_13 rfl rfl ?_
      refine ev_iload_n (pc := 14) d_X_isOpen_14 rfl rfl ?_
      refine ev_cV (pc := 15) (ct_C_hasOpen E C (c := i) (by omega) t p) cl_X_300 jv_C_hasOpen ⟨(Nat.le_of_ble_eq_true rfl), (Nat.le_of_ble_eq_true rfl)⟩ rfl (by assumption) rfl (Nat.le_of_ble_eq_true rfl) d_X_isOpen_15 ⟨Nat.zero_le _, Nat.zero_le _⟩ ?_
      refine ev_if_eq (pc := 18) (tgt := 23) d_X_isOpen_18 (by decide) (fun hb => ?_) (fun hb => ?_)
      · rw [b3_0] at hb
        refine ev_iinc (pc := 23) d_X_isOpen_23 (Nat.le_of_ble_eq_true rfl) rfl (nx_inc _) rfl ?_
        try dsimp only [List.set]
        refine ev_goto (pc := 26) (tgt := 2) d_X_isOpen_26 (by decide) ?_
        refine ih (i + 1) (by omega) (fun c hc f hf hz => ?_)
        by_cases hci : c = i
        · subst hci
          exact hb ⟨f, hf, hz⟩
        · exact hno c (by omega) f hf hz
      · rw [b3_0, Classical.not_not] at hb
        obtain ⟨f, h1, h2⟩ := hb
        refine ev_iconst (pc := 21) (v := 1) d_X_isOpen_21 rfl ?_
        exact ev_zret (pc := 22) d_X_isOpen_22 rfl (by first | exact Or.inl rfl | exact Or.inr rfl | assumption) (Nat.zero_le _) (Nat.zero_le _) ⟨by rw [b3_t ⟨i, f, by omega, h1, h2⟩], rfl⟩
  refine mm_mtL (by decide) (by rfl) (Nat.le_of_ble_eq_true rfl) rfl ?_
  refine ev_iconst (pc := 0) (v := 0) d_X_isOpen_0 rfl ?_
  refine ev_istore_n (pc := 1) d_X_isOpen_1 rfl (Nat.le_of_ble_eq_true rfl) rfl ?_
  try dsimp only [List.set]
  exact loop 2 0 (by omega) (fun c hc => absurd hc (Nat.not_lt_zero c))
theorem rw_at_in {C : Nat → Nat → Int32} {r n k i : Nat} (hk : C r 1 = nI k) (h1 : i < k) (h2 : k ≤ n) (hn : n < 2 ^ 31) : rw_at C r n (nI i) = C (r + 1) i := by
  rw [rw_at, hk, if_pos ⟨nI_pos' (by omega), nI_lt h1 (by omega), nI_lt (by omega) hn⟩, nI_clamp (by omega)]
def ab_P (C : Nat → Nat → Int32) (r k : Nat) : Prop := ∀ i, 1 ≤ i → i < k → ¬ C (r + 1) i < 0 ∧ ¬ 255 < C (r + 1) i
theorem d_X_areBytes_0 : decode b_X_areBytes 0 = .ok (.iconst 1, 1) := by decide +kernel
theorem d_X_areBytes_1 : decode b_X_areBytes 1 = .ok (.istore_n 1, 1) := by decide +kernel
theorem d_X_areBytes_2 : decode b_X_areBytes 2 = .ok (.iload_n 1, 1) := by decide +kernel
theorem d_X_areBytes_3 : decode b_X_areBytes 3 = .ok (.aload_n 0, 1) := by decide +kernel
theorem d_X_areBytes_4 : decode b_X_areBytes 4 = .ok (.getfield 61, 3) := by decide +kernel
theorem d_X_areBytes_7 : decode b_X_areBytes 7 = .ok (.if_icmp .ge 30, 3) := by decide +kernel
theorem d_X_areBytes_10 : decode b_X_areBytes 10 = .ok (.aload_n 0, 1) := by decide +kernel
theorem d_X_areBytes_11 : decode b_X_areBytes 11 = .ok (.iload_n 1, 1) := by decide +kernel
theorem d_X_areBytes_12 : decode b_X_areBytes 12 = .ok (.invokevirtual 104, 3) := by decide +kernel
theorem d_X_areBytes_15 : decode b_X_areBytes 15 = .ok (.ifCond .lt 14, 3) := by decide +kernel
theorem d_X_areBytes_18 : decode b_X_areBytes 18 = .ok (.aload_n 0, 1) := by decide +kernel
theorem d_X_areBytes_19 : decode b_X_areBytes 19 = .ok (.iload_n 1, 1) := by decide +kernel
theorem d_X_areBytes_20 : decode b_X_areBytes 20 = .ok (.invokevirtual 104, 3) := by decide +kernel
theorem d_X_areBytes_23 : decode b_X_areBytes 23 = .ok (.sipush 255, 3) := by decide +kernel
theorem d_X_areBytes_26 : decode b_X_areBytes 26 = .ok (.if_icmp .le 5, 3) := by decide +kernel
theorem d_X_areBytes_29 : decode b_X_areBytes 29 = .ok (.iconst 0, 1) := by decide +kernel
theorem d_X_areBytes_30 : decode b_X_areBytes 30 = .ok (.ireturn, 1) := by decide +kernel
theorem d_X_areBytes_31 : decode b_X_areBytes 31 = .ok (.iinc 1 1, 3) := by decide +kernel
theorem d_X_areBytes_34 : decode b_X_areBytes 34 = .ok (.goto (-32), 3) := by decide +kernel
theorem d_X_areBytes_37 : decode b_X_areBytes 37 = .ok (.iconst 1, 1) := by decide +kernel
theorem d_X_areBytes_38 : decode b_X_areBytes 38 = .ok (.ireturn, 1) := by decide +kernel
set_option maxRecDepth 20000 in
theorem ct_X_areBytes (E : mm_En) (C : Nat → Nat → Int32) {r n k : Nat} (hr : rw_s r n) (hn : n < 2 ^ 31) (hk : C r 1 = nI k) (h1 : 1 ≤ k) (h2 : k ≤ n) : mm_MT E K_X_areBytes [.ref r] (hp_H C) (mm_D (some (.int (b3_P (ab_P C r k)))) C) := by
  have hr0 := hr
  obtain ⟨g1, g2⟩ := hr
  have loop : ∀ d i : Nat, i + d = k → 1 ≤ i → (∀ j, 1 ≤ j → j < i → ¬ C (r + 1) j < 0 ∧ ¬ 255 < C (r + 1) j) → ev_At E K_X_areBytes 2 [some (.ref r), some (.int (nI i))] [] (hp_H C) 0 0 (mm_D (some (.int (b3_P (ab_P C r k)))) C) := by
    intro d
    induction d with
    | zero =>
      intro i hi hi1 hall
      have hik : i = k := by omega
      subst hik
      refine ev_iload_n (pc := 2) d_X_areBytes_2 rfl rfl ?_
      refine ev_aload_n (pc := 3) d_X_areBytes_3 rfl rfl (by first | rfl | exact mm_rk_rf _) ?_
      refine ev_gI (pc := 4) (by first | exact sh_said | exact sh_rep | assumption) (by rfl) fl_X_61 d_X_areBytes_4 ?_
      rw [hk]
      refine ev_icmp_ge (pc := 7) (tgt := 37) d_X_areBytes_7 (by decide) (fun ha => ?_) (fun ha => ?_)
      · refine ev_iconst (pc := 37) (v := 1) d_X_areBytes_37 rfl ?_
        exact ev_zret (pc := 38) d_X_areBytes_38 rfl (by first | exact Or.inl rfl | exact Or.inr rfl | assumption) (Nat.zero_le _) (Nat.zero_le _) ⟨by rw [b3_t (show ab_P C r i from hall)], rfl⟩
      · exact absurd (nI_le (Nat.le_refl i) (by omega)) ha
    | succ d ih =>
      intro i hi hi1 hall
      have e := rw_at_in (C := C) hk (show i < k by omega) h2 hn
      have hM := ct_R_at E C hr0 hn (nI i)
      rw [e] at hM
      refine ev_iload_n (pc := 2) d_X_areBytes_2 rfl rfl ?_
      refine ev_aload_n (pc := 3) d_X_areBytes_3 rfl rfl (by first | rfl | exact mm_rk_rf _) ?_
      refine ev_gI (pc := 4) (by first | exact sh_said | exact sh_rep | assumption) (by rfl) fl_X_61 d_X_areBytes_4 ?_
      rw [hk]
      refine ev_icmp_ge (pc := 7) (tgt := 37) d_X_areBytes_7 (by decide) (fun ha => ?_) (fun ha => ?_)
      · exact absurd ha (nI_ge (show i < k by omega) (by omega))
      refine ev_aload_n (pc := 10) d_X_areBytes_10 rfl rfl (by first | rfl | exact mm_rk_rf _) ?_
      refine ev_iload_n (pc := 11) d_X_areBytes_11 rfl rfl ?_
      refine ev_cV (pc := 12) hM cl_X_104 jv_R_at ⟨(Nat.le_of_ble_eq_true rfl), (Nat.le_of_ble_eq_true rfl)⟩ rfl (by first | exact sh_said | exact sh_rep | assumption) rfl (Nat.le_of_ble_eq_true rfl) d_X_areBytes_12 ⟨Nat.zero_le _, Nat.zero_le _⟩ ?_
      refine ev_if_lt (pc := 15) (tgt := 29) d_X_areBytes_15 (by decide) (fun hb => ?_) (fun hb => ?_)
      · refine ev_iconst (pc := 29) (v := 0) d_X_areBytes_29 rfl ?_
        exact ev_zret (pc := 30) d_X_areBytes_30 rfl (by first | exact Or.inl rfl | exact Or.inr rfl | assumption) (Nat.zero_le _) (Nat.zero_le _) ⟨by rw [b3_f (fun z => (z i hi1 (by omega)).1 hb)], rfl⟩
      refine ev_aload_n (pc := 18) d_X_areBytes_18 rfl rfl (by first | rfl | exact mm_rk_rf _) ?_
      refine ev_iload_n (pc := 19) d_X_areBytes_19 rfl rfl ?_
      refine ev_cV (pc := 20) hM cl_X_104 jv_R_at ⟨(Nat.le_of_ble_eq_true rfl), (Nat.le_of_ble_eq_true rfl)⟩ rfl (by first | exact sh_said | exact sh_rep | assumption) rfl (Nat.le_of_ble_eq_true rfl) d_X_areBytes_20 ⟨Nat.zero_le _, Nat.zero_le _⟩ ?_
      refine ev_sipush (pc := 23) (v := 255) d_X_areBytes_23 (by decide) ?_
      refine ev_icmp_le (pc := 26) (tgt := 31) d_X_areBytes_26 (by decide) (fun hc => ?_) (fun hc => ?_)
      rotate_left
      · refine ev_iconst (pc := 29) (v := 0) d_X_areBytes_29 rfl ?_
        exact ev_zret (pc := 30) d_X_areBytes_30 rfl (by first | exact Or.inl rfl | exact Or.inr rfl | assumption) (Nat.zero_le _) (Nat.zero_le _) ⟨by rw [b3_f (fun z => (z i hi1 (by omega)).2 (Int32.not_le.mp hc))], rfl⟩
      refine ev_iinc (pc := 31) d_X_areBytes_31 (Nat.le_of_ble_eq_true rfl) rfl (nx_inc _) rfl ?_
      try dsimp only [List.set]
      refine ev_goto (pc := 34) (tgt := 2) d_X_areBytes_34 (by decide) ?_
      refine ih (i + 1) (by omega) (by omega) (fun j hj1 hj2 => ?_)
      by_cases hji : j = i
      · subst hji
        exact ⟨hb, Int32.not_lt.mpr hc⟩
      · exact hall j hj1 (by omega)
  refine mm_mtL (by decide) (by rfl) (Nat.le_of_ble_eq_true rfl) rfl ?_
  refine ev_iconst (pc := 0) (v := 1) d_X_areBytes_0 rfl ?_
  refine ev_istore_n (pc := 1) d_X_areBytes_1 rfl (Nat.le_of_ble_eq_true rfl) rfl ?_
  try dsimp only [List.set]
  exact loop (k - 1) 1 (by omega) (Nat.le_refl _) (fun j hj1 hj2 => by omega)
noncomputable def xh_step (C : Nat → Nat → Int32) (u : Int32) (i : Nat) (o : Option Nat) : Int32 := if (C (bk i) 8 &&& 2048) = 0 then -4 else it_P (my_P C u i 1) (if o = none then -3 else 0) (-5)
theorem d_X_hindranceOfStep_0 : decode b_X_hindranceOfStep 0 = .ok (.aload_n 2, 1) := by decide +kernel
theorem d_X_hindranceOfStep_1 : decode b_X_hindranceOfStep 1 = .ok (.invokevirtual 247, 3) := by decide +kernel
theorem d_X_hindranceOfStep_4 : decode b_X_hindranceOfStep 4 = .ok (.ifCond .ne 6, 3) := by decide +kernel
theorem d_X_hindranceOfStep_7 : decode b_X_hindranceOfStep 7 = .ok (.bipush (-4), 2) := by decide +kernel
theorem d_X_hindranceOfStep_9 : decode b_X_hindranceOfStep 9 = .ok (.ireturn, 1) := by decide +kernel
theorem d_X_hindranceOfStep_10 : decode b_X_hindranceOfStep 10 = .ok (.aload_n 0, 1) := by decide +kernel
theorem d_X_hindranceOfStep_11 : decode b_X_hindranceOfStep 11 = .ok (.getfield 19, 3) := by decide +kernel
theorem d_X_hindranceOfStep_14 : decode b_X_hindranceOfStep 14 = .ok (.iload_n 1, 1) := by decide +kernel
theorem d_X_hindranceOfStep_15 : decode b_X_hindranceOfStep 15 = .ok (.aload_n 2, 1) := by decide +kernel
theorem d_X_hindranceOfStep_16 : decode b_X_hindranceOfStep 16 = .ok (.iconst 1, 1) := by decide +kernel
theorem d_X_hindranceOfStep_17 : decode b_X_hindranceOfStep 17 = .ok (.invokevirtual 250, 3) := by decide +kernel
theorem d_X_hindranceOfStep_20 : decode b_X_hindranceOfStep 20 = .ok (.ifCond .ne 6, 3) := by decide +kernel
theorem d_X_hindranceOfStep_23 : decode b_X_hindranceOfStep 23 = .ok (.bipush (-5), 2) := by decide +kernel
theorem d_X_hindranceOfStep_25 : decode b_X_hindranceOfStep 25 = .ok (.ireturn, 1) := by decide +kernel
theorem d_X_hindranceOfStep_26 : decode b_X_hindranceOfStep 26 = .ok (.aload_n 3, 1) := by decide +kernel
theorem d_X_hindranceOfStep_27 : decode b_X_hindranceOfStep 27 = .ok (.ifnonnull 8, 3) := by decide +kernel
theorem d_X_hindranceOfStep_30 : decode b_X_hindranceOfStep 30 = .ok (.bipush (-3), 2) := by decide +kernel
theorem d_X_hindranceOfStep_32 : decode b_X_hindranceOfStep 32 = .ok (.goto 4, 3) := by decide +kernel
theorem d_X_hindranceOfStep_35 : decode b_X_hindranceOfStep 35 = .ok (.iconst 0, 1) := by decide +kernel
theorem d_X_hindranceOfStep_36 : decode b_X_hindranceOfStep 36 = .ok (.ireturn, 1) := by decide +kernel
set_option maxRecDepth 20000 in
theorem ct_X_hindranceOfStep (E : mm_En) (C : Nat → Nat → Int32) {i : Nat} (hi : i < 64) (u : Int32) (o : Option Nat) : mm_MT E K_X_hindranceOfStep [.ref 0, .int u, .ref (bk i), va_rf (o.map bk)] (hp_H C) (mm_D (some (.int (xh_step C u i o))) C) := by
  have s1 := bk_s hi
  refine mm_mtL (by decide) (by cases o <;> rfl) (Nat.le_of_ble_eq_true rfl) rfl ?_
  refine ev_aload_n (pc := 0) d_X_hindranceOfStep_0 rfl rfl (by first | rfl | exact mm_rk_rf _) ?_
  refine ev_cV (pc := 1) (ct_B_isDirectory E C s1) cl_X_247 jv_B_isDirectory ⟨(Nat.le_of_ble_eq_true rfl), (Nat.le_of_ble_eq_true rfl)⟩ rfl (by assumption) rfl (Nat.le_of_ble_eq_true rfl) d_X_hindranceOfStep_1 ⟨Nat.zero_le _, Nat.zero_le _⟩ ?_
  refine ev_if_ne (pc := 4) (tgt := 10) d_X_hindranceOfStep_4 (by decide) (fun ha => ?_) (fun ha => ?_)
  rotate_left
  · rw [b2_0, Classical.not_not] at ha
    refine ev_bipush (pc := 7) (v := -4) d_X_hindranceOfStep_7 (by decide) ?_
    exact ev_iret (pc := 9) d_X_hindranceOfStep_9 rfl (Nat.zero_le _) (Nat.zero_le _) ⟨by rw [xh_step, if_pos ha], rfl⟩
  rw [b2_0, Classical.not_not] at ha
  refine ev_aload_n (pc := 10) d_X_hindranceOfStep_10 rfl rfl (by first | rfl | exact mm_rk_rf _) ?_
  refine ev_gR (pc := 11) sh_X (by rfl) fl_X_19 d_X_hindranceOfStep_11 ?_
  refine ev_iload_n (pc := 14) d_X_hindranceOfStep_14 rfl rfl ?_
  refine ev_aload_n (pc := 15) d_X_hindranceOfStep_15 rfl rfl (by first | rfl | exact mm_rk_rf _) ?_
  refine ev_iconst (pc := 16) (v := 1) d_X_hindranceOfStep_16 rfl ?_
  refine ev_cV (pc := 17) (ct_mayI E C hi u 1) cl_X_250 jv_M_may ⟨(Nat.le_of_ble_eq_true rfl), (Nat.le_of_ble_eq_true rfl)⟩ rfl sh_M rfl (Nat.le_of_ble_eq_true rfl) d_X_hindranceOfStep_17 ⟨Nat.zero_le _, Nat.zero_le _⟩ ?_
  refine ev_if_ne (pc := 20) (tgt := 26) d_X_hindranceOfStep_20 (by decide) (fun hb => ?_) (fun hb => ?_)
  rotate_left
  · rw [b3_0] at hb
    refine ev_bipush (pc := 23) (v := -5) d_X_hindranceOfStep_23 (by decide) ?_
    exact ev_iret (pc := 25) d_X_hindranceOfStep_25 rfl (Nat.zero_le _) (Nat.zero_le _) ⟨by rw [xh_step, if_neg ha, it_f hb], rfl⟩
  rw [b3_0, Classical.not_not] at hb
  refine ev_aload_n (pc := 26) d_X_hindranceOfStep_26 rfl rfl (by first | rfl | exact mm_rk_rf _) ?_
  refine ev_ifnonnull (pc := 27) (tgt := 35) d_X_hindranceOfStep_27 (by decide) (fun hc_i hc => ?_) (fun hc => ?_)
  · refine ev_iconst (pc := 35) (v := 0) d_X_hindranceOfStep_35 rfl ?_
    exact ev_iret (pc := 36) d_X_hindranceOfStep_36 rfl (Nat.zero_le _) (Nat.zero_le _) ⟨by
      have h9 : ¬ o = none := fun z => by rw [z] at hc; cases hc
      rw [xh_step, if_neg ha, it_t hb, if_neg h9], rfl⟩
  · refine ev_bipush (pc := 30) (v := -3) d_X_hindranceOfStep_30 (by decide) ?_
    refine ev_goto (pc := 32) (tgt := 36) d_X_hindranceOfStep_32 (by decide) ?_
    exact ev_iret (pc := 36) d_X_hindranceOfStep_36 rfl (Nat.zero_le _) (Nat.zero_le _) ⟨by
      have h9 : o = none := by
        cases o with
        | none => rfl
        | some a => cases hc
      rw [xh_step, if_neg ha, it_t hb, if_pos h9], rfl⟩
/-- may a fid's user open a node so -/
def xo_may (C : Nat → Nat → Int32) (u : Int32) (t i : Nat) (m : Int32) : Prop := ((m &&& 3) = 1 ∨ my_P C u i 4) ∧ (((m &&& 3) = 0 ∧ (m &&& 16) = 0) ∨ my_P C u i 2) ∧ ((m &&& 64) = 0 ∨ my_o C u (so_abi C t i) 2)
theorem d_X_mayOpen_0 : decode b_X_mayOpen 0 = .ok (.iload_n 3, 1) := by decide +kernel
theorem d_X_mayOpen_1 : decode b_X_mayOpen 1 = .ok (.invokestatic 291, 3) := by decide +kernel
theorem d_X_mayOpen_4 : decode b_X_mayOpen 4 = .ok (.ifCond .eq 21, 3) := by decide +kernel
theorem d_X_mayOpen_7 : decode b_X_mayOpen 7 = .ok (.aload_n 0, 1) := by decide +kernel
theorem d_X_mayOpen_8 : decode b_X_mayOpen 8 = .ok (.getfield 19, 3) := by decide +kernel
theorem d_X_mayOpen_11 : decode b_X_mayOpen 11 = .ok (.aload_n 1, 1) := by decide +kernel
theorem d_X_mayOpen_12 : decode b_X_mayOpen 12 = .ok (.getfield 237, 3) := by decide +kernel
theorem d_X_mayOpen_15 : decode b_X_mayOpen 15 = .ok (.aload_n 2, 1) := by decide +kernel
theorem d_X_mayOpen_16 : decode b_X_mayOpen 16 = .ok (.iconst 4, 1) := by decide +kernel
theorem d_X_mayOpen_17 : decode b_X_mayOpen 17 = .ok (.invokevirtual 250, 3) := by decide +kernel
theorem d_X_mayOpen_20 : decode b_X_mayOpen 20 = .ok (.ifCond .ne 5, 3) := by decide +kernel
theorem d_X_mayOpen_23 : decode b_X_mayOpen 23 = .ok (.iconst 0, 1) := by decide +kernel
theorem d_X_mayOpen_24 : decode b_X_mayOpen 24 = .ok (.ireturn, 1) := by decide +kernel
theorem d_X_mayOpen_25 : decode b_X_mayOpen 25 = .ok (.iload_n 3, 1) := by decide +kernel
theorem d_X_mayOpen_26 : decode b_X_mayOpen 26 = .ok (.invokestatic 294, 3) := by decide +kernel
theorem d_X_mayOpen_29 : decode b_X_mayOpen 29 = .ok (.ifCond .ne 10, 3) := by decide +kernel
theorem d_X_mayOpen_32 : decode b_X_mayOpen 32 = .ok (.iload_n 3, 1) := by decide +kernel
theorem d_X_mayOpen_33 : decode b_X_mayOpen 33 = .ok (.bipush 16, 2) := by decide +kernel
theorem d_X_mayOpen_35 : decode b_X_mayOpen 35 = .ok (.iand, 1) := by decide +kernel
theorem d_X_mayOpen_36 : decode b_X_mayOpen 36 = .ok (.ifCond .eq 7, 3) := by decide +kernel
theorem d_X_mayOpen_39 : decode b_X_mayOpen 39 = .ok (.iconst 1, 1) := by decide +kernel
theorem d_X_mayOpen_40 : decode b_X_mayOpen 40 = .ok (.goto 4, 3) := by decide +kernel
theorem d_X_mayOpen_43 : decode b_X_mayOpen 43 = .ok (.iconst 0, 1) := by decide +kernel
theorem d_X_mayOpen_44 : decode b_X_mayOpen 44 = .ok (.istore 4, 2) := by decide +kernel
theorem d_X_mayOpen_46 : decode b_X_mayOpen 46 = .ok (.iload 4, 2) := by decide +kernel
theorem d_X_mayOpen_48 : decode b_X_mayOpen 48 = .ok (.ifCond .eq 21, 3) := by decide +kernel
theorem d_X_mayOpen_51 : decode b_X_mayOpen 51 = .ok (.aload_n 0, 1) := by decide +kernel
theorem d_X_mayOpen_52 : decode b_X_mayOpen 52 = .ok (.getfield 19, 3) := by decide +kernel
theorem d_X_mayOpen_55 : decode b_X_mayOpen 55 = .ok (.aload_n 1, 1) := by decide +kernel
theorem d_X_mayOpen_56 : decode b_X_mayOpen 56 = .ok (.getfield 237, 3) := by decide +kernel
theorem d_X_mayOpen_59 : decode b_X_mayOpen 59 = .ok (.aload_n 2, 1) := by decide +kernel
theorem d_X_mayOpen_60 : decode b_X_mayOpen 60 = .ok (.iconst 2, 1) := by decide +kernel
theorem d_X_mayOpen_61 : decode b_X_mayOpen 61 = .ok (.invokevirtual 250, 3) := by decide +kernel
theorem d_X_mayOpen_64 : decode b_X_mayOpen 64 = .ok (.ifCond .ne 5, 3) := by decide +kernel
theorem d_X_mayOpen_67 : decode b_X_mayOpen 67 = .ok (.iconst 0, 1) := by decide +kernel
theorem d_X_mayOpen_68 : decode b_X_mayOpen 68 = .ok (.ireturn, 1) := by decide +kernel
theorem d_X_mayOpen_69 : decode b_X_mayOpen 69 = .ok (.iload_n 3, 1) := by decide +kernel
theorem d_X_mayOpen_70 : decode b_X_mayOpen 70 = .ok (.bipush 64, 2) := by decide +kernel
theorem d_X_mayOpen_72 : decode b_X_mayOpen 72 = .ok (.iand, 1) := by decide +kernel
theorem d_X_mayOpen_73 : decode b_X_mayOpen 73 = .ok (.ifCond .eq 30, 3) := by decide +kernel
theorem d_X_mayOpen_76 : decode b_X_mayOpen 76 = .ok (.aload_n 0, 1) := by decide +kernel
theorem d_X_mayOpen_77 : decode b_X_mayOpen 77 = .ok (.getfield 19, 3) := by decide +kernel
theorem d_X_mayOpen_80 : decode b_X_mayOpen 80 = .ok (.aload_n 1, 1) := by decide +kernel
theorem d_X_mayOpen_81 : decode b_X_mayOpen 81 = .ok (.getfield 237, 3) := by decide +kernel
theorem d_X_mayOpen_84 : decode b_X_mayOpen 84 = .ok (.aload_n 0, 1) := by decide +kernel
theorem d_X_mayOpen_85 : decode b_X_mayOpen 85 = .ok (.getfield 12, 3) := by decide +kernel
theorem d_X_mayOpen_88 : decode b_X_mayOpen 88 = .ok (.aload_n 1, 1) := by decide +kernel
theorem d_X_mayOpen_89 : decode b_X_mayOpen 89 = .ok (.getfield 225, 3) := by decide +kernel
theorem d_X_mayOpen_92 : decode b_X_mayOpen 92 = .ok (.aload_n 2, 1) := by decide +kernel
theorem d_X_mayOpen_93 : decode b_X_mayOpen 93 = .ok (.invokevirtual 297, 3) := by decide +kernel
theorem d_X_mayOpen_96 : decode b_X_mayOpen 96 = .ok (.iconst 2, 1) := by decide +kernel
theorem d_X_mayOpen_97 : decode b_X_mayOpen 97 = .ok (.invokevirtual 250, 3) := by decide +kernel
theorem d_X_mayOpen_100 : decode b_X_mayOpen 100 = .ok (.ifCond .eq 7, 3) := by decide +kernel
theorem d_X_mayOpen_103 : decode b_X_mayOpen 103 = .ok (.iconst 1, 1) := by decide +kernel
theorem d_X_mayOpen_104 : decode b_X_mayOpen 104 = .ok (.goto 4, 3) := by decide +kernel
theorem d_X_mayOpen_107 : decode b_X_mayOpen 107 = .ok (.iconst 0, 1) := by decide +kernel
theorem d_X_mayOpen_108 : decode b_X_mayOpen 108 = .ok (.ireturn, 1) := by decide +kernel
set_option maxHeartbeats 2000000 in
set_option maxRecDepth 20000 in
theorem ct_X_mayOpen (E : mm_En) (C : Nat → Nat → Int32) {f t i : Nat} (hf : fi_s f) (hi : i < 64) (ht : t < 32) (he : C f 3 = nI t) (m : Int32) : mm_MT E K_X_mayOpen [.ref 0, .ref f, .ref (bk i), .int m] (hp_H C) (mm_D (some (.int (b3_P (xo_may C (C f 2) t i m)))) C) := by
  have s1 := bk_s hi
  have t69 : ∀ z : Int32, ((m &&& 3) = 1 ∨ my_P C (C f 2) i 4) → (((m &&& 3) = 0 ∧ (m &&& 16) = 0) ∨ my_P C (C f 2) i 2) → ev_At E K_X_mayOpen 69 [some (.ref 0), some (.ref f), some (.ref (bk i)), some (.int m), some (.int z)] [] (hp_H C) 0 0 (mm_D (some (.int (b3_P (xo_may C (C f 2) t i m)))) C) := by
    intro z q1 q2
    refine ev_iload_n (pc := 69) d_X_mayOpen_69 rfl rfl ?_
    refine ev_bipush (pc := 70) (v := 64) d_X_mayOpen_70 (by decide) ?_
    refine ev_iand (pc := 72) d_X_mayOpen_72 ?_
    refine ev_if_eq (pc := 73) (tgt := 103) d_X_mayOpen_73 (by decide) (fun ha => ?_) (fun ha => ?_)
    · refine ev_iconst (pc := 103) (v := 1) d_X_mayOpen_103 rfl ?_
      refine ev_goto (pc := 104) (tgt := 108) d_X_mayOpen_104 (by decide) ?_
      exact ev_zret (pc := 108) d_X_mayOpen_108 rfl (by first | exact Or.inl rfl | exact Or.inr rfl | assumption) (Nat.zero_le _) (Nat.zero_le _) ⟨by rw [b3_t ⟨q1, q2, Or.inl ha⟩], rfl⟩
    refine ev_aload_n (pc := 76) d_X_mayOpen_76 rfl rfl (by first | rfl | exact mm_rk_rf _) ?_
    refine ev_gR (pc := 77) sh_X (by rfl) fl_X_19 d_X_mayOpen_77 ?_
    refine ev_aload_n (pc := 80) d_X_mayOpen_80 rfl rfl (by first | rfl | exact mm_rk_rf _) ?_
    refine ev_gI (pc := 81) (by assumption) (by rfl) fl_X_237 d_X_mayOpen_81 ?_
    refine ev_aload_n (pc := 84) d_X_mayOpen_84 rfl rfl (by first | rfl | exact mm_rk_rf _) ?_
    refine ev_gR (pc := 85) sh_X (by rfl) fl_X_12 d_X_mayOpen_85 ?_
    refine ev_aload_n (pc := 88) d_X_mayOpen_88 rfl rfl (by first | rfl | exact mm_rk_rf _) ?_
    refine ev_gI (pc := 89) (by assumption) (by rfl) fl_X_225 d_X_mayOpen_89 ?_
    rw [he]
    refine ev_aload_n (pc := 92) d_X_mayOpen_92 rfl rfl (by first | rfl | exact mm_rk_rf _) ?_
    refine ev_cV (pc := 93) (ct_S_aboveI E C ht hi) cl_X_297 jv_S_above ⟨(Nat.le_of_ble_eq_true rfl), (Nat.le_of_ble_eq_true rfl)⟩ rfl sh_S rfl (Nat.le_of_ble_eq_true rfl) d_X_mayOpen_93 ⟨Nat.zero_le _, Nat.zero_le _⟩ ?_
    refine ev_iconst (pc := 96) (v := 2) d_X_mayOpen_96 rfl ?_
    refine ev_cV (pc := 97) (ct_mayO E C (fun a h => so_abi_lt h) _ 2) cl_X_250 jv_M_may ⟨(Nat.le_of_ble_eq_true rfl), (Nat.le_of_ble_eq_true rfl)⟩ rfl sh_M rfl (Nat.le_of_ble_eq_true rfl) d_X_mayOpen_97 ⟨Nat.zero_le _, Nat.zero_le _⟩ ?_
    refine ev_if_eq (pc := 100) (tgt := 107) d_X_mayOpen_100 (by decide) (fun hb => ?_) (fun hb => ?_)
    · rw [b3_0] at hb
      refine ev_iconst (pc := 107) (v := 0) d_X_mayOpen_107 rfl ?_
      exact ev_zret (pc := 108) d_X_mayOpen_108 rfl (by first | exact Or.inl rfl | exact Or.inr rfl | assumption) (Nat.zero_le _) (Nat.zero_le _) ⟨by rw [b3_f (fun z => z.2.2.elim ha hb)], rfl⟩
    · rw [b3_0, Classical.not_not] at hb
      refine ev_iconst (pc := 103) (v := 1) d_X_mayOpen_103 rfl ?_
      refine ev_goto (pc := 104) (tgt := 108) d_X_mayOpen_104 (by decide) ?_
      exact ev_zret (pc := 108) d_X_mayOpen_108 rfl (by first | exact Or.inl rfl | exact Or.inr rfl | assumption) (Nat.zero_le _) (Nat.zero_le _) ⟨by rw [b3_t ⟨q1, q2, Or.inr hb⟩], rfl⟩
  have t44 : ∀ z : Int32, ((m &&& 3) = 1 ∨ my_P C (C f 2) i 4) → (z = 0 ↔ ((m &&& 3) = 0 ∧ (m &&& 16) = 0)) → ev_At E K_X_mayOpen 44 [some (.ref 0), some (.ref f), some (.ref (bk i)), some (.int m), none] [.int z] (hp_H C) 0 0 (mm_D (some (.int (b3_P (xo_may C (C f 2) t i m)))) C) := by
    intro z q1 q2
    refine ev_istore (pc := 44) d_X_mayOpen_44 (Nat.le_of_ble_eq_true rfl) rfl ?_
    try dsimp only [List.set]
    refine ev_iload (pc := 46) d_X_mayOpen_46 rfl ?_
    refine ev_if_eq (pc := 48) (tgt := 69) d_X_mayOpen_48 (by decide) (fun ha => ?_) (fun ha => ?_)
    · exact t69 z q1 (Or.inl (q2.mp ha))
    refine ev_aload_n (pc := 51) d_X_mayOpen_51 rfl rfl (by first | rfl | exact mm_rk_rf _) ?_
    refine ev_gR (pc := 52) sh_X (by rfl) fl_X_19 d_X_mayOpen_52 ?_
    refine ev_aload_n (pc := 55) d_X_mayOpen_55 rfl rfl (by first | rfl | exact mm_rk_rf _) ?_
    refine ev_gI (pc := 56) (by assumption) (by rfl) fl_X_237 d_X_mayOpen_56 ?_
    refine ev_aload_n (pc := 59) d_X_mayOpen_59 rfl rfl (by first | rfl | exact mm_rk_rf _) ?_
    refine ev_iconst (pc := 60) (v := 2) d_X_mayOpen_60 rfl ?_
    refine ev_cV (pc := 61) (ct_mayI E C hi _ 2) cl_X_250 jv_M_may ⟨(Nat.le_of_ble_eq_true rfl), (Nat.le_of_ble_eq_true rfl)⟩ rfl sh_M rfl (Nat.le_of_ble_eq_true rfl) d_X_mayOpen_61 ⟨Nat.zero_le _, Nat.zero_le _⟩ ?_
    refine ev_if_ne (pc := 64) (tgt := 69) d_X_mayOpen_64 (by decide) (fun hb => ?_) (fun hb => ?_)
    · rw [b3_0, Classical.not_not] at hb
      exact t69 z q1 (Or.inr hb)
    · rw [b3_0] at hb
      refine ev_iconst (pc := 67) (v := 0) d_X_mayOpen_67 rfl ?_
      exact ev_zret (pc := 68) d_X_mayOpen_68 rfl (by first | exact Or.inl rfl | exact Or.inr rfl | assumption) (Nat.zero_le _) (Nat.zero_le _) ⟨by rw [b3_f (fun w => w.2.1.elim (fun y => ha (q2.mpr y)) hb)], rfl⟩
  have t25 : ((m &&& 3) = 1 ∨ my_P C (C f 2) i 4) → ev_At E K_X_mayOpen 25 [some (.ref 0), some (.ref f), some (.ref (bk i)), some (.int m), none] [] (hp_H C) 0 0 (mm_D (some (.int (b3_P (xo_may C (C f 2) t i m)))) C) := by
    intro q1
    refine ev_iload_n (pc := 25) d_X_mayOpen_25 rfl rfl ?_
    refine ev_cS (pc := 26) (ct_X_isForWriting E C _) cl_X_294 js_X_isForWriting ⟨(Nat.le_of_ble_eq_true rfl), (Nat.le_of_ble_eq_true rfl)⟩ rfl rfl (Nat.le_of_ble_eq_true rfl) d_X_mayOpen_26 ⟨Nat.zero_le _, Nat.zero_le _⟩ ?_
    refine ev_if_ne (pc := 29) (tgt := 39) d_X_mayOpen_29 (by decide) (fun ha => ?_) (fun ha => ?_)
    · rw [b2_0, Classical.not_not] at ha
      refine ev_iconst (pc := 39) (v := 1) d_X_mayOpen_39 rfl ?_
      refine ev_goto (pc := 40) (tgt := 44) d_X_mayOpen_40 (by decide) ?_
      exact t44 1 q1 ⟨fun z => absurd z (by decide), fun z => absurd z.1 ha⟩
    rw [b2_0, Classical.not_not] at ha
    refine ev_iload_n (pc := 32) d_X_mayOpen_32 rfl rfl ?_
    refine ev_bipush (pc := 33) (v := 16) d_X_mayOpen_33 (by decide) ?_
    refine ev_iand (pc := 35) d_X_mayOpen_35 ?_
    refine ev_if_eq (pc := 36) (tgt := 43) d_X_mayOpen_36 (by decide) (fun hb => ?_) (fun hb => ?_)
    · refine ev_iconst (pc := 43) (v := 0) d_X_mayOpen_43 rfl ?_
      exact t44 0 q1 ⟨fun _ => ⟨ha, hb⟩, fun _ => rfl⟩
    · refine ev_iconst (pc := 39) (v := 1) d_X_mayOpen_39 rfl ?_
      refine ev_goto (pc := 40) (tgt := 44) d_X_mayOpen_40 (by decide) ?_
      exact t44 1 q1 ⟨fun z => absurd z (by decide), fun z => absurd z.2 hb⟩
  refine mm_mtL (by decide) (by rfl) (Nat.le_of_ble_eq_true rfl) rfl ?_
  refine ev_iload_n (pc := 0) d_X_mayOpen_0 rfl rfl ?_
  refine ev_cS (pc := 1) (ct_X_isForReading E C _) cl_X_291 js_X_isForReading ⟨(Nat.le_of_ble_eq_true rfl), (Nat.le_of_ble_eq_true rfl)⟩ rfl rfl (Nat.le_of_ble_eq_true rfl) d_X_mayOpen_1 ⟨Nat.zero_le _, Nat.zero_le _⟩ ?_
  refine ev_if_eq (pc := 4) (tgt := 25) d_X_mayOpen_4 (by decide) (fun ha => ?_) (fun ha => ?_)
  · rw [b2_0, Classical.not_not] at ha
    exact t25 (Or.inl ha)
  rw [b2_0, Classical.not_not] at ha
  refine ev_aload_n (pc := 7) d_X_mayOpen_7 rfl rfl (by first | rfl | exact mm_rk_rf _) ?_
  refine ev_gR (pc := 8) sh_X (by rfl) fl_X_19 d_X_mayOpen_8 ?_
  refine ev_aload_n (pc := 11) d_X_mayOpen_11 rfl rfl (by first | rfl | exact mm_rk_rf _) ?_
  refine ev_gI (pc := 12) (by assumption) (by rfl) fl_X_237 d_X_mayOpen_12 ?_
  refine ev_aload_n (pc := 15) d_X_mayOpen_15 rfl rfl (by first | rfl | exact mm_rk_rf _) ?_
  refine ev_iconst (pc := 16) (v := 4) d_X_mayOpen_16 rfl ?_
  refine ev_cV (pc := 17) (ct_mayI E C hi _ 4) cl_X_250 jv_M_may ⟨(Nat.le_of_ble_eq_true rfl), (Nat.le_of_ble_eq_true rfl)⟩ rfl sh_M rfl (Nat.le_of_ble_eq_true rfl) d_X_mayOpen_17 ⟨Nat.zero_le _, Nat.zero_le _⟩ ?_
  refine ev_if_ne (pc := 20) (tgt := 25) d_X_mayOpen_20 (by decide) (fun hb => ?_) (fun hb => ?_)
  · rw [b3_0, Classical.not_not] at hb
    exact t25 (Or.inr hb)
  · rw [b3_0] at hb
    refine ev_iconst (pc := 23) (v := 0) d_X_mayOpen_23 rfl ?_
    exact ev_zret (pc := 24) d_X_mayOpen_24 rfl (by first | exact Or.inl rfl | exact Or.inr rfl | assumption) (Nat.zero_le _) (Nat.zero_le _) ⟨by rw [b3_f (fun z => z.1.elim ha hb)], rfl⟩
noncomputable def xh_open (C : Nat → Nat → Int32) (f t i : Nat) (m : Int32) : Int32 :=
  if ¬ ((m &&& -84) = 0 ∧ ¬ (m &&& 3) = 3) then -7 else if ¬ (C (bk i) 8 &&& 2048) = 0 ∧ ¬ m = 0 then -4 else if ¬ C f 3 = 0 ∧ ¬ m = 0 then -9 else it_P (xo_may C (C f 2) t i m) (it_P (¬ (C (bk i) 8 &&& 1024) = 0 ∧ fo_a C (C f 3) (C (bk i) 2)) (-10) 0) (-5)
theorem d_X_hindranceOfOpening_0 : decode b_X_hindranceOfOpening 0 = .ok (.iload_n 3, 1) := by decide +kernel
theorem d_X_hindranceOfOpening_1 : decode b_X_hindranceOfOpening 1 = .ok (.invokestatic 281, 3) := by decide +kernel
theorem d_X_hindranceOfOpening_4 : decode b_X_hindranceOfOpening 4 = .ok (.ifCond .ne 6, 3) := by decide +kernel
theorem d_X_hindranceOfOpening_7 : decode b_X_hindranceOfOpening 7 = .ok (.bipush (-7), 2) := by decide +kernel
theorem d_X_hindranceOfOpening_9 : decode b_X_hindranceOfOpening 9 = .ok (.ireturn, 1) := by decide +kernel
theorem d_X_hindranceOfOpening_10 : decode b_X_hindranceOfOpening 10 = .ok (.aload_n 2, 1) := by decide +kernel
theorem d_X_hindranceOfOpening_11 : decode b_X_hindranceOfOpening 11 = .ok (.invokevirtual 247, 3) := by decide +kernel
theorem d_X_hindranceOfOpening_14 : decode b_X_hindranceOfOpening 14 = .ok (.ifCond .eq 10, 3) := by decide +kernel
theorem d_X_hindranceOfOpening_17 : decode b_X_hindranceOfOpening 17 = .ok (.iload_n 3, 1) := by decide +kernel
theorem d_X_hindranceOfOpening_18 : decode b_X_hindranceOfOpening 18 = .ok (.ifCond .eq 6, 3) := by decide +kernel
theorem d_X_hindranceOfOpening_21 : decode b_X_hindranceOfOpening 21 = .ok (.bipush (-4), 2) := by decide +kernel
theorem d_X_hindranceOfOpening_23 : decode b_X_hindranceOfOpening 23 = .ok (.ireturn, 1) := by decide +kernel
theorem d_X_hindranceOfOpening_24 : decode b_X_hindranceOfOpening 24 = .ok (.aload_n 1, 1) := by decide +kernel
theorem d_X_hindranceOfOpening_25 : decode b_X_hindranceOfOpening 25 = .ok (.invokevirtual 124, 3) := by decide +kernel
theorem d_X_hindranceOfOpening_28 : decode b_X_hindranceOfOpening 28 = .ok (.ifCond .eq 10, 3) := by decide +kernel
theorem d_X_hindranceOfOpening_31 : decode b_X_hindranceOfOpening 31 = .ok (.iload_n 3, 1) := by decide +kernel
theorem d_X_hindranceOfOpening_32 : decode b_X_hindranceOfOpening 32 = .ok (.ifCond .eq 6, 3) := by decide +kernel
theorem d_X_hindranceOfOpening_35 : decode b_X_hindranceOfOpening 35 = .ok (.bipush (-9), 2) := by decide +kernel
theorem d_X_hindranceOfOpening_37 : decode b_X_hindranceOfOpening 37 = .ok (.ireturn, 1) := by decide +kernel
theorem d_X_hindranceOfOpening_38 : decode b_X_hindranceOfOpening 38 = .ok (.aload_n 0, 1) := by decide +kernel
theorem d_X_hindranceOfOpening_39 : decode b_X_hindranceOfOpening 39 = .ok (.aload_n 1, 1) := by decide +kernel
theorem d_X_hindranceOfOpening_40 : decode b_X_hindranceOfOpening 40 = .ok (.aload_n 2, 1) := by decide +kernel
theorem d_X_hindranceOfOpening_41 : decode b_X_hindranceOfOpening 41 = .ok (.iload_n 3, 1) := by decide +kernel
theorem d_X_hindranceOfOpening_42 : decode b_X_hindranceOfOpening 42 = .ok (.invokevirtual 284, 3) := by decide +kernel
theorem d_X_hindranceOfOpening_45 : decode b_X_hindranceOfOpening 45 = .ok (.ifCond .ne 6, 3) := by decide +kernel
theorem d_X_hindranceOfOpening_48 : decode b_X_hindranceOfOpening 48 = .ok (.bipush (-5), 2) := by decide +kernel
theorem d_X_hindranceOfOpening_50 : decode b_X_hindranceOfOpening 50 = .ok (.ireturn, 1) := by decide +kernel
theorem d_X_hindranceOfOpening_51 : decode b_X_hindranceOfOpening 51 = .ok (.aload_n 2, 1) := by decide +kernel
theorem d_X_hindranceOfOpening_52 : decode b_X_hindranceOfOpening 52 = .ok (.sipush 1024, 3) := by decide +kernel
theorem d_X_hindranceOfOpening_55 : decode b_X_hindranceOfOpening 55 = .ok (.invokevirtual 258, 3) := by decide +kernel
theorem d_X_hindranceOfOpening_58 : decode b_X_hindranceOfOpening 58 = .ok (.ifCond .eq 23, 3) := by decide +kernel
theorem d_X_hindranceOfOpening_61 : decode b_X_hindranceOfOpening 61 = .ok (.aload_n 0, 1) := by decide +kernel
theorem d_X_hindranceOfOpening_62 : decode b_X_hindranceOfOpening 62 = .ok (.aload_n 1, 1) := by decide +kernel
theorem d_X_hindranceOfOpening_63 : decode b_X_hindranceOfOpening 63 = .ok (.getfield 225, 3) := by decide +kernel
theorem d_X_hindranceOfOpening_66 : decode b_X_hindranceOfOpening 66 = .ok (.aload_n 2, 1) := by decide +kernel
theorem d_X_hindranceOfOpening_67 : decode b_X_hindranceOfOpening 67 = .ok (.getfield 244, 3) := by decide +kernel
theorem d_X_hindranceOfOpening_70 : decode b_X_hindranceOfOpening 70 = .ok (.invokevirtual 288, 3) := by decide +kernel
theorem d_X_hindranceOfOpening_73 : decode b_X_hindranceOfOpening 73 = .ok (.ifCond .eq 8, 3) := by decide +kernel
theorem d_X_hindranceOfOpening_76 : decode b_X_hindranceOfOpening 76 = .ok (.bipush (-10), 2) := by decide +kernel
theorem d_X_hindranceOfOpening_78 : decode b_X_hindranceOfOpening 78 = .ok (.goto 4, 3) := by decide +kernel
theorem d_X_hindranceOfOpening_81 : decode b_X_hindranceOfOpening 81 = .ok (.iconst 0, 1) := by decide +kernel
theorem d_X_hindranceOfOpening_82 : decode b_X_hindranceOfOpening 82 = .ok (.ireturn, 1) := by decide +kernel
set_option maxHeartbeats 2000000 in
set_option maxRecDepth 20000 in
theorem ct_X_hindranceOfOpening (E : mm_En) (C : Nat → Nat → Int32) {f t i : Nat} (hf : fi_s f) (hi : i < 64) (ht : t < 32) (he : C f 3 = nI t) (m : Int32) : mm_MT E K_X_hindranceOfOpening [.ref 0, .ref f, .ref (bk i), .int m] (hp_H C) (mm_D (some (.int (xh_open C f t i m))) C) := by
  have s1 := bk_s hi
  have t38 : ¬ ¬ ((m &&& -84) = 0 ∧ ¬ (m &&& 3) = 3) → ¬ (¬ (C (bk i) 8 &&& 2048) = 0 ∧ ¬ m = 0) → ¬ (¬ C f 3 = 0 ∧ ¬ m = 0) → ev_At E K_X_hindranceOfOpening 38 [some (.ref 0), some (.ref f), some (.ref (bk i)), some (.int m)] [] (hp_H C) 0 0 (mm_D (some (.int (xh_open C f t i m))) C) := by
    intro q1 q2 q3
    have e : xh_open C f t i m = it_P (xo_may C (C f 2) t i m) (it_P (¬ (C (bk i) 8 &&& 1024) = 0 ∧ fo_a C (C f 3) (C (bk i) 2)) (-10) 0) (-5) := by
      rw [xh_open, if_neg q1, if_neg q2, if_neg q3]
    rw [e]
    refine ev_aload_n (pc := 38) d_X_hindranceOfOpening_38 rfl rfl (by first | rfl | exact mm_rk_rf _) ?_
    refine ev_aload_n (pc := 39) d_X_hindranceOfOpening_39 rfl rfl (by first | rfl | exact mm_rk_rf _) ?_
    refine ev_aload_n (pc := 40) d_X_hindranceOfOpening_40 rfl rfl (by first | rfl | exact mm_rk_rf _) ?_
    refine ev_iload_n (pc := 41) d_X_hindranceOfOpening_41 rfl rfl ?_
    refine ev_cV (pc := 42) (ct_X_mayOpen E C hf hi ht he m) cl_X_284 jv_X_mayOpen ⟨(Nat.le_of_ble_eq_true rfl), (Nat.le_of_ble_eq_true rfl)⟩ rfl sh_X rfl (Nat.le_of_ble_eq_true rfl) d_X_hindranceOfOpening_42 ⟨Nat.zero_le _, Nat.zero_le _⟩ ?_
    refine ev_if_ne (pc := 45) (tgt := 51) d_X_hindranceOfOpening_45 (by decide) (fun ha => ?_) (fun ha => ?_)
    rotate_left
    · rw [b3_0] at ha
      refine ev_bipush (pc := 48) (v := -5) d_X_hindranceOfOpening_48 (by decide) ?_
      exact ev_iret (pc := 50) d_X_hindranceOfOpening_50 rfl (Nat.zero_le _) (Nat.zero_le _) ⟨by rw [it_f ha], rfl⟩
    rw [b3_0, Classical.not_not] at ha
    rw [it_t ha]
    refine ev_aload_n (pc := 51) d_X_hindranceOfOpening_51 rfl rfl (by first | rfl | exact mm_rk_rf _) ?_
    refine ev_sipush (pc := 52) (v := 1024) d_X_hindranceOfOpening_52 (by decide) ?_
    refine ev_cV (pc := 55) (ct_B_is E C s1 1024) cl_X_258 jv_B_is ⟨(Nat.le_of_ble_eq_true rfl), (Nat.le_of_ble_eq_true rfl)⟩ rfl (by assumption) rfl (Nat.le_of_ble_eq_true rfl) d_X_hindranceOfOpening_55 ⟨Nat.zero_le _, Nat.zero_le _⟩ ?_
    refine ev_if_eq (pc := 58) (tgt := 81) d_X_hindranceOfOpening_58 (by decide) (fun hb => ?_) (fun hb => ?_)
    · rw [b2_0, Classical.not_not] at hb
      refine ev_iconst (pc := 81) (v := 0) d_X_hindranceOfOpening_81 rfl ?_
      exact ev_iret (pc := 82) d_X_hindranceOfOpening_82 rfl (Nat.zero_le _) (Nat.zero_le _) ⟨by rw [it_f (fun z => z.1 hb)], rfl⟩
    rw [b2_0, Classical.not_not] at hb
    refine ev_aload_n (pc := 61) d_X_hindranceOfOpening_61 rfl rfl (by first | rfl | exact mm_rk_rf _) ?_
    refine ev_aload_n (pc := 62) d_X_hindranceOfOpening_62 rfl rfl (by first | rfl | exact mm_rk_rf _) ?_
    refine ev_gI (pc := 63) (by assumption) (by rfl) fl_X_225 d_X_hindranceOfOpening_63 ?_
    refine ev_aload_n (pc := 66) d_X_hindranceOfOpening_66 rfl rfl (by first | rfl | exact mm_rk_rf _) ?_
    refine ev_gI (pc := 67) (by assumption) (by rfl) fl_X_244 d_X_hindranceOfOpening_67 ?_
    refine ev_cV (pc := 70) (ct_X_isOpen E C _ _) cl_X_288 jv_X_isOpen ⟨(Nat.le_of_ble_eq_true rfl), (Nat.le_of_ble_eq_true rfl)⟩ rfl sh_X rfl (Nat.le_of_ble_eq_true rfl) d_X_hindranceOfOpening_70 ⟨Nat.zero_le _, Nat.zero_le _⟩ ?_
    refine ev_if_eq (pc := 73) (tgt := 81) d_X_hindranceOfOpening_73 (by decide) (fun hc => ?_) (fun hc => ?_)
    · rw [b3_0] at hc
      refine ev_iconst (pc := 81) (v := 0) d_X_hindranceOfOpening_81 rfl ?_
      exact ev_iret (pc := 82) d_X_hindranceOfOpening_82 rfl (Nat.zero_le _) (Nat.zero_le _) ⟨by rw [it_f (fun z => hc z.2)], rfl⟩
    · rw [b3_0, Classical.not_not] at hc
      refine ev_bipush (pc := 76) (v := -10) d_X_hindranceOfOpening_76 (by decide) ?_
      refine ev_goto (pc := 78) (tgt := 82) d_X_hindranceOfOpening_78 (by decide) ?_
      exact ev_iret (pc := 82) d_X_hindranceOfOpening_82 rfl (Nat.zero_le _) (Nat.zero_le _) ⟨by rw [it_t ⟨hb, hc⟩], rfl⟩
  have t24 : ¬ ¬ ((m &&& -84) = 0 ∧ ¬ (m &&& 3) = 3) → ¬ (¬ (C (bk i) 8 &&& 2048) = 0 ∧ ¬ m = 0) → ev_At E K_X_hindranceOfOpening 24 [some (.ref 0), some (.ref f), some (.ref (bk i)), some (.int m)] [] (hp_H C) 0 0 (mm_D (some (.int (xh_open C f t i m))) C) := by
    intro q1 q2
    refine ev_aload_n (pc := 24) d_X_hindranceOfOpening_24 rfl rfl (by first | rfl | exact mm_rk_rf _) ?_
    refine ev_cV (pc := 25) (ct_F_isInSnapshot E C hf) cl_X_124 jv_F_isInSnapshot ⟨(Nat.le_of_ble_eq_true rfl), (Nat.le_of_ble_eq_true rfl)⟩ rfl (by assumption) rfl (Nat.le_of_ble_eq_true rfl) d_X_hindranceOfOpening_25 ⟨Nat.zero_le _, Nat.zero_le _⟩ ?_
    refine ev_if_eq (pc := 28) (tgt := 38) d_X_hindranceOfOpening_28 (by decide) (fun ha => ?_) (fun ha => ?_)
    · rw [b2_0, Classical.not_not] at ha
      exact t38 q1 q2 (fun z => z.1 ha)
    rw [b2_0, Classical.not_not] at ha
    refine ev_iload_n (pc := 31) d_X_hindranceOfOpening_31 rfl rfl ?_
    refine ev_if_eq (pc := 32) (tgt := 38) d_X_hindranceOfOpening_32 (by decide) (fun hb => ?_) (fun hb => ?_)
    · exact t38 q1 q2 (fun z => z.2 hb)
    · refine ev_bipush (pc := 35) (v := -9) d_X_hindranceOfOpening_35 (by decide) ?_
      exact ev_iret (pc := 37) d_X_hindranceOfOpening_37 rfl (Nat.zero_le _) (Nat.zero_le _) ⟨by rw [xh_open, if_neg q1, if_neg q2, if_pos ⟨ha, hb⟩], rfl⟩
  refine mm_mtL (by decide) (by rfl) (Nat.le_of_ble_eq_true rfl) rfl ?_
  refine ev_iload_n (pc := 0) d_X_hindranceOfOpening_0 rfl rfl ?_
  refine ev_cS (pc := 1) (ct_X_isOpenMode E C _) cl_X_281 js_X_isOpenMode ⟨(Nat.le_of_ble_eq_true rfl), (Nat.le_of_ble_eq_true rfl)⟩ rfl rfl (Nat.le_of_ble_eq_true rfl) d_X_hindranceOfOpening_1 ⟨Nat.zero_le _, Nat.zero_le _⟩ ?_
  refine ev_if_ne (pc := 4) (tgt := 10) d_X_hindranceOfOpening_4 (by decide) (fun ha => ?_) (fun ha => ?_)
  rotate_left
  · rw [b2_0] at ha
    refine ev_bipush (pc := 7) (v := -7) d_X_hindranceOfOpening_7 (by decide) ?_
    exact ev_iret (pc := 9) d_X_hindranceOfOpening_9 rfl (Nat.zero_le _) (Nat.zero_le _) ⟨by rw [xh_open, if_pos ha], rfl⟩
  rw [b2_0] at ha
  refine ev_aload_n (pc := 10) d_X_hindranceOfOpening_10 rfl rfl (by first | rfl | exact mm_rk_rf _) ?_
  refine ev_cV (pc := 11) (ct_B_isDirectory E C s1) cl_X_247 jv_B_isDirectory ⟨(Nat.le_of_ble_eq_true rfl), (Nat.le_of_ble_eq_true rfl)⟩ rfl (by assumption) rfl (Nat.le_of_ble_eq_true rfl) d_X_hindranceOfOpening_11 ⟨Nat.zero_le _, Nat.zero_le _⟩ ?_
  refine ev_if_eq (pc := 14) (tgt := 24) d_X_hindranceOfOpening_14 (by decide) (fun hb => ?_) (fun hb => ?_)
  · rw [b2_0, Classical.not_not] at hb
    exact t24 ha (fun z => z.1 hb)
  rw [b2_0, Classical.not_not] at hb
  refine ev_iload_n (pc := 17) d_X_hindranceOfOpening_17 rfl rfl ?_
  refine ev_if_eq (pc := 18) (tgt := 24) d_X_hindranceOfOpening_18 (by decide) (fun hc => ?_) (fun hc => ?_)
  · exact t24 ha (fun z => z.2 hc)
  · refine ev_bipush (pc := 21) (v := -4) d_X_hindranceOfOpening_21 (by decide) ?_
    exact ev_iret (pc := 23) d_X_hindranceOfOpening_23 rfl (Nat.zero_le _) (Nat.zero_le _) ⟨by rw [xh_open, if_neg ha, if_pos ⟨hb, hc⟩], rfl⟩
