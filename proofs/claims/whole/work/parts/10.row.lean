/-! Row: a row of numbers at the cell r, its array at r + 1, of length n. -/
abbrev rw_s (r n : Nat) : Prop := hp_S[r]? = some (.inr (5, [some (r + 1), none])) ∧ hp_S[r + 1]? = some (.inl (0, n, []))
def rw_at (C : Nat → Nat → Int32) (r n : Nat) (i : Int32) : Int32 := if 0 ≤ i ∧ i < C r 1 ∧ i < nI n then C (r + 1) i.toNatClampNeg else 0
def rw_add (C : Nat → Nat → Int32) (r n : Nat) (x : Int32) : Nat → Nat → Int32 := if C r 1 < nI n then cs_C (cs_C C (r + 1) (C r 1).toNatClampNeg x) r 1 (C r 1 + 1) else C
/-- the row r holds what the row o holds, up to k -/
def rw_cp (C : Nat → Nat → Int32) (r o k : Nat) : Nat → Nat → Int32 := fun i j => if i = r ∧ j = 1 then nI k else if i = r + 1 ∧ j < k then C (o + 1) j else C i j
theorem nx_nlt {x : Int32} {n : Nat} (h0 : ¬ x < 0) (h : ¬ nI n ≤ x) (hn : n < 2 ^ 31) : vp_in x n := by
  obtain ⟨j, hj, rfl⟩ : ∃ j : Nat, j < n ∧ x = nI j := by
    rcases pk_ix x hn with h1 | h1 | h1
    · exact absurd h1 h0
    · exact absurd h1 h
    · exact h1
  exact vp_in_nI hj hn
theorem nx_le0 {x : Int32} (h : ¬ x < 0) : 0 ≤ x := Int32.not_lt.mp h
theorem nx_inc (n : Nat) : nI n + Int32.ofInt 1 = nI (n + 1) := by rw [show Int32.ofInt 1 = 1 from rfl, nI_1]
theorem d_R_clear_0 : decode b_R_clear 0 = .ok (.aload_n 0, 1) := by decide +kernel
theorem d_R_clear_1 : decode b_R_clear 1 = .ok (.iconst 0, 1) := by decide +kernel
theorem d_R_clear_2 : decode b_R_clear 2 = .ok (.putfield 13, 3) := by decide +kernel
theorem d_R_clear_5 : decode b_R_clear 5 = .ok (.return_, 1) := by decide +kernel
set_option maxRecDepth 20000 in
theorem ct_R_clear (E : mm_En) (C : Nat → Nat → Int32) {r n : Nat} (hs : rw_s r n) : mm_MT E K_R_clear [.ref r] (hp_H C) (mm_D none (cs_C C r 1 0)) := by
  obtain ⟨h1, h2⟩ := hs
  refine mm_mtL (by decide) (by rfl) (Nat.le_of_ble_eq_true rfl) rfl ?_
  refine ev_aload_n (pc := 0) d_R_clear_0 rfl rfl (by first | rfl | exact mm_rk_rf _) ?_
  refine ev_iconst (pc := 1) (v := 0) d_R_clear_1 rfl ?_
  refine ev_pI (pc := 2) (by assumption) (by rfl) fl_R_13 fw_5_1 (by rfl) d_R_clear_2 ?_
  exact ev_vret (pc := 5) d_R_clear_5 rfl (Nat.zero_le _) (Nat.zero_le _) ⟨rfl, rfl⟩
theorem d_R_at_0 : decode b_R_at 0 = .ok (.iload_n 1, 1) := by decide +kernel
theorem d_R_at_1 : decode b_R_at 1 = .ok (.ifCond .lt 29, 3) := by decide +kernel
theorem d_R_at_4 : decode b_R_at 4 = .ok (.iload_n 1, 1) := by decide +kernel
theorem d_R_at_5 : decode b_R_at 5 = .ok (.aload_n 0, 1) := by decide +kernel
theorem d_R_at_6 : decode b_R_at 6 = .ok (.getfield 13, 3) := by decide +kernel
theorem d_R_at_9 : decode b_R_at 9 = .ok (.if_icmp .ge 21, 3) := by decide +kernel
theorem d_R_at_12 : decode b_R_at 12 = .ok (.iload_n 1, 1) := by decide +kernel
theorem d_R_at_13 : decode b_R_at 13 = .ok (.aload_n 0, 1) := by decide +kernel
theorem d_R_at_14 : decode b_R_at 14 = .ok (.getfield 7, 3) := by decide +kernel
theorem d_R_at_17 : decode b_R_at 17 = .ok (.arraylength, 1) := by decide +kernel
theorem d_R_at_18 : decode b_R_at 18 = .ok (.if_icmp .ge 12, 3) := by decide +kernel
theorem d_R_at_21 : decode b_R_at 21 = .ok (.aload_n 0, 1) := by decide +kernel
theorem d_R_at_22 : decode b_R_at 22 = .ok (.getfield 7, 3) := by decide +kernel
theorem d_R_at_25 : decode b_R_at 25 = .ok (.iload_n 1, 1) := by decide +kernel
theorem d_R_at_26 : decode b_R_at 26 = .ok (.iaload, 1) := by decide +kernel
theorem d_R_at_27 : decode b_R_at 27 = .ok (.goto 4, 3) := by decide +kernel
theorem d_R_at_30 : decode b_R_at 30 = .ok (.iconst 0, 1) := by decide +kernel
theorem d_R_at_31 : decode b_R_at 31 = .ok (.ireturn, 1) := by decide +kernel
set_option maxRecDepth 20000 in
theorem ct_R_at (E : mm_En) (C : Nat → Nat → Int32) {r n : Nat} (hs : rw_s r n) (hn : n < 2 ^ 31) (i : Int32) : mm_MT E K_R_at [.ref r, .int i] (hp_H C) (mm_D (some (.int (rw_at C r n i))) C) := by
  obtain ⟨h1, h2⟩ := hs
  refine mm_mtL (by decide) (by rfl) (Nat.le_of_ble_eq_true rfl) rfl ?_
  refine ev_iload_n (pc := 0) d_R_at_0 rfl rfl ?_
  refine ev_if_lt (pc := 1) (tgt := 30) d_R_at_1 (by decide) (fun ha => ?_) (fun ha => ?_)
  · refine ev_iconst (pc := 30) (v := 0) d_R_at_30 rfl ?_
    exact ev_iret (pc := 31) d_R_at_31 rfl (Nat.zero_le _) (Nat.zero_le _) ⟨by simp [rw_at, Int32.not_le.mpr ha], rfl⟩
  refine ev_iload_n (pc := 4) d_R_at_4 rfl rfl ?_
  refine ev_aload_n (pc := 5) d_R_at_5 rfl rfl (by first | rfl | exact mm_rk_rf _) ?_
  refine ev_gI (pc := 6) (by assumption) (by rfl) fl_R_13 d_R_at_6 ?_
  refine ev_icmp_ge (pc := 9) (tgt := 30) d_R_at_9 (by decide) (fun hb => ?_) (fun hb => ?_)
  · refine ev_iconst (pc := 30) (v := 0) d_R_at_30 rfl ?_
    exact ev_iret (pc := 31) d_R_at_31 rfl (Nat.zero_le _) (Nat.zero_le _) ⟨by simp [rw_at, Int32.not_lt.mpr hb], rfl⟩
  refine ev_iload_n (pc := 12) d_R_at_12 rfl rfl ?_
  refine ev_aload_n (pc := 13) d_R_at_13 rfl rfl (by first | rfl | exact mm_rk_rf _) ?_
  refine ev_gR (pc := 14) (by assumption) (by rfl) fl_R_7 d_R_at_14 ?_
  refine ev_al (pc := 17) (by assumption) rfl (show Int32.ofNat _ = nI _ from rfl) d_R_at_17 ?_
  refine ev_icmp_ge (pc := 18) (tgt := 30) d_R_at_18 (by decide) (fun hc => ?_) (fun hc => ?_)
  · refine ev_iconst (pc := 30) (v := 0) d_R_at_30 rfl ?_
    exact ev_iret (pc := 31) d_R_at_31 rfl (Nat.zero_le _) (Nat.zero_le _) ⟨by rw [rw_at, if_neg (fun z => absurd z.2.2 (Int32.not_lt.mpr hc))], rfl⟩
  have hin := nx_nlt ha hc hn
  refine ev_aload_n (pc := 21) d_R_at_21 rfl rfl (by first | rfl | exact mm_rk_rf _) ?_
  refine ev_gR (pc := 22) (by assumption) (by rfl) fl_R_7 d_R_at_22 ?_
  refine ev_iload_n (pc := 25) d_R_at_25 rfl rfl ?_
  refine ev_rI (pc := 26) (by assumption) (by assumption) d_R_at_26 ?_
  refine ev_goto (pc := 27) (tgt := 31) d_R_at_27 (by decide) ?_
  exact ev_iret (pc := 31) d_R_at_31 rfl (Nat.zero_le _) (Nat.zero_le _) ⟨by rw [rw_at, if_pos ⟨nx_le0 ha, Int32.not_le.mp hb, Int32.not_le.mp hc⟩], rfl⟩
theorem d_R_add_0 : decode b_R_add 0 = .ok (.aload_n 0, 1) := by decide +kernel
theorem d_R_add_1 : decode b_R_add 1 = .ok (.getfield 13, 3) := by decide +kernel
theorem d_R_add_4 : decode b_R_add 4 = .ok (.aload_n 0, 1) := by decide +kernel
theorem d_R_add_5 : decode b_R_add 5 = .ok (.getfield 7, 3) := by decide +kernel
theorem d_R_add_8 : decode b_R_add 8 = .ok (.arraylength, 1) := by decide +kernel
theorem d_R_add_9 : decode b_R_add 9 = .ok (.if_icmp .ge 23, 3) := by decide +kernel
theorem d_R_add_12 : decode b_R_add 12 = .ok (.aload_n 0, 1) := by decide +kernel
theorem d_R_add_13 : decode b_R_add 13 = .ok (.getfield 7, 3) := by decide +kernel
theorem d_R_add_16 : decode b_R_add 16 = .ok (.aload_n 0, 1) := by decide +kernel
theorem d_R_add_17 : decode b_R_add 17 = .ok (.getfield 13, 3) := by decide +kernel
theorem d_R_add_20 : decode b_R_add 20 = .ok (.iload_n 1, 1) := by decide +kernel
theorem d_R_add_21 : decode b_R_add 21 = .ok (.iastore, 1) := by decide +kernel
theorem d_R_add_22 : decode b_R_add 22 = .ok (.aload_n 0, 1) := by decide +kernel
theorem d_R_add_23 : decode b_R_add 23 = .ok (.dup, 1) := by decide +kernel
theorem d_R_add_24 : decode b_R_add 24 = .ok (.getfield 13, 3) := by decide +kernel
theorem d_R_add_27 : decode b_R_add 27 = .ok (.iconst 1, 1) := by decide +kernel
theorem d_R_add_28 : decode b_R_add 28 = .ok (.iadd, 1) := by decide +kernel
theorem d_R_add_29 : decode b_R_add 29 = .ok (.putfield 13, 3) := by decide +kernel
theorem d_R_add_32 : decode b_R_add 32 = .ok (.return_, 1) := by decide +kernel
set_option maxRecDepth 20000 in
theorem ct_R_add (E : mm_En) (C : Nat → Nat → Int32) {r n : Nat} (hs : rw_s r n) (hn : n < 2 ^ 31) (h0 : ¬ C r 1 < 0) (x : Int32) : mm_MT E K_R_add [.ref r, .int x] (hp_H C) (mm_D none (rw_add C r n x)) := by
  obtain ⟨h1, h2⟩ := hs
  refine mm_mtL (by decide) (by rfl) (Nat.le_of_ble_eq_true rfl) rfl ?_
  refine ev_aload_n (pc := 0) d_R_add_0 rfl rfl (by first | rfl | exact mm_rk_rf _) ?_
  refine ev_gI (pc := 1) (by assumption) (by rfl) fl_R_13 d_R_add_1 ?_
  refine ev_aload_n (pc := 4) d_R_add_4 rfl rfl (by first | rfl | exact mm_rk_rf _) ?_
  refine ev_gR (pc := 5) (by assumption) (by rfl) fl_R_7 d_R_add_5 ?_
  refine ev_al (pc := 8) (by assumption) rfl (show Int32.ofNat _ = nI _ from rfl) d_R_add_8 ?_
  refine ev_icmp_ge (pc := 9) (tgt := 32) d_R_add_9 (by decide) (fun hb => ?_) (fun hb => ?_)
  · exact ev_vret (pc := 32) d_R_add_32 rfl (Nat.zero_le _) (Nat.zero_le _) ⟨rfl, by rw [rw_add, if_neg (Int32.not_lt.mpr hb)]⟩
  have hin := nx_nlt h0 hb hn
  have e1 : cs_C C (r + 1) (C r 1).toNatClampNeg x r 1 = C r 1 := cs_ne C x (by omega)
  refine ev_aload_n (pc := 12) d_R_add_12 rfl rfl (by first | rfl | exact mm_rk_rf _) ?_
  refine ev_gR (pc := 13) (by assumption) (by rfl) fl_R_7 d_R_add_13 ?_
  refine ev_aload_n (pc := 16) d_R_add_16 rfl rfl (by first | rfl | exact mm_rk_rf _) ?_
  refine ev_gI (pc := 17) (by assumption) (by rfl) fl_R_13 d_R_add_17 ?_
  refine ev_iload_n (pc := 20) d_R_add_20 rfl rfl ?_
  refine ev_wI (pc := 21) (by assumption) (by assumption) d_R_add_21 ?_
  refine ev_aload_n (pc := 22) d_R_add_22 rfl rfl (by first | rfl | exact mm_rk_rf _) ?_
  refine ev_dup (pc := 23) d_R_add_23 (by rfl) ?_
  refine ev_gI (pc := 24) (by assumption) (by rfl) fl_R_13 d_R_add_24 ?_
  refine ev_iconst (pc := 27) (v := 1) d_R_add_27 rfl ?_
  rw [e1]
  refine ev_iadd (pc := 28) d_R_add_28 ?_
  refine ev_pI (pc := 29) (by assumption) (by rfl) fl_R_13 fw_5_1 (by rfl) d_R_add_29 ?_
  exact ev_vret (pc := 32) d_R_add_32 rfl (Nat.zero_le _) (Nat.zero_le _) ⟨rfl, by rw [rw_add, if_pos (Int32.not_le.mp hb)]⟩
theorem d_R_copyFrom_0 : decode b_R_copyFrom 0 = .ok (.aload_n 0, 1) := by decide +kernel
theorem d_R_copyFrom_1 : decode b_R_copyFrom 1 = .ok (.invokevirtual 17, 3) := by decide +kernel
theorem d_R_copyFrom_4 : decode b_R_copyFrom 4 = .ok (.iconst 0, 1) := by decide +kernel
theorem d_R_copyFrom_5 : decode b_R_copyFrom 5 = .ok (.istore_n 2, 1) := by decide +kernel
theorem d_R_copyFrom_6 : decode b_R_copyFrom 6 = .ok (.iload_n 2, 1) := by decide +kernel
theorem d_R_copyFrom_7 : decode b_R_copyFrom 7 = .ok (.aload_n 1, 1) := by decide +kernel
theorem d_R_copyFrom_8 : decode b_R_copyFrom 8 = .ok (.getfield 13, 3) := by decide +kernel
theorem d_R_copyFrom_11 : decode b_R_copyFrom 11 = .ok (.if_icmp .ge 18, 3) := by decide +kernel
theorem d_R_copyFrom_14 : decode b_R_copyFrom 14 = .ok (.aload_n 0, 1) := by decide +kernel
theorem d_R_copyFrom_15 : decode b_R_copyFrom 15 = .ok (.aload_n 1, 1) := by decide +kernel
theorem d_R_copyFrom_16 : decode b_R_copyFrom 16 = .ok (.iload_n 2, 1) := by decide +kernel
theorem d_R_copyFrom_17 : decode b_R_copyFrom 17 = .ok (.invokevirtual 20, 3) := by decide +kernel
theorem d_R_copyFrom_20 : decode b_R_copyFrom 20 = .ok (.invokevirtual 24, 3) := by decide +kernel
theorem d_R_copyFrom_23 : decode b_R_copyFrom 23 = .ok (.iinc 2 1, 3) := by decide +kernel
theorem d_R_copyFrom_26 : decode b_R_copyFrom 26 = .ok (.goto (-20), 3) := by decide +kernel
theorem d_R_copyFrom_29 : decode b_R_copyFrom 29 = .ok (.return_, 1) := by decide +kernel
set_option maxRecDepth 20000 in
theorem ct_R_copyFrom (E : mm_En) (C : Nat → Nat → Int32) {r o n n' k : Nat} (hs : rw_s r n) (ho : rw_s o n') (hn : n < 2 ^ 31) (hn' : n' < 2 ^ 31) (hk : C o 1 = nI k) (h1 : k ≤ n) (h2 : k ≤ n') (hne : o ≠ r ∧ o ≠ r + 1 ∧ o + 1 ≠ r) : mm_MT E K_R_copyFrom [.ref r, .ref o] (hp_H C) (mm_D none (rw_cp C r o k)) := by
  obtain ⟨g1, g2⟩ := hs
  obtain ⟨g3, g4⟩ := ho
  obtain ⟨n1, n2, n3⟩ := hne
  have loop : ∀ d i : Nat, i + d = k → ev_At E K_R_copyFrom 6 [some (.ref r), some (.ref o), some (.int (nI i))] [] (hp_H (rw_cp C r o i)) 0 0 (mm_D none (rw_cp C r o k)) := by
    intro d
    induction d with
    | zero =>
      intro i hi
      have hik : i = k := by omega
      subst hik
      have e : rw_cp C r o i o 1 = nI i := by simp [rw_cp, n1, n2, hk]
      refine ev_iload_n (pc := 6) d_R_copyFrom_6 rfl rfl ?_
      refine ev_aload_n (pc := 7) d_R_copyFrom_7 rfl rfl (by first | rfl | exact mm_rk_rf _) ?_
      refine ev_gI (pc := 8) (by assumption) (by rfl) fl_R_13 d_R_copyFrom_8 ?_
      rw [e]
      refine ev_icmp_ge (pc := 11) (tgt := 29) d_R_copyFrom_11 (by decide) (fun hc => ?_) (fun hc => ?_)
      · exact ev_vret (pc := 29) d_R_copyFrom_29 rfl (Nat.zero_le _) (Nat.zero_le _) ⟨rfl, rfl⟩
      · exact absurd (nI_le (Nat.le_refl i) (by omega)) hc
    | succ d ih =>
      intro i hi
      have e : rw_cp C r o i o 1 = nI k := by simp [rw_cp, n1, n2, hk]
      have e2 : rw_at (rw_cp C r o i) o n' (nI i) = C (o + 1) i := by
        rw [rw_at, e, if_pos ⟨nI_pos' (by omega), nI_lt (by omega) (by omega), nI_lt (by omega) (by omega)⟩, nI_clamp (by omega)]
        have : ¬ (o + 1 = r + 1) := by omega
        simp [rw_cp, n3]
      have e3 : rw_add (rw_cp C r o i) r n (C (o + 1) i) = rw_cp C r o (i + 1) := by
        have e4 : rw_cp C r o i r 1 = nI i := by simp [rw_cp]
        rw [rw_add, e4, if_pos (nI_lt (by omega) (by omega)), nI_clamp (by omega), nI_1]
        funext a b
        simp only [cs_app, rw_cp]
        grind
      have hM1 : mm_MT E K_R_at [.ref o, .int (nI i)] (hp_H (rw_cp C r o i)) (mm_D (some (.int (C (o + 1) i))) (rw_cp C r o i)) := by
        rw [← e2]
        exact ct_R_at E _ ⟨g3, g4⟩ hn' (nI i)
      have hM2 : mm_MT E K_R_add [.ref r, .int (C (o + 1) i)] (hp_H (rw_cp C r o i)) (mm_D none (rw_cp C r o (i + 1))) := by
        rw [← e3]
        refine ct_R_add E _ ⟨g1, g2⟩ hn ?_ _
        have e4 : rw_cp C r o i r 1 = nI i := by simp [rw_cp]
        rw [e4]
        exact nI_pos (by omega)
      refine ev_iload_n (pc := 6) d_R_copyFrom_6 rfl rfl ?_
      refine ev_aload_n (pc := 7) d_R_copyFrom_7 rfl rfl (by first | rfl | exact mm_rk_rf _) ?_
      refine ev_gI (pc := 8) (by assumption) (by rfl) fl_R_13 d_R_copyFrom_8 ?_
      rw [e]
      refine ev_icmp_ge (pc := 11) (tgt := 29) d_R_copyFrom_11 (by decide) (fun hc => ?_) (fun hc => ?_)
      · exact absurd hc (nI_ge (by omega) (by omega))
      refine ev_aload_n (pc := 14) d_R_copyFrom_14 rfl rfl (by first | rfl | exact mm_rk_rf _) ?_
      refine ev_aload_n (pc := 15) d_R_copyFrom_15 rfl rfl (by first | rfl | exact mm_rk_rf _) ?_
      refine ev_iload_n (pc := 16) d_R_copyFrom_16 rfl rfl ?_
      refine ev_cV (pc := 17) hM1 cl_R_20 jv_R_at ⟨(Nat.le_of_ble_eq_true rfl), (Nat.le_of_ble_eq_true rfl)⟩ rfl (by assumption) rfl (Nat.le_of_ble_eq_true rfl) d_R_copyFrom_17 ⟨Nat.zero_le _, Nat.zero_le _⟩ ?_
      refine ev_cVv (pc := 20) hM2 cl_R_24 jv_R_add ⟨(Nat.le_of_ble_eq_true rfl), (Nat.le_of_ble_eq_true rfl)⟩ rfl (by assumption) rfl (Nat.le_of_ble_eq_true rfl) d_R_copyFrom_20 ⟨Nat.zero_le _, Nat.zero_le _⟩ ?_
      refine ev_iinc (pc := 23) d_R_copyFrom_23 (Nat.le_of_ble_eq_true rfl) rfl (nx_inc _) rfl ?_
      dsimp only [List.set]
      refine ev_goto (pc := 26) (tgt := 6) d_R_copyFrom_26 (by decide) ?_
      exact ih (i + 1) (by omega)
  have e0 : cs_C C r 1 0 = rw_cp C r o 0 := by
    funext a b
    simp only [cs_app, rw_cp]
    have := nI_0
    grind
  have hM := ct_R_clear E C (r := r) (n := n) ⟨g1, g2⟩
  rw [e0] at hM
  refine mm_mtL (by decide) (by rfl) (Nat.le_of_ble_eq_true rfl) rfl ?_
  refine ev_aload_n (pc := 0) d_R_copyFrom_0 rfl rfl (by first | rfl | exact mm_rk_rf _) ?_
  refine ev_cVv (pc := 1) hM cl_R_17 jv_R_clear ⟨(Nat.le_of_ble_eq_true rfl), (Nat.le_of_ble_eq_true rfl)⟩ rfl (by assumption) rfl (Nat.le_of_ble_eq_true rfl) d_R_copyFrom_1 ⟨Nat.zero_le _, Nat.zero_le _⟩ ?_
  refine ev_iconst (pc := 4) (v := 0) d_R_copyFrom_4 rfl ?_
  refine ev_istore_n (pc := 5) d_R_copyFrom_5 rfl (Nat.le_of_ble_eq_true rfl) rfl ?_
  dsimp only [List.set]
  exact loop k 0 (by omega)
