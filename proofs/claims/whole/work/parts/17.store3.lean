/-! The store: children by title, ancestors, room, own blocks, changing, adding. -/
theorem cb_f_lt {C : Nat → Nat → Int32} {t : Nat} {p x : Int32} : ∀ (n i : Nat) (lo : Option Nat), i + n ≤ 64 → (∀ l, lo = some l → l < 64) → ∀ l, cb_f C t p x n i lo = some l → l < 64 := by
  intro n
  induction n with
  | zero => intro i lo _ h l hl; exact h l hl
  | succ n ih => intro i lo hi h l hl; exact ih (i + 1) _ (by omega) (cb_lt (by omega) h) l hl
def so_chi (C : Nat → Nat → Int32) (t : Nat) (p x : Int32) : Option Nat := match cb_f C t p (x - 1) 64 0 none with
  | some i => if C (bk i) 4 = x then some i else none
  | none => none
theorem d_S_child_0 : decode b_S_child 0 = .ok (.aload_n 0, 1) := by decide +kernel
theorem d_S_child_1 : decode b_S_child 1 = .ok (.iload_n 1, 1) := by decide +kernel
theorem d_S_child_2 : decode b_S_child 2 = .ok (.aload_n 2, 1) := by decide +kernel
theorem d_S_child_3 : decode b_S_child 3 = .ok (.iload_n 3, 1) := by decide +kernel
theorem d_S_child_4 : decode b_S_child 4 = .ok (.iconst 1, 1) := by decide +kernel
theorem d_S_child_5 : decode b_S_child 5 = .ok (.isub, 1) := by decide +kernel
theorem d_S_child_6 : decode b_S_child 6 = .ok (.invokevirtual 40, 3) := by decide +kernel
theorem d_S_child_9 : decode b_S_child 9 = .ok (.astore 4, 2) := by decide +kernel
theorem d_S_child_11 : decode b_S_child 11 = .ok (.aload 4, 2) := by decide +kernel
theorem d_S_child_13 : decode b_S_child 13 = .ok (.ifnull 17, 3) := by decide +kernel
theorem d_S_child_16 : decode b_S_child 16 = .ok (.aload 4, 2) := by decide +kernel
theorem d_S_child_18 : decode b_S_child 18 = .ok (.getfield 44, 3) := by decide +kernel
theorem d_S_child_21 : decode b_S_child 21 = .ok (.iload_n 3, 1) := by decide +kernel
theorem d_S_child_22 : decode b_S_child 22 = .ok (.if_icmp .ne 8, 3) := by decide +kernel
theorem d_S_child_25 : decode b_S_child 25 = .ok (.aload 4, 2) := by decide +kernel
theorem d_S_child_27 : decode b_S_child 27 = .ok (.goto 4, 3) := by decide +kernel
theorem d_S_child_30 : decode b_S_child 30 = .ok (.aconst_null, 1) := by decide +kernel
theorem d_S_child_31 : decode b_S_child 31 = .ok (.areturn, 1) := by decide +kernel
set_option maxRecDepth 20000 in
theorem ct_S_child (E : mm_En) (C : Nat → Nat → Int32) {t : Nat} (ht : t < 32) {b : Nat} (hb9 : bl_s b) (x : Int32) : mm_MT E K_S_child [.ref 1, .int (nI t), .ref b, .int x] (hp_H C) (mm_D (some (va_rf ((so_chi C t (C b 2) x).map bk))) C) := by
  have s1 := sh_S
  refine mm_mtL (by decide) (by rfl) (Nat.le_of_ble_eq_true rfl) rfl ?_
  refine ev_aload_n (pc := 0) d_S_child_0 rfl rfl (by first | rfl | exact mm_rk_rf _) ?_
  refine ev_iload_n (pc := 1) d_S_child_1 rfl rfl ?_
  refine ev_aload_n (pc := 2) d_S_child_2 rfl rfl (by first | rfl | exact mm_rk_rf _) ?_
  refine ev_iload_n (pc := 3) d_S_child_3 rfl rfl ?_
  refine ev_iconst (pc := 4) (v := 1) d_S_child_4 rfl ?_
  refine ev_isub (pc := 5) d_S_child_5 ?_
  refine ev_cV (pc := 6) (ct_S_childBehind E C ht hb9 _) cl_S_40 jv_S_childBehind ⟨(Nat.le_of_ble_eq_true rfl), (Nat.le_of_ble_eq_true rfl)⟩ rfl (by assumption) rfl (Nat.le_of_ble_eq_true rfl) d_S_child_6 ⟨Nat.zero_le _, Nat.zero_le _⟩ ?_
  refine ev_astore (pc := 9) d_S_child_9 (by first | rfl | exact mm_rk_rf _) (Nat.le_of_ble_eq_true rfl) rfl ?_
  try dsimp only [List.set]
  refine ev_aload (pc := 11) d_S_child_11 rfl (by first | rfl | exact mm_rk_rf _) ?_
  unfold so_cb
  cases hq : cb_f C t (C b 2) (x - 1) 64 0 none with
  | none =>
    refine ev_ifnullN (pc := 13) (tgt := 30) d_S_child_13 (by decide) ?_
    refine ev_null (pc := 30) d_S_child_30 ?_
    exact ev_aret (pc := 31) d_S_child_31 ⟨_, rfl⟩ (by first | rfl | exact mm_rk_rf _) (Nat.zero_le _) (Nat.zero_le _) ⟨by simp [so_chi, hq, va_rf], rfl⟩
  | some i =>
    have s3 := bk_s (cb_f_lt 64 0 none (by omega) (fun l h => by cases h) i hq)
    refine ev_ifnullR (pc := 13) d_S_child_13 ?_
    refine ev_aload (pc := 16) (v := .ref (bk i)) d_S_child_16 rfl rfl ?_
    refine ev_gI (pc := 18) (by assumption) (by rfl) fl_S_44 d_S_child_18 ?_
    refine ev_iload_n (pc := 21) d_S_child_21 rfl rfl ?_
    refine ev_icmp_ne (pc := 22) (tgt := 30) d_S_child_22 (by decide) (fun hc => ?_) (fun hc => ?_)
    · refine ev_null (pc := 30) d_S_child_30 ?_
      exact ev_aret (pc := 31) d_S_child_31 ⟨_, rfl⟩ (by first | rfl | exact mm_rk_rf _) (Nat.zero_le _) (Nat.zero_le _) ⟨by simp [so_chi, hq, va_rf, hc], rfl⟩
    · refine ev_aload (pc := 25) (v := .ref (bk i)) d_S_child_25 rfl rfl ?_
      refine ev_goto (pc := 27) (tgt := 31) d_S_child_27 (by decide) ?_
      exact ev_aret (pc := 31) d_S_child_31 ⟨_, rfl⟩ (by first | rfl | exact mm_rk_rf _) (Nat.zero_le _) (Nat.zero_le _) ⟨by simp [so_chi, hq, va_rf, hc], rfl⟩
theorem so_i_lt {C : Nat → Nat → Int32} {t : Nat} {p : Int32} {i : Nat} (h : so_i C t p = some i) : i < 64 := by
  have := fx_f_some _ _ _ _ h
  omega
/-- the node above, by its block's number -/
def so_abi (C : Nat → Nat → Int32) (t i : Nat) : Option Nat := if C (bk i) 2 = 0 then none else so_i C t (C (bk i) 3)
theorem so_abi_lt {C : Nat → Nat → Int32} {t i j : Nat} (h : so_abi C t i = some j) : j < 64 := by
  unfold so_abi at h
  split at h
  · cases h
  · exact so_i_lt h
theorem so_ab_i (C : Nat → Nat → Int32) (t i : Nat) : so_ab C t (bk i) = (so_abi C t i).map bk := by
  unfold so_ab so_abi so_find
  split <;> rfl
theorem ct_S_aboveI (E : mm_En) (C : Nat → Nat → Int32) {t : Nat} (ht : t < 32) {i : Nat} (hi : i < 64) : mm_MT E K_S_above [.ref 1, .int (nI t), .ref (bk i)] (hp_H C) (mm_D (some (va_rf ((so_abi C t i).map bk))) C) := by
  rw [← so_ab_i]
  exact ct_S_above E C ht (bk_s hi)
def ca_n (C : Nat → Nat → Int32) : Nat → Option Nat → Nat
  | 0, _ => 0
  | _ + 1, none => 0
  | n + 1, some i => 1 + ca_n C n (so_abi C 0 i)
theorem ca_n_le (C : Nat → Nat → Int32) : ∀ n o, ca_n C n o ≤ n := by
  intro n
  induction n with
  | zero => intro o; exact Nat.le_refl _
  | succ n ih =>
    intro o
    cases o with
    | none => exact Nat.zero_le _
    | some i => have := ih (so_abi C 0 i); simp only [ca_n]; omega
theorem d_S_countAbove_0 : decode b_S_countAbove 0 = .ok (.iconst 0, 1) := by decide +kernel
theorem d_S_countAbove_1 : decode b_S_countAbove 1 = .ok (.istore_n 2, 1) := by decide +kernel
theorem d_S_countAbove_2 : decode b_S_countAbove 2 = .ok (.aload_n 0, 1) := by decide +kernel
theorem d_S_countAbove_3 : decode b_S_countAbove 3 = .ok (.iconst 0, 1) := by decide +kernel
theorem d_S_countAbove_4 : decode b_S_countAbove 4 = .ok (.aload_n 1, 1) := by decide +kernel
theorem d_S_countAbove_5 : decode b_S_countAbove 5 = .ok (.invokevirtual 58, 3) := by decide +kernel
theorem d_S_countAbove_8 : decode b_S_countAbove 8 = .ok (.astore_n 3, 1) := by decide +kernel
theorem d_S_countAbove_9 : decode b_S_countAbove 9 = .ok (.iconst 0, 1) := by decide +kernel
theorem d_S_countAbove_10 : decode b_S_countAbove 10 = .ok (.istore 4, 2) := by decide +kernel
theorem d_S_countAbove_12 : decode b_S_countAbove 12 = .ok (.iload 4, 2) := by decide +kernel
theorem d_S_countAbove_14 : decode b_S_countAbove 14 = .ok (.bipush 20, 2) := by decide +kernel
theorem d_S_countAbove_16 : decode b_S_countAbove 16 = .ok (.if_icmp .ge 23, 3) := by decide +kernel
theorem d_S_countAbove_19 : decode b_S_countAbove 19 = .ok (.aload_n 3, 1) := by decide +kernel
theorem d_S_countAbove_20 : decode b_S_countAbove 20 = .ok (.ifnull 19, 3) := by decide +kernel
theorem d_S_countAbove_23 : decode b_S_countAbove 23 = .ok (.iinc 2 1, 3) := by decide +kernel
theorem d_S_countAbove_26 : decode b_S_countAbove 26 = .ok (.aload_n 0, 1) := by decide +kernel
theorem d_S_countAbove_27 : decode b_S_countAbove 27 = .ok (.iconst 0, 1) := by decide +kernel
theorem d_S_countAbove_28 : decode b_S_countAbove 28 = .ok (.aload_n 3, 1) := by decide +kernel
theorem d_S_countAbove_29 : decode b_S_countAbove 29 = .ok (.invokevirtual 58, 3) := by decide +kernel
theorem d_S_countAbove_32 : decode b_S_countAbove 32 = .ok (.astore_n 3, 1) := by decide +kernel
theorem d_S_countAbove_33 : decode b_S_countAbove 33 = .ok (.iinc 4 1, 3) := by decide +kernel
theorem d_S_countAbove_36 : decode b_S_countAbove 36 = .ok (.goto (-24), 3) := by decide +kernel
theorem d_S_countAbove_39 : decode b_S_countAbove 39 = .ok (.iload_n 2, 1) := by decide +kernel
theorem d_S_countAbove_40 : decode b_S_countAbove 40 = .ok (.ireturn, 1) := by decide +kernel
set_option maxRecDepth 20000 in
theorem ct_S_countAbove (E : mm_En) (C : Nat → Nat → Int32) {i0 : Nat} (h0 : i0 < 64) : mm_MT E K_S_countAbove [.ref 1, .ref (bk i0)] (hp_H C) (mm_D (some (.int (nI (ca_n C 20 (so_abi C 0 i0))))) C) := by
  have s1 := sh_S
  have s0 := bk_s h0
  have loop : ∀ (d i k : Nat) (o : Option Nat), i + d = 20 → k ≤ i → (∀ l, o = some l → l < 64) → ev_At E K_S_countAbove 12 [some (.ref 1), some (.ref (bk i0)), some (.int (nI k)), some (va_rf (o.map bk)), some (.int (nI i))] [] (hp_H C) 0 0 (mm_D (some (.int (nI (k + ca_n C d o)))) C) := by
    intro d
    induction d with
    | zero =>
      intro i k o hi hk ho
      have hi8 : i = 20 := by omega
      subst hi8
      refine ev_iload (pc := 12) d_S_countAbove_12 rfl ?_
      refine ev_bipush (pc := 14) (v := 20) d_S_countAbove_14 (by decide) ?_
      refine ev_icmp_ge (pc := 16) (tgt := 39) d_S_countAbove_16 (by decide) (fun ha => ?_) (fun ha => ?_)
      · refine ev_iload_n (pc := 39) d_S_countAbove_39 rfl rfl ?_
        exact ev_iret (pc := 40) d_S_countAbove_40 rfl (Nat.zero_le _) (Nat.zero_le _) ⟨rfl, rfl⟩
      · exact absurd (show nI 20 ≤ nI 20 from Int32.le_refl _) ha
    | succ d ih =>
      intro i k o hi hk ho
      refine ev_iload (pc := 12) d_S_countAbove_12 rfl ?_
      refine ev_bipush (pc := 14) (v := 20) d_S_countAbove_14 (by decide) ?_
      refine ev_icmp_ge (pc := 16) (tgt := 39) d_S_countAbove_16 (by decide) (fun ha => ?_) (fun ha => ?_)
      · exact absurd ha (nI_ge (show i < 20 by omega) (by decide))
      refine ev_aload_n (pc := 19) d_S_countAbove_19 rfl rfl (by first | rfl | exact mm_rk_rf _) ?_
      cases o with
      | none =>
        refine ev_ifnullN (pc := 20) (tgt := 39) d_S_countAbove_20 (by decide) ?_
        refine ev_iload_n (pc := 39) d_S_countAbove_39 rfl rfl ?_
        exact ev_iret (pc := 40) d_S_countAbove_40 rfl (Nat.zero_le _) (Nat.zero_le _) ⟨rfl, rfl⟩
      | some l =>
        refine ev_ifnullR (pc := 20) d_S_countAbove_20 ?_
        have s3 := bk_s (ho l rfl)
        refine ev_iinc (pc := 23) d_S_countAbove_23 (Nat.le_of_ble_eq_true rfl) rfl (nx_inc _) rfl ?_
        try dsimp only [List.set]
        refine ev_aload_n (pc := 26) d_S_countAbove_26 rfl rfl (by first | rfl | exact mm_rk_rf _) ?_
        refine ev_iconst (pc := 27) (v := 0) d_S_countAbove_27 rfl ?_
        refine ev_aload_n (pc := 28) (v := .ref (bk l)) d_S_countAbove_28 rfl rfl rfl ?_
        refine ev_cV (pc := 29) (ct_S_aboveI E C (t := 0) (by decide) (ho l rfl)) cl_S_58 jv_S_above ⟨(Nat.le_of_ble_eq_true rfl), (Nat.le_of_ble_eq_true rfl)⟩ rfl (by assumption) rfl (Nat.le_of_ble_eq_true rfl) d_S_countAbove_29 ⟨Nat.zero_le _, Nat.zero_le _⟩ ?_
        refine ev_astore_n (pc := 32) d_S_countAbove_32 rfl (by first | rfl | exact mm_rk_rf _) (Nat.le_of_ble_eq_true rfl) rfl ?_
        try dsimp only [List.set]
        refine ev_iinc (pc := 33) d_S_countAbove_33 (Nat.le_of_ble_eq_true rfl) rfl (nx_inc _) rfl ?_
        try dsimp only [List.set]
        refine ev_goto (pc := 36) (tgt := 12) d_S_countAbove_36 (by decide) ?_
        have h1 := ih (i + 1) (k + 1) (so_abi C 0 l) (by omega) (by omega) (fun j hj => so_abi_lt hj)
        rw [Nat.add_assoc] at h1
        exact h1
  refine mm_mtL (by decide) (by rfl) (Nat.le_of_ble_eq_true rfl) rfl ?_
  refine ev_iconst (pc := 0) (v := 0) d_S_countAbove_0 rfl ?_
  refine ev_istore_n (pc := 1) d_S_countAbove_1 rfl (Nat.le_of_ble_eq_true rfl) rfl ?_
  try dsimp only [List.set]
  refine ev_aload_n (pc := 2) d_S_countAbove_2 rfl rfl (by first | rfl | exact mm_rk_rf _) ?_
  refine ev_iconst (pc := 3) (v := 0) d_S_countAbove_3 rfl ?_
  refine ev_aload_n (pc := 4) d_S_countAbove_4 rfl rfl (by first | rfl | exact mm_rk_rf _) ?_
  refine ev_cV (pc := 5) (ct_S_aboveI E C (t := 0) (by decide) h0) cl_S_58 jv_S_above ⟨(Nat.le_of_ble_eq_true rfl), (Nat.le_of_ble_eq_true rfl)⟩ rfl (by assumption) rfl (Nat.le_of_ble_eq_true rfl) d_S_countAbove_5 ⟨Nat.zero_le _, Nat.zero_le _⟩ ?_
  refine ev_astore_n (pc := 8) d_S_countAbove_8 rfl (by first | rfl | exact mm_rk_rf _) (Nat.le_of_ble_eq_true rfl) rfl ?_
  try dsimp only [List.set]
  refine ev_iconst (pc := 9) (v := 0) d_S_countAbove_9 rfl ?_
  refine ev_istore (pc := 10) d_S_countAbove_10 (Nat.le_of_ble_eq_true rfl) rfl ?_
  try dsimp only [List.set]
  have h1 := loop 20 0 0 (so_abi C 0 i0) (by omega) (by omega) (fun j hj => so_abi_lt hj)
  rw [Nat.zero_add] at h1
  exact h1
def hr_n (C : Nat → Nat → Int32) : Nat → Option Nat → Nat
  | 0, _ => 0
  | _ + 1, none => 0
  | n + 1, some i => (if so_ot (C (bk i) 1) = true then 1 else 0) + hr_n C n (so_abi C 0 i)
theorem hr_n_le (C : Nat → Nat → Int32) : ∀ n o, hr_n C n o ≤ n := by
  intro n
  induction n with
  | zero => intro o; exact Nat.le_refl _
  | succ n ih =>
    intro o
    cases o with
    | none => exact Nat.zero_le _
    | some i => have := ih (so_abi C 0 i); simp only [hr_n]; split <;> omega
theorem so_nb_le (C : Nat → Nat → Int32) : so_nb C ≤ 64 := fx_c_le _ 64 0
theorem d_S_hasRoom_0 : decode b_S_hasRoom 0 = .ok (.iload_n 2, 1) := by decide +kernel
theorem d_S_hasRoom_1 : decode b_S_hasRoom 1 = .ok (.istore_n 3, 1) := by decide +kernel
theorem d_S_hasRoom_2 : decode b_S_hasRoom 2 = .ok (.aload_n 1, 1) := by decide +kernel
theorem d_S_hasRoom_3 : decode b_S_hasRoom 3 = .ok (.astore 4, 2) := by decide +kernel
theorem d_S_hasRoom_5 : decode b_S_hasRoom 5 = .ok (.iconst 0, 1) := by decide +kernel
theorem d_S_hasRoom_6 : decode b_S_hasRoom 6 = .ok (.istore 5, 2) := by decide +kernel
theorem d_S_hasRoom_8 : decode b_S_hasRoom 8 = .ok (.iload 5, 2) := by decide +kernel
theorem d_S_hasRoom_10 : decode b_S_hasRoom 10 = .ok (.bipush 20, 2) := by decide +kernel
theorem d_S_hasRoom_12 : decode b_S_hasRoom 12 = .ok (.if_icmp .ge 35, 3) := by decide +kernel
theorem d_S_hasRoom_15 : decode b_S_hasRoom 15 = .ok (.aload 4, 2) := by decide +kernel
theorem d_S_hasRoom_17 : decode b_S_hasRoom 17 = .ok (.ifnull 30, 3) := by decide +kernel
theorem d_S_hasRoom_20 : decode b_S_hasRoom 20 = .ok (.aload 4, 2) := by decide +kernel
theorem d_S_hasRoom_22 : decode b_S_hasRoom 22 = .ok (.iconst 0, 1) := by decide +kernel
theorem d_S_hasRoom_23 : decode b_S_hasRoom 23 = .ok (.invokevirtual 55, 3) := by decide +kernel
theorem d_S_hasRoom_26 : decode b_S_hasRoom 26 = .ok (.ifCond .eq 6, 3) := by decide +kernel
theorem d_S_hasRoom_29 : decode b_S_hasRoom 29 = .ok (.iinc 3 1, 3) := by decide +kernel
theorem d_S_hasRoom_32 : decode b_S_hasRoom 32 = .ok (.aload_n 0, 1) := by decide +kernel
theorem d_S_hasRoom_33 : decode b_S_hasRoom 33 = .ok (.iconst 0, 1) := by decide +kernel
theorem d_S_hasRoom_34 : decode b_S_hasRoom 34 = .ok (.aload 4, 2) := by decide +kernel
theorem d_S_hasRoom_36 : decode b_S_hasRoom 36 = .ok (.invokevirtual 58, 3) := by decide +kernel
theorem d_S_hasRoom_39 : decode b_S_hasRoom 39 = .ok (.astore 4, 2) := by decide +kernel
theorem d_S_hasRoom_41 : decode b_S_hasRoom 41 = .ok (.iinc 5 1, 3) := by decide +kernel
theorem d_S_hasRoom_44 : decode b_S_hasRoom 44 = .ok (.goto (-36), 3) := by decide +kernel
theorem d_S_hasRoom_47 : decode b_S_hasRoom 47 = .ok (.aload_n 0, 1) := by decide +kernel
theorem d_S_hasRoom_48 : decode b_S_hasRoom 48 = .ok (.invokevirtual 61, 3) := by decide +kernel
theorem d_S_hasRoom_51 : decode b_S_hasRoom 51 = .ok (.iload_n 3, 1) := by decide +kernel
theorem d_S_hasRoom_52 : decode b_S_hasRoom 52 = .ok (.iadd, 1) := by decide +kernel
theorem d_S_hasRoom_53 : decode b_S_hasRoom 53 = .ok (.bipush 64, 2) := by decide +kernel
theorem d_S_hasRoom_55 : decode b_S_hasRoom 55 = .ok (.if_icmp .gt 7, 3) := by decide +kernel
theorem d_S_hasRoom_58 : decode b_S_hasRoom 58 = .ok (.iconst 1, 1) := by decide +kernel
theorem d_S_hasRoom_59 : decode b_S_hasRoom 59 = .ok (.goto 4, 3) := by decide +kernel
theorem d_S_hasRoom_62 : decode b_S_hasRoom 62 = .ok (.iconst 0, 1) := by decide +kernel
theorem d_S_hasRoom_63 : decode b_S_hasRoom 63 = .ok (.ireturn, 1) := by decide +kernel
set_option maxHeartbeats 2000000 in
set_option maxRecDepth 20000 in
theorem ct_S_hasRoom (E : mm_En) (C : Nat → Nat → Int32) {i0 w : Nat} (h0 : i0 < 64) (hw : w ≤ 8) : mm_MT E K_S_hasRoom [.ref 1, .ref (bk i0), .int (nI w)] (hp_H C) (mm_D (some (.int (b2_P (so_nb C + (w + hr_n C 20 (some i0)) ≤ 64)))) C) := by
  have s1 := sh_S
  have s0 := bk_s h0
  generalize hHR : hr_n C 20 (some i0) = HR
  have fin : ∀ (k : Nat) (L4 : Value) (i : Nat), k ≤ 28 → w + HR = k → ev_At E K_S_hasRoom 47 [some (.ref 1), some (.ref (bk i0)), some (.int (nI w)), some (.int (nI k)), some L4, some (.int (nI i))] [] (hp_H C) 0 0 (mm_D (some (.int (b2_P (so_nb C + (w + HR) ≤ 64)))) C) := by
    intro k L4 i hk he
    rw [he]
    have hb := so_nb_le C
    refine ev_aload_n (pc := 47) d_S_hasRoom_47 rfl rfl (by first | rfl | exact mm_rk_rf _) ?_
    refine ev_cV (pc := 48) (ct_S_countBlocks E C) cl_S_61 jv_S_countBlocks ⟨(Nat.le_of_ble_eq_true rfl), (Nat.le_of_ble_eq_true rfl)⟩ rfl (by assumption) rfl (Nat.le_of_ble_eq_true rfl) d_S_hasRoom_48 ⟨Nat.zero_le _, Nat.zero_le _⟩ ?_
    refine ev_iload_n (pc := 51) d_S_hasRoom_51 rfl rfl ?_
    refine ev_iadd (pc := 52) d_S_hasRoom_52 ?_
    rw [nI_add]
    refine ev_bipush (pc := 53) (v := 64) d_S_hasRoom_53 (by decide) ?_
    refine ev_icmp_gt (pc := 55) (tgt := 62) d_S_hasRoom_55 (by decide) (fun hc => ?_) (fun hc => ?_)
    · refine ev_iconst (pc := 62) (v := 0) d_S_hasRoom_62 rfl ?_
      exact ev_zret (pc := 63) d_S_hasRoom_63 rfl (by first | exact Or.inl rfl | exact Or.inr rfl | assumption) (Nat.zero_le _) (Nat.zero_le _) ⟨by rw [b2_f (fun z => absurd hc (nI_nlt (a := 64) z (by decide)))], rfl⟩
    · refine ev_iconst (pc := 58) (v := 1) d_S_hasRoom_58 rfl ?_
      refine ev_goto (pc := 59) (tgt := 63) d_S_hasRoom_59 (by decide) ?_
      exact ev_zret (pc := 63) d_S_hasRoom_63 rfl (by first | exact Or.inl rfl | exact Or.inr rfl | assumption) (Nat.zero_le _) (Nat.zero_le _) ⟨by rw [b2_t (Nat.not_lt.mp (fun z => hc (nI_lt z (by omega))))], rfl⟩
  have loop : ∀ (d i k : Nat) (o : Option Nat), i + d = 20 → k ≤ 8 + i → (∀ l, o = some l → l < 64) → w + HR = k + hr_n C d o → ev_At E K_S_hasRoom 8 [some (.ref 1), some (.ref (bk i0)), some (.int (nI w)), some (.int (nI k)), some (va_rf (o.map bk)), some (.int (nI i))] [] (hp_H C) 0 0 (mm_D (some (.int (b2_P (so_nb C + (w + HR) ≤ 64)))) C) := by
    intro d
    induction d with
    | zero =>
      intro i k o hi hk ho he
      have hi8 : i = 20 := by omega
      subst hi8
      refine ev_iload (pc := 8) d_S_hasRoom_8 rfl ?_
      refine ev_bipush (pc := 10) (v := 20) d_S_hasRoom_10 (by decide) ?_
      refine ev_icmp_ge (pc := 12) (tgt := 47) d_S_hasRoom_12 (by decide) (fun ha => ?_) (fun ha => ?_)
      · exact fin k _ 20 (by omega) he
      · exact absurd (show nI 20 ≤ nI 20 from Int32.le_refl _) ha
    | succ d ih =>
      intro i k o hi hk ho he
      refine ev_iload (pc := 8) d_S_hasRoom_8 rfl ?_
      refine ev_bipush (pc := 10) (v := 20) d_S_hasRoom_10 (by decide) ?_
      refine ev_icmp_ge (pc := 12) (tgt := 47) d_S_hasRoom_12 (by decide) (fun ha => ?_) (fun ha => ?_)
      · exact absurd ha (nI_ge (show i < 20 by omega) (by decide))
      refine ev_aload (pc := 15) d_S_hasRoom_15 rfl (by first | rfl | exact mm_rk_rf _) ?_
      cases o with
      | none =>
        refine ev_ifnullN (pc := 17) (tgt := 47) d_S_hasRoom_17 (by decide) ?_
        exact fin k _ i (by omega) he
      | some l =>
        refine ev_ifnullR (pc := 17) d_S_hasRoom_17 ?_
        have s3 := bk_s (ho l rfl)
        refine ev_aload (pc := 20) (v := .ref (bk l)) d_S_hasRoom_20 rfl rfl ?_
        refine ev_iconst (pc := 22) (v := 0) d_S_hasRoom_22 rfl ?_
        refine ev_cV (pc := 23) (ct_B_isInOthersThan E C s3 0) cl_S_55 jv_B_isInOthersThan ⟨(Nat.le_of_ble_eq_true rfl), (Nat.le_of_ble_eq_true rfl)⟩ rfl (by assumption) rfl (Nat.le_of_ble_eq_true rfl) d_S_hasRoom_23 ⟨Nat.zero_le _, Nat.zero_le _⟩ ?_
        have next : ∀ k', k' ≤ 8 + (i + 1) → w + HR = k' + hr_n C d (so_abi C 0 l) → ev_At E K_S_hasRoom 32 [some (.ref 1), some (.ref (bk i0)), some (.int (nI w)), some (.int (nI k')), some (.ref (bk l)), some (.int (nI i))] [] (hp_H C) 0 0 (mm_D (some (.int (b2_P (so_nb C + (w + HR) ≤ 64)))) C) := by
          intro k' hk' he'
          refine ev_aload_n (pc := 32) d_S_hasRoom_32 rfl rfl (by first | rfl | exact mm_rk_rf _) ?_
          refine ev_iconst (pc := 33) (v := 0) d_S_hasRoom_33 rfl ?_
          refine ev_aload (pc := 34) d_S_hasRoom_34 rfl (by first | rfl | exact mm_rk_rf _) ?_
          refine ev_cV (pc := 36) (ct_S_aboveI E C (t := 0) (by decide) (ho l rfl)) cl_S_58 jv_S_above ⟨(Nat.le_of_ble_eq_true rfl), (Nat.le_of_ble_eq_true rfl)⟩ rfl (by assumption) rfl (Nat.le_of_ble_eq_true rfl) d_S_hasRoom_36 ⟨Nat.zero_le _, Nat.zero_le _⟩ ?_
          refine ev_astore (pc := 39) d_S_hasRoom_39 (by first | rfl | exact mm_rk_rf _) (Nat.le_of_ble_eq_true rfl) rfl ?_
          try dsimp only [List.set]
          refine ev_iinc (pc := 41) d_S_hasRoom_41 (Nat.le_of_ble_eq_true rfl) rfl (nx_inc _) rfl ?_
          try dsimp only [List.set]
          refine ev_goto (pc := 44) (tgt := 8) d_S_hasRoom_44 (by decide) ?_
          exact ih (i + 1) k' (so_abi C 0 l) (by omega) hk' (fun j hj => so_abi_lt hj) he'
        refine ev_if_eq (pc := 26) (tgt := 32) d_S_hasRoom_26 (by decide) (fun hb => ?_) (fun hb => ?_)
        · rw [b2_0] at hb
          have h9 : so_ot (C (bk l) 1) = false := by simpa [so_ot] using hb
          simp only [hr_n, h9] at he
          exact next k (by omega) (by simpa using he)
        · rw [b2_0, Classical.not_not] at hb
          have h9 : so_ot (C (bk l) 1) = true := by simpa [so_ot] using hb
          simp only [hr_n, h9, if_true] at he
          refine ev_iinc (pc := 29) d_S_hasRoom_29 (Nat.le_of_ble_eq_true rfl) rfl (nx_inc _) rfl ?_
          try dsimp only [List.set]
          exact next (k + 1) (by omega) (by omega)
  refine mm_mtL (by decide) (by rfl) (Nat.le_of_ble_eq_true rfl) rfl ?_
  refine ev_iload_n (pc := 0) d_S_hasRoom_0 rfl rfl ?_
  refine ev_istore_n (pc := 1) d_S_hasRoom_1 rfl (Nat.le_of_ble_eq_true rfl) rfl ?_
  try dsimp only [List.set]
  refine ev_aload_n (pc := 2) d_S_hasRoom_2 rfl rfl (by first | rfl | exact mm_rk_rf _) ?_
  refine ev_astore (pc := 3) d_S_hasRoom_3 (by first | rfl | exact mm_rk_rf _) (Nat.le_of_ble_eq_true rfl) rfl ?_
  try dsimp only [List.set]
  refine ev_iconst (pc := 5) (v := 0) d_S_hasRoom_5 rfl ?_
  refine ev_istore (pc := 6) d_S_hasRoom_6 (Nat.le_of_ble_eq_true rfl) rfl ?_
  try dsimp only [List.set]
  exact loop 20 0 w (some i0) (by omega) (by omega) (fun l h => by cases h; exact h0) (by rw [hHR])
theorem d_S_hasRoomIn_0 : decode b_S_hasRoomIn 0 = .ok (.aload_n 0, 1) := by decide +kernel
theorem d_S_hasRoomIn_1 : decode b_S_hasRoomIn 1 = .ok (.iconst 0, 1) := by decide +kernel
theorem d_S_hasRoomIn_2 : decode b_S_hasRoomIn 2 = .ok (.aload_n 1, 1) := by decide +kernel
theorem d_S_hasRoomIn_3 : decode b_S_hasRoomIn 3 = .ok (.invokevirtual 65, 3) := by decide +kernel
theorem d_S_hasRoomIn_6 : decode b_S_hasRoomIn 6 = .ok (.bipush 8, 2) := by decide +kernel
theorem d_S_hasRoomIn_8 : decode b_S_hasRoomIn 8 = .ok (.if_icmp .ge 35, 3) := by decide +kernel
theorem d_S_hasRoomIn_11 : decode b_S_hasRoomIn 11 = .ok (.aload_n 0, 1) := by decide +kernel
theorem d_S_hasRoomIn_12 : decode b_S_hasRoomIn 12 = .ok (.aload_n 1, 1) := by decide +kernel
theorem d_S_hasRoomIn_13 : decode b_S_hasRoomIn 13 = .ok (.invokevirtual 69, 3) := by decide +kernel
theorem d_S_hasRoomIn_16 : decode b_S_hasRoomIn 16 = .ok (.bipush 6, 2) := by decide +kernel
theorem d_S_hasRoomIn_18 : decode b_S_hasRoomIn 18 = .ok (.if_icmp .ge 25, 3) := by decide +kernel
theorem d_S_hasRoomIn_21 : decode b_S_hasRoomIn 21 = .ok (.aload_n 0, 1) := by decide +kernel
theorem d_S_hasRoomIn_22 : decode b_S_hasRoomIn 22 = .ok (.invokevirtual 73, 3) := by decide +kernel
theorem d_S_hasRoomIn_25 : decode b_S_hasRoomIn 25 = .ok (.bipush 20, 2) := by decide +kernel
theorem d_S_hasRoomIn_27 : decode b_S_hasRoomIn 27 = .ok (.if_icmp .ge 16, 3) := by decide +kernel
theorem d_S_hasRoomIn_30 : decode b_S_hasRoomIn 30 = .ok (.aload_n 0, 1) := by decide +kernel
theorem d_S_hasRoomIn_31 : decode b_S_hasRoomIn 31 = .ok (.aload_n 1, 1) := by decide +kernel
theorem d_S_hasRoomIn_32 : decode b_S_hasRoomIn 32 = .ok (.iconst 1, 1) := by decide +kernel
theorem d_S_hasRoomIn_33 : decode b_S_hasRoomIn 33 = .ok (.invokevirtual 76, 3) := by decide +kernel
theorem d_S_hasRoomIn_36 : decode b_S_hasRoomIn 36 = .ok (.ifCond .eq 7, 3) := by decide +kernel
theorem d_S_hasRoomIn_39 : decode b_S_hasRoomIn 39 = .ok (.iconst 1, 1) := by decide +kernel
theorem d_S_hasRoomIn_40 : decode b_S_hasRoomIn 40 = .ok (.goto 4, 3) := by decide +kernel
theorem d_S_hasRoomIn_43 : decode b_S_hasRoomIn 43 = .ok (.iconst 0, 1) := by decide +kernel
theorem d_S_hasRoomIn_44 : decode b_S_hasRoomIn 44 = .ok (.ireturn, 1) := by decide +kernel
set_option maxRecDepth 20000 in
theorem ct_S_hasRoomIn (E : mm_En) (C : Nat → Nat → Int32) {i0 : Nat} (h0 : i0 < 64) : mm_MT E K_S_hasRoomIn [.ref 1, .ref (bk i0)] (hp_H C) (mm_D (some (.int (b2_P (so_nk C 0 (C (bk i0) 2) < 8 ∧ ca_n C 20 (so_abi C 0 i0) < 6 ∧ so_nn C < 20 ∧ so_nb C + (1 + hr_n C 20 (some i0)) ≤ 64)))) C) := by
  have s1 := sh_S
  have s0 := bk_s h0
  have b1 : so_nk C 0 (C (bk i0) 2) ≤ 64 := fx_c_le _ 64 0
  have b2 : so_nn C ≤ 64 := fx_c_le _ 64 0
  have b3 := ca_n_le C 20 (so_abi C 0 i0)
  refine mm_mtL (by decide) (by rfl) (Nat.le_of_ble_eq_true rfl) rfl ?_
  refine ev_aload_n (pc := 0) d_S_hasRoomIn_0 rfl rfl (by first | rfl | exact mm_rk_rf _) ?_
  refine ev_iconst (pc := 1) (v := 0) d_S_hasRoomIn_1 rfl ?_
  refine ev_aload_n (pc := 2) d_S_hasRoomIn_2 rfl rfl (by first | rfl | exact mm_rk_rf _) ?_
  refine ev_cV (pc := 3) (ct_S_countChildren E C (t := 0) (by decide) s0) cl_S_65 jv_S_countChildren ⟨(Nat.le_of_ble_eq_true rfl), (Nat.le_of_ble_eq_true rfl)⟩ rfl (by assumption) rfl (Nat.le_of_ble_eq_true rfl) d_S_hasRoomIn_3 ⟨Nat.zero_le _, Nat.zero_le _⟩ ?_
  refine ev_bipush (pc := 6) (v := 8) d_S_hasRoomIn_6 (by decide) ?_
  refine ev_icmp_ge (pc := 8) (tgt := 43) d_S_hasRoomIn_8 (by decide) (fun ha => ?_) (fun ha => ?_)
  · refine ev_iconst (pc := 43) (v := 0) d_S_hasRoomIn_43 rfl ?_
    exact ev_zret (pc := 44) d_S_hasRoomIn_44 rfl (by first | exact Or.inl rfl | exact Or.inr rfl | assumption) (Nat.zero_le _) (Nat.zero_le _) ⟨by rw [b2_f (fun z => absurd ha (nI_ge z.1 (by decide)))], rfl⟩
  refine ev_aload_n (pc := 11) d_S_hasRoomIn_11 rfl rfl (by first | rfl | exact mm_rk_rf _) ?_
  refine ev_aload_n (pc := 12) d_S_hasRoomIn_12 rfl rfl (by first | rfl | exact mm_rk_rf _) ?_
  refine ev_cV (pc := 13) (ct_S_countAbove E C h0) cl_S_69 jv_S_countAbove ⟨(Nat.le_of_ble_eq_true rfl), (Nat.le_of_ble_eq_true rfl)⟩ rfl (by assumption) rfl (Nat.le_of_ble_eq_true rfl) d_S_hasRoomIn_13 ⟨Nat.zero_le _, Nat.zero_le _⟩ ?_
  refine ev_bipush (pc := 16) (v := 6) d_S_hasRoomIn_16 (by decide) ?_
  refine ev_icmp_ge (pc := 18) (tgt := 43) d_S_hasRoomIn_18 (by decide) (fun hb => ?_) (fun hb => ?_)
  · refine ev_iconst (pc := 43) (v := 0) d_S_hasRoomIn_43 rfl ?_
    exact ev_zret (pc := 44) d_S_hasRoomIn_44 rfl (by first | exact Or.inl rfl | exact Or.inr rfl | assumption) (Nat.zero_le _) (Nat.zero_le _) ⟨by rw [b2_f (fun z => absurd hb (nI_ge z.2.1 (by decide)))], rfl⟩
  refine ev_aload_n (pc := 21) d_S_hasRoomIn_21 rfl rfl (by first | rfl | exact mm_rk_rf _) ?_
  refine ev_cV (pc := 22) (ct_S_countNodes E C) cl_S_73 jv_S_countNodes ⟨(Nat.le_of_ble_eq_true rfl), (Nat.le_of_ble_eq_true rfl)⟩ rfl (by assumption) rfl (Nat.le_of_ble_eq_true rfl) d_S_hasRoomIn_22 ⟨Nat.zero_le _, Nat.zero_le _⟩ ?_
  refine ev_bipush (pc := 25) (v := 20) d_S_hasRoomIn_25 (by decide) ?_
  refine ev_icmp_ge (pc := 27) (tgt := 43) d_S_hasRoomIn_27 (by decide) (fun hc => ?_) (fun hc => ?_)
  · refine ev_iconst (pc := 43) (v := 0) d_S_hasRoomIn_43 rfl ?_
    exact ev_zret (pc := 44) d_S_hasRoomIn_44 rfl (by first | exact Or.inl rfl | exact Or.inr rfl | assumption) (Nat.zero_le _) (Nat.zero_le _) ⟨by rw [b2_f (fun z => absurd hc (nI_ge z.2.2.1 (by decide)))], rfl⟩
  refine ev_aload_n (pc := 30) d_S_hasRoomIn_30 rfl rfl (by first | rfl | exact mm_rk_rf _) ?_
  refine ev_aload_n (pc := 31) d_S_hasRoomIn_31 rfl rfl (by first | rfl | exact mm_rk_rf _) ?_
  refine ev_iconst (pc := 32) (v := 1) d_S_hasRoomIn_32 rfl ?_
  refine ev_cV (pc := 33) (ct_S_hasRoom E C (w := 1) h0 (by decide)) cl_S_76 jv_S_hasRoom ⟨(Nat.le_of_ble_eq_true rfl), (Nat.le_of_ble_eq_true rfl)⟩ rfl (by assumption) rfl (Nat.le_of_ble_eq_true rfl) d_S_hasRoomIn_33 ⟨Nat.zero_le _, Nat.zero_le _⟩ ?_
  refine ev_if_eq (pc := 36) (tgt := 43) d_S_hasRoomIn_36 (by decide) (fun hd => ?_) (fun hd => ?_)
  · rw [b2_0] at hd
    refine ev_iconst (pc := 43) (v := 0) d_S_hasRoomIn_43 rfl ?_
    exact ev_zret (pc := 44) d_S_hasRoomIn_44 rfl (by first | exact Or.inl rfl | exact Or.inr rfl | assumption) (Nat.zero_le _) (Nat.zero_le _) ⟨by rw [b2_f (fun z => hd z.2.2.2)], rfl⟩
  · rw [b2_0, Classical.not_not] at hd
    refine ev_iconst (pc := 39) (v := 1) d_S_hasRoomIn_39 rfl ?_
    refine ev_goto (pc := 40) (tgt := 44) d_S_hasRoomIn_40 (by decide) ?_
    exact ev_zret (pc := 44) d_S_hasRoomIn_44 rfl (by first | exact Or.inl rfl | exact Or.inr rfl | assumption) (Nat.zero_le _) (Nat.zero_le _) ⟨by rw [b2_t ⟨Nat.not_le.mp (fun z => ha (nI_le z (by omega))), Nat.not_le.mp (fun z => hb (nI_le z (by omega))), Nat.not_le.mp (fun z => hc (nI_le z (by omega))), hd⟩], rfl⟩
/-! the present tree's own block of a node -/
def ob_i (C : Nat → Nat → Int32) (i : Nat) : Nat := if so_ot (C (bk i) 1) = true then (so_fr C).getD i else i
def ob_m (C : Nat → Nat → Int32) (i o : Nat) : Nat → Nat → Int32 := bl_lv (bl_ent (bl_cp C (bk o) (bk i) 16) (bk o) 0) (bk i) 0
def ob_C (C : Nat → Nat → Int32) (i : Nat) : Nat → Nat → Int32 := if so_ot (C (bk i) 1) = true then (match so_fr C with
  | some o => ob_m C i o
  | none => C) else C
theorem so_fr_ok {C : Nat → Nat → Int32} {o : Nat} (h : so_fr C = some o) : o < 64 ∧ C (bk o) 1 = 0 := by
  have h1 := fx_f_some _ _ _ _ h
  exact ⟨by omega, by simpa using h1.2.2⟩
theorem so_ot0 : so_ot 0 = false := by decide
theorem ob_i_lt {C : Nat → Nat → Int32} {i : Nat} (hi : i < 64) : ob_i C i < 64 := by
  unfold ob_i
  split
  · cases h : so_fr C with
    | none => exact hi
    | some o => exact (so_fr_ok h).1
  · exact hi
theorem d_S_ownBlockOf_0 : decode b_S_ownBlockOf 0 = .ok (.aload_n 1, 1) := by decide +kernel
theorem d_S_ownBlockOf_1 : decode b_S_ownBlockOf 1 = .ok (.iconst 0, 1) := by decide +kernel
theorem d_S_ownBlockOf_2 : decode b_S_ownBlockOf 2 = .ok (.invokevirtual 55, 3) := by decide +kernel
theorem d_S_ownBlockOf_5 : decode b_S_ownBlockOf 5 = .ok (.ifCond .ne 5, 3) := by decide +kernel
theorem d_S_ownBlockOf_8 : decode b_S_ownBlockOf 8 = .ok (.aload_n 1, 1) := by decide +kernel
theorem d_S_ownBlockOf_9 : decode b_S_ownBlockOf 9 = .ok (.areturn, 1) := by decide +kernel
theorem d_S_ownBlockOf_10 : decode b_S_ownBlockOf 10 = .ok (.aload_n 0, 1) := by decide +kernel
theorem d_S_ownBlockOf_11 : decode b_S_ownBlockOf 11 = .ok (.invokevirtual 84, 3) := by decide +kernel
theorem d_S_ownBlockOf_14 : decode b_S_ownBlockOf 14 = .ok (.astore_n 2, 1) := by decide +kernel
theorem d_S_ownBlockOf_15 : decode b_S_ownBlockOf 15 = .ok (.aload_n 2, 1) := by decide +kernel
theorem d_S_ownBlockOf_16 : decode b_S_ownBlockOf 16 = .ok (.ifnonnull 5, 3) := by decide +kernel
theorem d_S_ownBlockOf_19 : decode b_S_ownBlockOf 19 = .ok (.aload_n 1, 1) := by decide +kernel
theorem d_S_ownBlockOf_20 : decode b_S_ownBlockOf 20 = .ok (.areturn, 1) := by decide +kernel
theorem d_S_ownBlockOf_21 : decode b_S_ownBlockOf 21 = .ok (.aload_n 2, 1) := by decide +kernel
theorem d_S_ownBlockOf_22 : decode b_S_ownBlockOf 22 = .ok (.aload_n 1, 1) := by decide +kernel
theorem d_S_ownBlockOf_23 : decode b_S_ownBlockOf 23 = .ok (.invokevirtual 88, 3) := by decide +kernel
theorem d_S_ownBlockOf_26 : decode b_S_ownBlockOf 26 = .ok (.aload_n 2, 1) := by decide +kernel
theorem d_S_ownBlockOf_27 : decode b_S_ownBlockOf 27 = .ok (.iconst 0, 1) := by decide +kernel
theorem d_S_ownBlockOf_28 : decode b_S_ownBlockOf 28 = .ok (.invokevirtual 22, 3) := by decide +kernel
theorem d_S_ownBlockOf_31 : decode b_S_ownBlockOf 31 = .ok (.aload_n 1, 1) := by decide +kernel
theorem d_S_ownBlockOf_32 : decode b_S_ownBlockOf 32 = .ok (.iconst 0, 1) := by decide +kernel
theorem d_S_ownBlockOf_33 : decode b_S_ownBlockOf 33 = .ok (.invokevirtual 92, 3) := by decide +kernel
theorem d_S_ownBlockOf_36 : decode b_S_ownBlockOf 36 = .ok (.aload_n 2, 1) := by decide +kernel
theorem d_S_ownBlockOf_37 : decode b_S_ownBlockOf 37 = .ok (.areturn, 1) := by decide +kernel
set_option maxHeartbeats 2000000 in
set_option maxRecDepth 20000 in
theorem ct_S_ownBlockOf (E : mm_En) (C : Nat → Nat → Int32) {i : Nat} (hi : i < 64) : mm_MT E K_S_ownBlockOf [.ref 1, .ref (bk i)] (hp_H C) (mm_D (some (.ref (bk (ob_i C i)))) (ob_C C i)) := by
  have s1 := sh_S
  have s0 := bk_s hi
  refine mm_mtL (by decide) (by rfl) (Nat.le_of_ble_eq_true rfl) rfl ?_
  refine ev_aload_n (pc := 0) d_S_ownBlockOf_0 rfl rfl (by first | rfl | exact mm_rk_rf _) ?_
  refine ev_iconst (pc := 1) (v := 0) d_S_ownBlockOf_1 rfl ?_
  refine ev_cV (pc := 2) (ct_B_isInOthersThan E C s0 0) cl_S_55 jv_B_isInOthersThan ⟨(Nat.le_of_ble_eq_true rfl), (Nat.le_of_ble_eq_true rfl)⟩ rfl (by assumption) rfl (Nat.le_of_ble_eq_true rfl) d_S_ownBlockOf_2 ⟨Nat.zero_le _, Nat.zero_le _⟩ ?_
  refine ev_if_ne (pc := 5) (tgt := 10) d_S_ownBlockOf_5 (by decide) (fun ha => ?_) (fun ha => ?_)
  rotate_left
  · rw [b2_0] at ha
    have h9 : so_ot (C (bk i) 1) = false := by simpa [so_ot] using ha
    refine ev_aload_n (pc := 8) d_S_ownBlockOf_8 rfl rfl (by first | rfl | exact mm_rk_rf _) ?_
    exact ev_aret (pc := 9) d_S_ownBlockOf_9 ⟨_, rfl⟩ (by first | rfl | exact mm_rk_rf _) (Nat.zero_le _) (Nat.zero_le _) ⟨by simp [ob_i, h9], by simp [ob_C, h9]⟩
  rw [b2_0, Classical.not_not] at ha
  have h9 : so_ot (C (bk i) 1) = true := by simpa [so_ot] using ha
  refine ev_aload_n (pc := 10) d_S_ownBlockOf_10 rfl rfl (by first | rfl | exact mm_rk_rf _) ?_
  refine ev_cV (pc := 11) (ct_S_freeBlock E C) cl_S_84 jv_S_freeBlock ⟨(Nat.le_of_ble_eq_true rfl), (Nat.le_of_ble_eq_true rfl)⟩ rfl (by assumption) rfl (Nat.le_of_ble_eq_true rfl) d_S_ownBlockOf_11 ⟨Nat.zero_le _, Nat.zero_le _⟩ ?_
  refine ev_astore_n (pc := 14) d_S_ownBlockOf_14 rfl (by first | rfl | exact mm_rk_rf _) (Nat.le_of_ble_eq_true rfl) rfl ?_
  try dsimp only [List.set]
  refine ev_aload_n (pc := 15) d_S_ownBlockOf_15 rfl rfl (by first | rfl | exact mm_rk_rf _) ?_
  cases hf : so_fr C with
  | none =>
    refine ev_ifnonnullN (pc := 16) d_S_ownBlockOf_16 ?_
    refine ev_aload_n (pc := 19) d_S_ownBlockOf_19 rfl rfl (by first | rfl | exact mm_rk_rf _) ?_
    exact ev_aret (pc := 20) d_S_ownBlockOf_20 ⟨_, rfl⟩ (by first | rfl | exact mm_rk_rf _) (Nat.zero_le _) (Nat.zero_le _) ⟨by simp [ob_i, h9, hf], by simp [ob_C, h9, hf]⟩
  | some o =>
    obtain ⟨ho, hz⟩ := so_fr_ok hf
    have hne : o ≠ i := fun z => by
      rw [z] at hz
      rw [hz, so_ot0] at h9
      cases h9
    have s3 := bk_s ho
    have k1 : bk o = 3 + 2 * o := rfl
    have k2 : bk i = 3 + 2 * i := rfl
    refine ev_ifnonnullR (pc := 16) (tgt := 21) d_S_ownBlockOf_16 (by decide) ?_
    refine ev_aload_n (pc := 21) (v := .ref (bk o)) d_S_ownBlockOf_21 rfl rfl rfl ?_
    refine ev_aload_n (pc := 22) d_S_ownBlockOf_22 rfl rfl (by first | rfl | exact mm_rk_rf _) ?_
    refine ev_cVv (pc := 23) (ct_B_copyNodeFrom E C s3 (bk_a ho) s0 (bk_a hi) ⟨by omega, by omega, by omega⟩) cl_S_88 jv_B_copyNodeFrom ⟨(Nat.le_of_ble_eq_true rfl), (Nat.le_of_ble_eq_true rfl)⟩ rfl (by assumption) rfl (Nat.le_of_ble_eq_true rfl) d_S_ownBlockOf_23 ⟨Nat.zero_le _, Nat.zero_le _⟩ ?_
    refine ev_aload_n (pc := 26) (v := .ref (bk o)) d_S_ownBlockOf_26 rfl rfl rfl ?_
    refine ev_iconst (pc := 27) (v := 0) d_S_ownBlockOf_27 rfl ?_
    refine ev_cVv (pc := 28) (ct_B_enter E _ s3 0) cl_S_22 jv_B_enter ⟨(Nat.le_of_ble_eq_true rfl), (Nat.le_of_ble_eq_true rfl)⟩ rfl (by assumption) rfl (Nat.le_of_ble_eq_true rfl) d_S_ownBlockOf_28 ⟨Nat.zero_le _, Nat.zero_le _⟩ ?_
    refine ev_aload_n (pc := 31) d_S_ownBlockOf_31 rfl rfl (by first | rfl | exact mm_rk_rf _) ?_
    refine ev_iconst (pc := 32) (v := 0) d_S_ownBlockOf_32 rfl ?_
    refine ev_cVv (pc := 33) (ct_B_leave E _ s0 0) cl_S_92 jv_B_leave ⟨(Nat.le_of_ble_eq_true rfl), (Nat.le_of_ble_eq_true rfl)⟩ rfl (by assumption) rfl (Nat.le_of_ble_eq_true rfl) d_S_ownBlockOf_33 ⟨Nat.zero_le _, Nat.zero_le _⟩ ?_
    refine ev_aload_n (pc := 36) (v := .ref (bk o)) d_S_ownBlockOf_36 rfl rfl rfl ?_
    exact ev_aret (pc := 37) d_S_ownBlockOf_37 ⟨_, rfl⟩ (by first | rfl | exact mm_rk_rf _) (Nat.zero_le _) (Nat.zero_le _) ⟨by simp [ob_i, h9, hf], by simp [ob_C, h9, hf, ob_m]⟩
/-- a node and all above it get own blocks: n steps from the node o on -/
def cg_f : Nat → (Nat → Nat → Int32) → Option Nat → Nat → Nat → Int32
  | 0, C, _ => C
  | _ + 1, C, none => C
  | n + 1, C, some i => cg_f n (ob_C C i) (so_abi (ob_C C i) 0 (ob_i C i))
def cg_C (C : Nat → Nat → Int32) (i : Nat) : Nat → Nat → Int32 := cg_f 20 (ob_C C i) (so_abi (ob_C C i) 0 i)
theorem d_S_change_0 : decode b_S_change 0 = .ok (.aload_n 0, 1) := by decide +kernel
theorem d_S_change_1 : decode b_S_change 1 = .ok (.aload_n 1, 1) := by decide +kernel
theorem d_S_change_2 : decode b_S_change 2 = .ok (.invokevirtual 80, 3) := by decide +kernel
theorem d_S_change_5 : decode b_S_change 5 = .ok (.astore_n 2, 1) := by decide +kernel
theorem d_S_change_6 : decode b_S_change 6 = .ok (.aload_n 0, 1) := by decide +kernel
theorem d_S_change_7 : decode b_S_change 7 = .ok (.iconst 0, 1) := by decide +kernel
theorem d_S_change_8 : decode b_S_change 8 = .ok (.aload_n 1, 1) := by decide +kernel
theorem d_S_change_9 : decode b_S_change 9 = .ok (.invokevirtual 58, 3) := by decide +kernel
theorem d_S_change_12 : decode b_S_change 12 = .ok (.astore_n 3, 1) := by decide +kernel
theorem d_S_change_13 : decode b_S_change 13 = .ok (.iconst 0, 1) := by decide +kernel
theorem d_S_change_14 : decode b_S_change 14 = .ok (.istore 4, 2) := by decide +kernel
theorem d_S_change_16 : decode b_S_change 16 = .ok (.iload 4, 2) := by decide +kernel
theorem d_S_change_18 : decode b_S_change 18 = .ok (.bipush 20, 2) := by decide +kernel
theorem d_S_change_20 : decode b_S_change 20 = .ok (.if_icmp .ge 24, 3) := by decide +kernel
theorem d_S_change_23 : decode b_S_change 23 = .ok (.aload_n 3, 1) := by decide +kernel
theorem d_S_change_24 : decode b_S_change 24 = .ok (.ifnull 20, 3) := by decide +kernel
theorem d_S_change_27 : decode b_S_change 27 = .ok (.aload_n 0, 1) := by decide +kernel
theorem d_S_change_28 : decode b_S_change 28 = .ok (.iconst 0, 1) := by decide +kernel
theorem d_S_change_29 : decode b_S_change 29 = .ok (.aload_n 0, 1) := by decide +kernel
theorem d_S_change_30 : decode b_S_change 30 = .ok (.aload_n 3, 1) := by decide +kernel
theorem d_S_change_31 : decode b_S_change 31 = .ok (.invokevirtual 80, 3) := by decide +kernel
theorem d_S_change_34 : decode b_S_change 34 = .ok (.invokevirtual 58, 3) := by decide +kernel
theorem d_S_change_37 : decode b_S_change 37 = .ok (.astore_n 3, 1) := by decide +kernel
theorem d_S_change_38 : decode b_S_change 38 = .ok (.iinc 4 1, 3) := by decide +kernel
theorem d_S_change_41 : decode b_S_change 41 = .ok (.goto (-25), 3) := by decide +kernel
theorem d_S_change_44 : decode b_S_change 44 = .ok (.aload_n 2, 1) := by decide +kernel
theorem d_S_change_45 : decode b_S_change 45 = .ok (.areturn, 1) := by decide +kernel
set_option maxHeartbeats 2000000 in
set_option maxRecDepth 20000 in
theorem ct_S_change (E : mm_En) (C : Nat → Nat → Int32) {i0 : Nat} (h0 : i0 < 64) : mm_MT E K_S_change [.ref 1, .ref (bk i0)] (hp_H C) (mm_D (some (.ref (bk (ob_i C i0)))) (cg_C C i0)) := by
  have s1 := sh_S
  have s0 := bk_s h0
  have loop : ∀ (d i : Nat) (o : Option Nat) (C1 : Nat → Nat → Int32), i + d = 20 → (∀ l, o = some l → l < 64) → ev_At E K_S_change 16 [some (.ref 1), some (.ref (bk i0)), some (.ref (bk (ob_i C i0))), some (va_rf (o.map bk)), some (.int (nI i))] [] (hp_H C1) 0 0 (mm_D (some (.ref (bk (ob_i C i0)))) (cg_f d C1 o)) := by
    intro d
    induction d with
    | zero =>
      intro i o C1 hi ho
      have hi8 : i = 20 := by omega
      subst hi8
      refine ev_iload (pc := 16) d_S_change_16 rfl ?_
      refine ev_bipush (pc := 18) (v := 20) d_S_change_18 (by decide) ?_
      refine ev_icmp_ge (pc := 20) (tgt := 44) d_S_change_20 (by decide) (fun ha => ?_) (fun ha => ?_)
      · refine ev_aload_n (pc := 44) d_S_change_44 rfl rfl (by first | rfl | exact mm_rk_rf _) ?_
        exact ev_aret (pc := 45) d_S_change_45 ⟨_, rfl⟩ (by first | rfl | exact mm_rk_rf _) (Nat.zero_le _) (Nat.zero_le _) ⟨rfl, rfl⟩
      · exact absurd (show nI 20 ≤ nI 20 from Int32.le_refl _) ha
    | succ d ih =>
      intro i o C1 hi ho
      refine ev_iload (pc := 16) d_S_change_16 rfl ?_
      refine ev_bipush (pc := 18) (v := 20) d_S_change_18 (by decide) ?_
      refine ev_icmp_ge (pc := 20) (tgt := 44) d_S_change_20 (by decide) (fun ha => ?_) (fun ha => ?_)
      · exact absurd ha (nI_ge (show i < 20 by omega) (by decide))
      refine ev_aload_n (pc := 23) d_S_change_23 rfl rfl (by first | rfl | exact mm_rk_rf _) ?_
      cases o with
      | none =>
        refine ev_ifnullN (pc := 24) (tgt := 44) d_S_change_24 (by decide) ?_
        refine ev_aload_n (pc := 44) d_S_change_44 rfl rfl (by first | rfl | exact mm_rk_rf _) ?_
        exact ev_aret (pc := 45) d_S_change_45 ⟨_, rfl⟩ (by first | rfl | exact mm_rk_rf _) (Nat.zero_le _) (Nat.zero_le _) ⟨rfl, rfl⟩
      | some l =>
        refine ev_ifnullR (pc := 24) d_S_change_24 ?_
        refine ev_aload_n (pc := 27) d_S_change_27 rfl rfl (by first | rfl | exact mm_rk_rf _) ?_
        refine ev_iconst (pc := 28) (v := 0) d_S_change_28 rfl ?_
        refine ev_aload_n (pc := 29) d_S_change_29 rfl rfl (by first | rfl | exact mm_rk_rf _) ?_
        refine ev_aload_n (pc := 30) (v := .ref (bk l)) d_S_change_30 rfl rfl rfl ?_
        refine ev_cV (pc := 31) (ct_S_ownBlockOf E C1 (ho l rfl)) cl_S_80 jv_S_ownBlockOf ⟨(Nat.le_of_ble_eq_true rfl), (Nat.le_of_ble_eq_true rfl)⟩ rfl (by assumption) rfl (Nat.le_of_ble_eq_true rfl) d_S_change_31 ⟨Nat.zero_le _, Nat.zero_le _⟩ ?_
        have s3 := bk_s (ob_i_lt (C := C1) (ho l rfl))
        refine ev_cV (pc := 34) (ct_S_aboveI E (ob_C C1 l) (t := 0) (by decide) (ob_i_lt (ho l rfl))) cl_S_58 jv_S_above ⟨(Nat.le_of_ble_eq_true rfl), (Nat.le_of_ble_eq_true rfl)⟩ rfl (by assumption) rfl (Nat.le_of_ble_eq_true rfl) d_S_change_34 ⟨Nat.zero_le _, Nat.zero_le _⟩ ?_
        refine ev_astore_n (pc := 37) d_S_change_37 rfl (by first | rfl | exact mm_rk_rf _) (Nat.le_of_ble_eq_true rfl) rfl ?_
        try dsimp only [List.set]
        refine ev_iinc (pc := 38) d_S_change_38 (Nat.le_of_ble_eq_true rfl) rfl (nx_inc _) rfl ?_
        try dsimp only [List.set]
        refine ev_goto (pc := 41) (tgt := 16) d_S_change_41 (by decide) ?_
        exact ih (i + 1) _ _ (by omega) (fun j hj => so_abi_lt hj)
  refine mm_mtL (by decide) (by rfl) (Nat.le_of_ble_eq_true rfl) rfl ?_
  refine ev_aload_n (pc := 0) d_S_change_0 rfl rfl (by first | rfl | exact mm_rk_rf _) ?_
  refine ev_aload_n (pc := 1) d_S_change_1 rfl rfl (by first | rfl | exact mm_rk_rf _) ?_
  refine ev_cV (pc := 2) (ct_S_ownBlockOf E C h0) cl_S_80 jv_S_ownBlockOf ⟨(Nat.le_of_ble_eq_true rfl), (Nat.le_of_ble_eq_true rfl)⟩ rfl (by assumption) rfl (Nat.le_of_ble_eq_true rfl) d_S_change_2 ⟨Nat.zero_le _, Nat.zero_le _⟩ ?_
  refine ev_astore_n (pc := 5) d_S_change_5 rfl (by first | rfl | exact mm_rk_rf _) (Nat.le_of_ble_eq_true rfl) rfl ?_
  try dsimp only [List.set]
  refine ev_aload_n (pc := 6) d_S_change_6 rfl rfl (by first | rfl | exact mm_rk_rf _) ?_
  refine ev_iconst (pc := 7) (v := 0) d_S_change_7 rfl ?_
  refine ev_aload_n (pc := 8) d_S_change_8 rfl rfl (by first | rfl | exact mm_rk_rf _) ?_
  refine ev_cV (pc := 9) (ct_S_aboveI E (ob_C C i0) (t := 0) (by decide) h0) cl_S_58 jv_S_above ⟨(Nat.le_of_ble_eq_true rfl), (Nat.le_of_ble_eq_true rfl)⟩ rfl (by assumption) rfl (Nat.le_of_ble_eq_true rfl) d_S_change_9 ⟨Nat.zero_le _, Nat.zero_le _⟩ ?_
  refine ev_astore_n (pc := 12) d_S_change_12 rfl (by first | rfl | exact mm_rk_rf _) (Nat.le_of_ble_eq_true rfl) rfl ?_
  try dsimp only [List.set]
  refine ev_iconst (pc := 13) (v := 0) d_S_change_13 rfl ?_
  refine ev_istore (pc := 14) d_S_change_14 (Nat.le_of_ble_eq_true rfl) rfl ?_
  try dsimp only [List.set]
  exact loop 20 0 _ _ (by omega) (fun j hj => so_abi_lt hj)
