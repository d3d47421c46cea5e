/-! The store, at the cell 1: searching, counting. Block i is the cell 3 + 2i. -/
abbrev bk (i : Nat) : Nat := 3 + 2 * i
theorem bk_s {i : Nat} (h : i < 64) : bl_s (bk i) := sh_blk i h
theorem bk_a {i : Nat} (h : i < 64) : bl_a (bk i) := sh_byt i h
theorem bk_p {i : Nat} (h : i < 64) : hp_pool[(nI i).toNatClampNeg]? = some (bk i) := by
  rw [nI_clamp (by omega)]
  exact sh_pl i h
def so_i (C : Nat → Nat → Int32) (t : Nat) (p : Int32) : Option Nat := fx_f (fun i => decide (C (bk i) 2 = p) && bt (C (bk i) 1) t) 64 0
def so_find (C : Nat → Nat → Int32) (t : Nat) (p : Int32) : Option Nat := (so_i C t p).map bk
theorem d_S_find_0 : decode b_S_find 0 = .ok (.iconst 1, 1) := by decide +kernel
theorem d_S_find_1 : decode b_S_find 1 = .ok (.iload_n 1, 1) := by decide +kernel
theorem d_S_find_2 : decode b_S_find 2 = .ok (.ishl, 1) := by decide +kernel
theorem d_S_find_3 : decode b_S_find 3 = .ok (.istore_n 3, 1) := by decide +kernel
theorem d_S_find_4 : decode b_S_find 4 = .ok (.iconst 0, 1) := by decide +kernel
theorem d_S_find_5 : decode b_S_find 5 = .ok (.istore 4, 2) := by decide +kernel
theorem d_S_find_7 : decode b_S_find 7 = .ok (.iload 4, 2) := by decide +kernel
theorem d_S_find_9 : decode b_S_find 9 = .ok (.bipush 64, 2) := by decide +kernel
theorem d_S_find_11 : decode b_S_find 11 = .ok (.if_icmp .ge 46, 3) := by decide +kernel
theorem d_S_find_14 : decode b_S_find 14 = .ok (.aload_n 0, 1) := by decide +kernel
theorem d_S_find_15 : decode b_S_find 15 = .ok (.getfield 11, 3) := by decide +kernel
theorem d_S_find_18 : decode b_S_find 18 = .ok (.iload 4, 2) := by decide +kernel
theorem d_S_find_20 : decode b_S_find 20 = .ok (.aaload, 1) := by decide +kernel
theorem d_S_find_21 : decode b_S_find 21 = .ok (.getfield 26, 3) := by decide +kernel
theorem d_S_find_24 : decode b_S_find 24 = .ok (.iload_n 2, 1) := by decide +kernel
theorem d_S_find_25 : decode b_S_find 25 = .ok (.if_icmp .ne 26, 3) := by decide +kernel
theorem d_S_find_28 : decode b_S_find 28 = .ok (.aload_n 0, 1) := by decide +kernel
theorem d_S_find_29 : decode b_S_find 29 = .ok (.getfield 11, 3) := by decide +kernel
theorem d_S_find_32 : decode b_S_find 32 = .ok (.iload 4, 2) := by decide +kernel
theorem d_S_find_34 : decode b_S_find 34 = .ok (.aaload, 1) := by decide +kernel
theorem d_S_find_35 : decode b_S_find 35 = .ok (.getfield 30, 3) := by decide +kernel
theorem d_S_find_38 : decode b_S_find 38 = .ok (.iload_n 3, 1) := by decide +kernel
theorem d_S_find_39 : decode b_S_find 39 = .ok (.iand, 1) := by decide +kernel
theorem d_S_find_40 : decode b_S_find 40 = .ok (.ifCond .eq 11, 3) := by decide +kernel
theorem d_S_find_43 : decode b_S_find 43 = .ok (.aload_n 0, 1) := by decide +kernel
theorem d_S_find_44 : decode b_S_find 44 = .ok (.getfield 11, 3) := by decide +kernel
theorem d_S_find_47 : decode b_S_find 47 = .ok (.iload 4, 2) := by decide +kernel
theorem d_S_find_49 : decode b_S_find 49 = .ok (.aaload, 1) := by decide +kernel
theorem d_S_find_50 : decode b_S_find 50 = .ok (.areturn, 1) := by decide +kernel
theorem d_S_find_51 : decode b_S_find 51 = .ok (.iinc 4 1, 3) := by decide +kernel
theorem d_S_find_54 : decode b_S_find 54 = .ok (.goto (-47), 3) := by decide +kernel
theorem d_S_find_57 : decode b_S_find 57 = .ok (.aconst_null, 1) := by decide +kernel
theorem d_S_find_58 : decode b_S_find 58 = .ok (.areturn, 1) := by decide +kernel
set_option maxRecDepth 20000 in
theorem ct_S_find (E : mm_En) (C : Nat → Nat → Int32) {t : Nat} (ht : t < 32) (p : Int32) : mm_MT E K_S_find [.ref 1, .int (nI t), .int p] (hp_H C) (mm_D (some (va_rf (so_find C t p))) C) := by
  have s1 := sh_S
  have s2 := sh_pool
  have loop : ∀ d i : Nat, i + d = 64 → ev_At E K_S_find 7 [some (.ref 1), some (.int (nI t)), some (.int p), some (.int ((1 : Int32) <<< (nI t &&& 31))), some (.int (nI i))] [] (hp_H C) 0 0 (mm_D (some (va_rf ((fx_f (fun i => decide (C (bk i) 2 = p) && bt (C (bk i) 1) t) d i).map bk))) C) := by
    intro d
    induction d with
    | zero =>
      intro i hi
      have hi8 : i = 64 := by omega
      subst hi8
      refine ev_iload (pc := 7) d_S_find_7 rfl ?_
      refine ev_bipush (pc := 9) (v := 64) d_S_find_9 (by decide) ?_
      refine ev_icmp_ge (pc := 11) (tgt := 57) d_S_find_11 (by decide) (fun ha => ?_) (fun ha => ?_)
      · refine ev_null (pc := 57) d_S_find_57 ?_
        exact ev_aret (pc := 58) d_S_find_58 ⟨_, rfl⟩ (by first | rfl | exact mm_rk_rf _) (Nat.zero_le _) (Nat.zero_le _) ⟨rfl, rfl⟩
      · exact absurd (show nI 64 ≤ nI 64 from Int32.le_refl _) ha
    | succ d ih =>
      intro i hi
      have hin : vp_in (nI i) 64 := vp_in_nI (by omega) (by decide)
      have hpl := bk_p (i := i) (by omega)
      have s3 := bk_s (i := i) (by omega)
      refine ev_iload (pc := 7) d_S_find_7 rfl ?_
      refine ev_bipush (pc := 9) (v := 64) d_S_find_9 (by decide) ?_
      refine ev_icmp_ge (pc := 11) (tgt := 57) d_S_find_11 (by decide) (fun ha => ?_) (fun ha => ?_)
      · exact absurd ha (nI_ge (show i < 64 by omega) (by decide))
      refine ev_aload_n (pc := 14) d_S_find_14 rfl rfl (by first | rfl | exact mm_rk_rf _) ?_
      refine ev_gR (pc := 15) (by assumption) (by rfl) fl_S_11 d_S_find_15 ?_
      refine ev_iload (pc := 18) d_S_find_18 rfl ?_
      refine ev_rR (pc := 20) (by assumption) rfl (by assumption) (by assumption) d_S_find_20 ?_
      refine ev_gI (pc := 21) (by assumption) (by rfl) fl_S_26 d_S_find_21 ?_
      refine ev_iload_n (pc := 24) d_S_find_24 rfl rfl ?_
      refine ev_icmp_ne (pc := 25) (tgt := 51) d_S_find_25 (by decide) (fun hb => ?_) (fun hb => ?_)
      · refine ev_iinc (pc := 51) d_S_find_51 (Nat.le_of_ble_eq_true rfl) rfl (nx_inc _) rfl ?_
        try dsimp only [List.set]
        refine ev_goto (pc := 54) (tgt := 7) d_S_find_54 (by decide) ?_
        have h1 := ih (i + 1) (by omega)
        simp only [fx_f, hb]
        simpa using h1
      refine ev_aload_n (pc := 28) d_S_find_28 rfl rfl (by first | rfl | exact mm_rk_rf _) ?_
      refine ev_gR (pc := 29) (by assumption) (by rfl) fl_S_11 d_S_find_29 ?_
      refine ev_iload (pc := 32) d_S_find_32 rfl ?_
      refine ev_rR (pc := 34) (by assumption) rfl (by assumption) (by assumption) d_S_find_34 ?_
      refine ev_gI (pc := 35) (by assumption) (by rfl) fl_S_30 d_S_find_35 ?_
      refine ev_iload_n (pc := 38) d_S_find_38 rfl rfl ?_
      refine ev_iand (pc := 39) d_S_find_39 ?_
      refine ev_if_eq (pc := 40) (tgt := 51) d_S_find_40 (by decide) (fun hd => ?_) (fun hd => ?_)
      · rw [tb_and ht] at hd
        refine ev_iinc (pc := 51) d_S_find_51 (Nat.le_of_ble_eq_true rfl) rfl (nx_inc _) rfl ?_
        try dsimp only [List.set]
        refine ev_goto (pc := 54) (tgt := 7) d_S_find_54 (by decide) ?_
        have h1 := ih (i + 1) (by omega)
        simp only [fx_f, hd]
        simpa using h1
      rw [tb_and ht] at hd
      refine ev_aload_n (pc := 43) d_S_find_43 rfl rfl (by first | rfl | exact mm_rk_rf _) ?_
      refine ev_gR (pc := 44) (by assumption) (by rfl) fl_S_11 d_S_find_44 ?_
      refine ev_iload (pc := 47) d_S_find_47 rfl ?_
      refine ev_rR (pc := 49) (by assumption) rfl (by assumption) (by assumption) d_S_find_49 ?_
      exact ev_aret (pc := 50) d_S_find_50 ⟨_, rfl⟩ (by first | rfl | exact mm_rk_rf _) (Nat.zero_le _) (Nat.zero_le _) ⟨by simp [fx_f, hb, hd, va_rf], rfl⟩
  refine mm_mtL (by decide) (by rfl) (Nat.le_of_ble_eq_true rfl) rfl ?_
  refine ev_iconst (pc := 0) (v := 1) d_S_find_0 rfl ?_
  refine ev_iload_n (pc := 1) d_S_find_1 rfl rfl ?_
  refine ev_ishl (pc := 2) d_S_find_2 ?_
  refine ev_istore_n (pc := 3) d_S_find_3 rfl (Nat.le_of_ble_eq_true rfl) rfl ?_
  try dsimp only [List.set]
  refine ev_iconst (pc := 4) (v := 0) d_S_find_4 rfl ?_
  refine ev_istore (pc := 5) d_S_find_5 (Nat.le_of_ble_eq_true rfl) rfl ?_
  try dsimp only [List.set]
  exact loop 64 0 (by omega)
def so_ab (C : Nat → Nat → Int32) (t b : Nat) : Option Nat := if C b 2 = 0 then none else so_find C t (C b 3)
theorem d_S_above_0 : decode b_S_above 0 = .ok (.aload_n 2, 1) := by decide +kernel
theorem d_S_above_1 : decode b_S_above 1 = .ok (.getfield 26, 3) := by decide +kernel
theorem d_S_above_4 : decode b_S_above 4 = .ok (.ifCond .ne 7, 3) := by decide +kernel
theorem d_S_above_7 : decode b_S_above 7 = .ok (.aconst_null, 1) := by decide +kernel
theorem d_S_above_8 : decode b_S_above 8 = .ok (.goto 12, 3) := by decide +kernel
theorem d_S_above_11 : decode b_S_above 11 = .ok (.aload_n 0, 1) := by decide +kernel
theorem d_S_above_12 : decode b_S_above 12 = .ok (.iload_n 1, 1) := by decide +kernel
theorem d_S_above_13 : decode b_S_above 13 = .ok (.aload_n 2, 1) := by decide +kernel
theorem d_S_above_14 : decode b_S_above 14 = .ok (.getfield 33, 3) := by decide +kernel
theorem d_S_above_17 : decode b_S_above 17 = .ok (.invokevirtual 36, 3) := by decide +kernel
theorem d_S_above_20 : decode b_S_above 20 = .ok (.areturn, 1) := by decide +kernel
set_option maxRecDepth 20000 in
theorem ct_S_above (E : mm_En) (C : Nat → Nat → Int32) {t : Nat} (ht : t < 32) {b : Nat} (hb : bl_s b) : mm_MT E K_S_above [.ref 1, .int (nI t), .ref b] (hp_H C) (mm_D (some (va_rf (so_ab C t b))) C) := by
  have s1 := sh_S
  refine mm_mtL (by decide) (by rfl) (Nat.le_of_ble_eq_true rfl) rfl ?_
  refine ev_aload_n (pc := 0) d_S_above_0 rfl rfl (by first | rfl | exact mm_rk_rf _) ?_
  refine ev_gI (pc := 1) (by assumption) (by rfl) fl_S_26 d_S_above_1 ?_
  refine ev_if_ne (pc := 4) (tgt := 11) d_S_above_4 (by decide) (fun hc => ?_) (fun hc => ?_)
  · refine ev_aload_n (pc := 11) d_S_above_11 rfl rfl (by first | rfl | exact mm_rk_rf _) ?_
    refine ev_iload_n (pc := 12) d_S_above_12 rfl rfl ?_
    refine ev_aload_n (pc := 13) d_S_above_13 rfl rfl (by first | rfl | exact mm_rk_rf _) ?_
    refine ev_gI (pc := 14) (by assumption) (by rfl) fl_S_33 d_S_above_14 ?_
    refine ev_cV (pc := 17) (ct_S_find E C ht _) cl_S_36 jv_S_find ⟨(Nat.le_of_ble_eq_true rfl), (Nat.le_of_ble_eq_true rfl)⟩ rfl (by assumption) rfl (Nat.le_of_ble_eq_true rfl) d_S_above_17 ⟨Nat.zero_le _, Nat.zero_le _⟩ ?_
    exact ev_aret (pc := 20) d_S_above_20 ⟨_, rfl⟩ (by first | rfl | exact mm_rk_rf _) (Nat.zero_le _) (Nat.zero_le _) ⟨by rw [so_ab, if_neg hc], rfl⟩
  · refine ev_null (pc := 7) d_S_above_7 ?_
    refine ev_goto (pc := 8) (tgt := 20) d_S_above_8 (by decide) ?_
    exact ev_aret (pc := 20) d_S_above_20 ⟨_, rfl⟩ (by first | rfl | exact mm_rk_rf _) (Nat.zero_le _) (Nat.zero_le _) ⟨by rw [so_ab, if_pos hc]; rfl, rfl⟩
/-- how many blocks are there -/
def so_nb (C : Nat → Nat → Int32) : Nat := fx_c (fun i => decide (¬ C (bk i) 1 = 0)) 64 0
theorem d_S_countBlocks_0 : decode b_S_countBlocks 0 = .ok (.iconst 0, 1) := by decide +kernel
theorem d_S_countBlocks_1 : decode b_S_countBlocks 1 = .ok (.istore_n 1, 1) := by decide +kernel
theorem d_S_countBlocks_2 : decode b_S_countBlocks 2 = .ok (.iconst 0, 1) := by decide +kernel
theorem d_S_countBlocks_3 : decode b_S_countBlocks 3 = .ok (.istore_n 2, 1) := by decide +kernel
theorem d_S_countBlocks_4 : decode b_S_countBlocks 4 = .ok (.iload_n 2, 1) := by decide +kernel
theorem d_S_countBlocks_5 : decode b_S_countBlocks 5 = .ok (.bipush 64, 2) := by decide +kernel
theorem d_S_countBlocks_7 : decode b_S_countBlocks 7 = .ok (.if_icmp .ge 24, 3) := by decide +kernel
theorem d_S_countBlocks_10 : decode b_S_countBlocks 10 = .ok (.aload_n 0, 1) := by decide +kernel
theorem d_S_countBlocks_11 : decode b_S_countBlocks 11 = .ok (.getfield 11, 3) := by decide +kernel
theorem d_S_countBlocks_14 : decode b_S_countBlocks 14 = .ok (.iload_n 2, 1) := by decide +kernel
theorem d_S_countBlocks_15 : decode b_S_countBlocks 15 = .ok (.aaload, 1) := by decide +kernel
theorem d_S_countBlocks_16 : decode b_S_countBlocks 16 = .ok (.getfield 30, 3) := by decide +kernel
theorem d_S_countBlocks_19 : decode b_S_countBlocks 19 = .ok (.ifCond .eq 6, 3) := by decide +kernel
theorem d_S_countBlocks_22 : decode b_S_countBlocks 22 = .ok (.iinc 1 1, 3) := by decide +kernel
theorem d_S_countBlocks_25 : decode b_S_countBlocks 25 = .ok (.iinc 2 1, 3) := by decide +kernel
theorem d_S_countBlocks_28 : decode b_S_countBlocks 28 = .ok (.goto (-24), 3) := by decide +kernel
theorem d_S_countBlocks_31 : decode b_S_countBlocks 31 = .ok (.iload_n 1, 1) := by decide +kernel
theorem d_S_countBlocks_32 : decode b_S_countBlocks 32 = .ok (.ireturn, 1) := by decide +kernel
set_option maxRecDepth 20000 in
theorem ct_S_countBlocks (E : mm_En) (C : Nat → Nat → Int32) : mm_MT E K_S_countBlocks [.ref 1] (hp_H C) (mm_D (some (.int (nI (so_nb C)))) C) := by
  have s1 := sh_S
  have s2 := sh_pool
  have loop : ∀ d i k : Nat, i + d = 64 → k ≤ i → ev_At E K_S_countBlocks 4 [some (.ref 1), some (.int (nI k)), some (.int (nI i))] [] (hp_H C) 0 0 (mm_D (some (.int (nI (k + fx_c (fun i => decide (¬ C (bk i) 1 = 0)) d i)))) C) := by
    intro d
    induction d with
    | zero =>
      intro i k hi hk
      have hi8 : i = 64 := by omega
      subst hi8
      refine ev_iload_n (pc := 4) d_S_countBlocks_4 rfl rfl ?_
      refine ev_bipush (pc := 5) (v := 64) d_S_countBlocks_5 (by decide) ?_
      refine ev_icmp_ge (pc := 7) (tgt := 31) d_S_countBlocks_7 (by decide) (fun ha => ?_) (fun ha => ?_)
      · refine ev_iload_n (pc := 31) d_S_countBlocks_31 rfl rfl ?_
        exact ev_iret (pc := 32) d_S_countBlocks_32 rfl (Nat.zero_le _) (Nat.zero_le _) ⟨rfl, rfl⟩
      · exact absurd (show nI 64 ≤ nI 64 from Int32.le_refl _) ha
    | succ d ih =>
      intro i k hi hk
      have hin : vp_in (nI i) 64 := vp_in_nI (by omega) (by decide)
      have hpl := bk_p (i := i) (by omega)
      have s3 := bk_s (i := i) (by omega)
      refine ev_iload_n (pc := 4) d_S_countBlocks_4 rfl rfl ?_
      refine ev_bipush (pc := 5) (v := 64) d_S_countBlocks_5 (by decide) ?_
      refine ev_icmp_ge (pc := 7) (tgt := 31) d_S_countBlocks_7 (by decide) (fun ha => ?_) (fun ha => ?_)
      · exact absurd ha (nI_ge (show i < 64 by omega) (by decide))
      refine ev_aload_n (pc := 10) d_S_countBlocks_10 rfl rfl (by first | rfl | exact mm_rk_rf _) ?_
      refine ev_gR (pc := 11) (by assumption) (by rfl) fl_S_11 d_S_countBlocks_11 ?_
      refine ev_iload_n (pc := 14) d_S_countBlocks_14 rfl rfl ?_
      refine ev_rR (pc := 15) (by assumption) rfl (by assumption) (by assumption) d_S_countBlocks_15 ?_
      refine ev_gI (pc := 16) (by assumption) (by rfl) fl_S_30 d_S_countBlocks_16 ?_
      refine ev_if_eq (pc := 19) (tgt := 25) d_S_countBlocks_19 (by decide) (fun hb => ?_) (fun hb => ?_)
      · refine ev_iinc (pc := 25) d_S_countBlocks_25 (Nat.le_of_ble_eq_true rfl) rfl (nx_inc _) rfl ?_
        try dsimp only [List.set]
        refine ev_goto (pc := 28) (tgt := 4) d_S_countBlocks_28 (by decide) ?_
        have h1 := ih (i + 1) k (by omega) (by omega)
        simp only [fx_c, hb]
        simpa using h1
      · refine ev_iinc (pc := 22) d_S_countBlocks_22 (Nat.le_of_ble_eq_true rfl) rfl (nx_inc _) rfl ?_
        try dsimp only [List.set]
        refine ev_iinc (pc := 25) d_S_countBlocks_25 (Nat.le_of_ble_eq_true rfl) rfl (nx_inc _) rfl ?_
        try dsimp only [List.set]
        refine ev_goto (pc := 28) (tgt := 4) d_S_countBlocks_28 (by decide) ?_
        have h1 := ih (i + 1) (k + 1) (by omega) (by omega)
        simp only [fx_c, hb]
        rw [Nat.add_assoc] at h1
        simpa using h1
  refine mm_mtL (by decide) (by rfl) (Nat.le_of_ble_eq_true rfl) rfl ?_
  refine ev_iconst (pc := 0) (v := 0) d_S_countBlocks_0 rfl ?_
  refine ev_istore_n (pc := 1) d_S_countBlocks_1 rfl (Nat.le_of_ble_eq_true rfl) rfl ?_
  try dsimp only [List.set]
  refine ev_iconst (pc := 2) (v := 0) d_S_countBlocks_2 rfl ?_
  refine ev_istore_n (pc := 3) d_S_countBlocks_3 rfl (Nat.le_of_ble_eq_true rfl) rfl ?_
  try dsimp only [List.set]
  have h1 := loop 64 0 0 (by omega) (by omega)
  rw [Nat.zero_add] at h1
  exact h1
/-- how many nodes are in the present tree -/
def so_nn (C : Nat → Nat → Int32) : Nat := fx_c (fun i => bt (C (bk i) 1) 0) 64 0
theorem d_S_countNodes_0 : decode b_S_countNodes 0 = .ok (.iconst 0, 1) := by decide +kernel
theorem d_S_countNodes_1 : decode b_S_countNodes 1 = .ok (.istore_n 1, 1) := by decide +kernel
theorem d_S_countNodes_2 : decode b_S_countNodes 2 = .ok (.iconst 0, 1) := by decide +kernel
theorem d_S_countNodes_3 : decode b_S_countNodes 3 = .ok (.istore_n 2, 1) := by decide +kernel
theorem d_S_countNodes_4 : decode b_S_countNodes 4 = .ok (.iload_n 2, 1) := by decide +kernel
theorem d_S_countNodes_5 : decode b_S_countNodes 5 = .ok (.bipush 64, 2) := by decide +kernel
theorem d_S_countNodes_7 : decode b_S_countNodes 7 = .ok (.if_icmp .ge 25, 3) := by decide +kernel
theorem d_S_countNodes_10 : decode b_S_countNodes 10 = .ok (.aload_n 0, 1) := by decide +kernel
theorem d_S_countNodes_11 : decode b_S_countNodes 11 = .ok (.getfield 11, 3) := by decide +kernel
theorem d_S_countNodes_14 : decode b_S_countNodes 14 = .ok (.iload_n 2, 1) := by decide +kernel
theorem d_S_countNodes_15 : decode b_S_countNodes 15 = .ok (.aaload, 1) := by decide +kernel
theorem d_S_countNodes_16 : decode b_S_countNodes 16 = .ok (.iconst 0, 1) := by decide +kernel
theorem d_S_countNodes_17 : decode b_S_countNodes 17 = .ok (.invokevirtual 51, 3) := by decide +kernel
theorem d_S_countNodes_20 : decode b_S_countNodes 20 = .ok (.ifCond .eq 6, 3) := by decide +kernel
theorem d_S_countNodes_23 : decode b_S_countNodes 23 = .ok (.iinc 1 1, 3) := by decide +kernel
theorem d_S_countNodes_26 : decode b_S_countNodes 26 = .ok (.iinc 2 1, 3) := by decide +kernel
theorem d_S_countNodes_29 : decode b_S_countNodes 29 = .ok (.goto (-25), 3) := by decide +kernel
theorem d_S_countNodes_32 : decode b_S_countNodes 32 = .ok (.iload_n 1, 1) := by decide +kernel
theorem d_S_countNodes_33 : decode b_S_countNodes 33 = .ok (.ireturn, 1) := by decide +kernel
set_option maxRecDepth 20000 in
theorem ct_S_countNodes (E : mm_En) (C : Nat → Nat → Int32) : mm_MT E K_S_countNodes [.ref 1] (hp_H C) (mm_D (some (.int (nI (so_nn C)))) C) := by
  have s1 := sh_S
  have s2 := sh_pool
  have loop : ∀ d i k : Nat, i + d = 64 → k ≤ i → ev_At E K_S_countNodes 4 [some (.ref 1), some (.int (nI k)), some (.int (nI i))] [] (hp_H C) 0 0 (mm_D (some (.int (nI (k + fx_c (fun i => bt (C (bk i) 1) 0) d i)))) C) := by
    intro d
    induction d with
    | zero =>
      intro i k hi hk
      have hi8 : i = 64 := by omega
      subst hi8
      refine ev_iload_n (pc := 4) d_S_countNodes_4 rfl rfl ?_
      refine ev_bipush (pc := 5) (v := 64) d_S_countNodes_5 (by decide) ?_
      refine ev_icmp_ge (pc := 7) (tgt := 32) d_S_countNodes_7 (by decide) (fun ha => ?_) (fun ha => ?_)
      · refine ev_iload_n (pc := 32) d_S_countNodes_32 rfl rfl ?_
        exact ev_iret (pc := 33) d_S_countNodes_33 rfl (Nat.zero_le _) (Nat.zero_le _) ⟨rfl, rfl⟩
      · exact absurd (show nI 64 ≤ nI 64 from Int32.le_refl _) ha
    | succ d ih =>
      intro i k hi hk
      have hin : vp_in (nI i) 64 := vp_in_nI (by omega) (by decide)
      have hpl := bk_p (i := i) (by omega)
      have s3 := bk_s (i := i) (by omega)
      refine ev_iload_n (pc := 4) d_S_countNodes_4 rfl rfl ?_
      refine ev_bipush (pc := 5) (v := 64) d_S_countNodes_5 (by decide) ?_
      refine ev_icmp_ge (pc := 7) (tgt := 32) d_S_countNodes_7 (by decide) (fun ha => ?_) (fun ha => ?_)
      · exact absurd ha (nI_ge (show i < 64 by omega) (by decide))
      refine ev_aload_n (pc := 10) d_S_countNodes_10 rfl rfl (by first | rfl | exact mm_rk_rf _) ?_
      refine ev_gR (pc := 11) (by assumption) (by rfl) fl_S_11 d_S_countNodes_11 ?_
      refine ev_iload_n (pc := 14) d_S_countNodes_14 rfl rfl ?_
      refine ev_rR (pc := 15) (by assumption) rfl (by assumption) (by assumption) d_S_countNodes_15 ?_
      refine ev_iconst (pc := 16) (v := 0) d_S_countNodes_16 rfl ?_
      refine ev_cV (pc := 17) (ct_B_isIn E C s3 (t := 0) (by decide)) cl_S_51 jv_B_isIn ⟨(Nat.le_of_ble_eq_true rfl), (Nat.le_of_ble_eq_true rfl)⟩ rfl (by assumption) rfl (Nat.le_of_ble_eq_true rfl) d_S_countNodes_17 ⟨Nat.zero_le _, Nat.zero_le _⟩ ?_
      refine ev_if_eq (pc := 20) (tgt := 26) d_S_countNodes_20 (by decide) (fun hb => ?_) (fun hb => ?_)
      · rw [b2_0] at hb
        refine ev_iinc (pc := 26) d_S_countNodes_26 (Nat.le_of_ble_eq_true rfl) rfl (nx_inc _) rfl ?_
        try dsimp only [List.set]
        refine ev_goto (pc := 29) (tgt := 4) d_S_countNodes_29 (by decide) ?_
        have h1 := ih (i + 1) k (by omega) (by omega)
        simp only [fx_c, hb]
        simpa using h1
      · rw [b2_0, Classical.not_not] at hb
        refine ev_iinc (pc := 23) d_S_countNodes_23 (Nat.le_of_ble_eq_true rfl) rfl (nx_inc _) rfl ?_
        try dsimp only [List.set]
        refine ev_iinc (pc := 26) d_S_countNodes_26 (Nat.le_of_ble_eq_true rfl) rfl (nx_inc _) rfl ?_
        try dsimp only [List.set]
        refine ev_goto (pc := 29) (tgt := 4) d_S_countNodes_29 (by decide) ?_
        have h1 := ih (i + 1) (k + 1) (by omega) (by omega)
        simp only [fx_c, hb]
        rw [Nat.add_assoc] at h1
        simpa using h1
  refine mm_mtL (by decide) (by rfl) (Nat.le_of_ble_eq_true rfl) rfl ?_
  refine ev_iconst (pc := 0) (v := 0) d_S_countNodes_0 rfl ?_
  refine ev_istore_n (pc := 1) d_S_countNodes_1 rfl (Nat.le_of_ble_eq_true rfl) rfl ?_
  try dsimp only [List.set]
  refine ev_iconst (pc := 2) (v := 0) d_S_countNodes_2 rfl ?_
  refine ev_istore_n (pc := 3) d_S_countNodes_3 rfl (Nat.le_of_ble_eq_true rfl) rfl ?_
  try dsimp only [List.set]
  have h1 := loop 64 0 0 (by omega) (by omega)
  rw [Nat.zero_add] at h1
  exact h1
/-- is a mask that of a block in other trees than the present -/
def so_ot (x : Int32) : Bool := decide (¬ (x &&& (((1 : Int32) <<< (nI 0 &&& 31)) ^^^ (-1))) = 0)
/-- how many nodes of the present tree are in no other -/
def so_nu (C : Nat → Nat → Int32) : Nat := fx_c (fun i => bt (C (bk i) 1) 0 && !so_ot (C (bk i) 1)) 64 0
theorem d_S_countUnsaved_0 : decode b_S_countUnsaved 0 = .ok (.iconst 0, 1) := by decide +kernel
theorem d_S_countUnsaved_1 : decode b_S_countUnsaved 1 = .ok (.istore_n 1, 1) := by decide +kernel
theorem d_S_countUnsaved_2 : decode b_S_countUnsaved 2 = .ok (.iconst 0, 1) := by decide +kernel
theorem d_S_countUnsaved_3 : decode b_S_countUnsaved 3 = .ok (.istore_n 2, 1) := by decide +kernel
theorem d_S_countUnsaved_4 : decode b_S_countUnsaved 4 = .ok (.iload_n 2, 1) := by decide +kernel
theorem d_S_countUnsaved_5 : decode b_S_countUnsaved 5 = .ok (.bipush 64, 2) := by decide +kernel
theorem d_S_countUnsaved_7 : decode b_S_countUnsaved 7 = .ok (.if_icmp .ge 38, 3) := by decide +kernel
theorem d_S_countUnsaved_10 : decode b_S_countUnsaved 10 = .ok (.aload_n 0, 1) := by decide +kernel
theorem d_S_countUnsaved_11 : decode b_S_countUnsaved 11 = .ok (.getfield 11, 3) := by decide +kernel
theorem d_S_countUnsaved_14 : decode b_S_countUnsaved 14 = .ok (.iload_n 2, 1) := by decide +kernel
theorem d_S_countUnsaved_15 : decode b_S_countUnsaved 15 = .ok (.aaload, 1) := by decide +kernel
theorem d_S_countUnsaved_16 : decode b_S_countUnsaved 16 = .ok (.iconst 0, 1) := by decide +kernel
theorem d_S_countUnsaved_17 : decode b_S_countUnsaved 17 = .ok (.invokevirtual 51, 3) := by decide +kernel
theorem d_S_countUnsaved_20 : decode b_S_countUnsaved 20 = .ok (.ifCond .eq 19, 3) := by decide +kernel
theorem d_S_countUnsaved_23 : decode b_S_countUnsaved 23 = .ok (.aload_n 0, 1) := by decide +kernel
theorem d_S_countUnsaved_24 : decode b_S_countUnsaved 24 = .ok (.getfield 11, 3) := by decide +kernel
theorem d_S_countUnsaved_27 : decode b_S_countUnsaved 27 = .ok (.iload_n 2, 1) := by decide +kernel
theorem d_S_countUnsaved_28 : decode b_S_countUnsaved 28 = .ok (.aaload, 1) := by decide +kernel
theorem d_S_countUnsaved_29 : decode b_S_countUnsaved 29 = .ok (.iconst 0, 1) := by decide +kernel
theorem d_S_countUnsaved_30 : decode b_S_countUnsaved 30 = .ok (.invokevirtual 55, 3) := by decide +kernel
theorem d_S_countUnsaved_33 : decode b_S_countUnsaved 33 = .ok (.ifCond .ne 6, 3) := by decide +kernel
theorem d_S_countUnsaved_36 : decode b_S_countUnsaved 36 = .ok (.iinc 1 1, 3) := by decide +kernel
theorem d_S_countUnsaved_39 : decode b_S_countUnsaved 39 = .ok (.iinc 2 1, 3) := by decide +kernel
theorem d_S_countUnsaved_42 : decode b_S_countUnsaved 42 = .ok (.goto (-38), 3) := by decide +kernel
theorem d_S_countUnsaved_45 : decode b_S_countUnsaved 45 = .ok (.iload_n 1, 1) := by decide +kernel
theorem d_S_countUnsaved_46 : decode b_S_countUnsaved 46 = .ok (.ireturn, 1) := by decide +kernel
set_option maxRecDepth 20000 in
theorem ct_S_countUnsaved (E : mm_En) (C : Nat → Nat → Int32) : mm_MT E K_S_countUnsaved [.ref 1] (hp_H C) (mm_D (some (.int (nI (so_nu C)))) C) := by
  have s1 := sh_S
  have s2 := sh_pool
  have loop : ∀ d i k : Nat, i + d = 64 → k ≤ i → ev_At E K_S_countUnsaved 4 [some (.ref 1), some (.int (nI k)), some (.int (nI i))] [] (hp_H C) 0 0 (mm_D (some (.int (nI (k + fx_c (fun i => bt (C (bk i) 1) 0 && !so_ot (C (bk i) 1)) d i)))) C) := by
    intro d
    induction d with
    | zero =>
      intro i k hi hk
      have hi8 : i = 64 := by omega
      subst hi8
      refine ev_iload_n (pc := 4) d_S_countUnsaved_4 rfl rfl ?_
      refine ev_bipush (pc := 5) (v := 64) d_S_countUnsaved_5 (by decide) ?_
      refine ev_icmp_ge (pc := 7) (tgt := 45) d_S_countUnsaved_7 (by decide) (fun ha => ?_) (fun ha => ?_)
      · refine ev_iload_n (pc := 45) d_S_countUnsaved_45 rfl rfl ?_
        exact ev_iret (pc := 46) d_S_countUnsaved_46 rfl (Nat.zero_le _) (Nat.zero_le _) ⟨rfl, rfl⟩
      · exact absurd (show nI 64 ≤ nI 64 from Int32.le_refl _) ha
    | succ d ih =>
      intro i k hi hk
      have hin : vp_in (nI i) 64 := vp_in_nI (by omega) (by decide)
      have hpl := bk_p (i := i) (by omega)
      have s3 := bk_s (i := i) (by omega)
      refine ev_iload_n (pc := 4) d_S_countUnsaved_4 rfl rfl ?_
      refine ev_bipush (pc := 5) (v := 64) d_S_countUnsaved_5 (by decide) ?_
      refine ev_icmp_ge (pc := 7) (tgt := 45) d_S_countUnsaved_7 (by decide) (fun ha => ?_) (fun ha => ?_)
      · exact absurd ha (nI_ge (show i < 64 by omega) (by decide))
      refine ev_aload_n (pc := 10) d_S_countUnsaved_10 rfl rfl (by first | rfl | exact mm_rk_rf _) ?_
      refine ev_gR (pc := 11) (by assumption) (by rfl) fl_S_11 d_S_countUnsaved_11 ?_
      refine ev_iload_n (pc := 14) d_S_countUnsaved_14 rfl rfl ?_
      refine ev_rR (pc := 15) (by assumption) rfl (by assumption) (by assumption) d_S_countUnsaved_15 ?_
      refine ev_iconst (pc := 16) (v := 0) d_S_countUnsaved_16 rfl ?_
      refine ev_cV (pc := 17) (ct_B_isIn E C s3 (t := 0) (by decide)) cl_S_51 jv_B_isIn ⟨(Nat.le_of_ble_eq_true rfl), (Nat.le_of_ble_eq_true rfl)⟩ rfl (by assumption) rfl (Nat.le_of_ble_eq_true rfl) d_S_countUnsaved_17 ⟨Nat.zero_le _, Nat.zero_le _⟩ ?_
      refine ev_if_eq (pc := 20) (tgt := 39) d_S_countUnsaved_20 (by decide) (fun hb => ?_) (fun hb => ?_)
      · rw [b2_0] at hb
        refine ev_iinc (pc := 39) d_S_countUnsaved_39 (Nat.le_of_ble_eq_true rfl) rfl (nx_inc _) rfl ?_
        try dsimp only [List.set]
        refine ev_goto (pc := 42) (tgt := 4) d_S_countUnsaved_42 (by decide) ?_
        have h1 := ih (i + 1) k (by omega) (by omega)
        simp only [fx_c, hb]
        simpa using h1
      rw [b2_0, Classical.not_not] at hb
      refine ev_aload_n (pc := 23) d_S_countUnsaved_23 rfl rfl (by first | rfl | exact mm_rk_rf _) ?_
      refine ev_gR (pc := 24) (by assumption) (by rfl) fl_S_11 d_S_countUnsaved_24 ?_
      refine ev_iload_n (pc := 27) d_S_countUnsaved_27 rfl rfl ?_
      refine ev_rR (pc := 28) (by assumption) rfl (by assumption) (by assumption) d_S_countUnsaved_28 ?_
      refine ev_iconst (pc := 29) (v := 0) d_S_countUnsaved_29 rfl ?_
      refine ev_cV (pc := 30) (ct_B_isInOthersThan E C s3 0) cl_S_55 jv_B_isInOthersThan ⟨(Nat.le_of_ble_eq_true rfl), (Nat.le_of_ble_eq_true rfl)⟩ rfl (by assumption) rfl (Nat.le_of_ble_eq_true rfl) d_S_countUnsaved_30 ⟨Nat.zero_le _, Nat.zero_le _⟩ ?_
      refine ev_if_ne (pc := 33) (tgt := 39) d_S_countUnsaved_33 (by decide) (fun hd => ?_) (fun hd => ?_)
      · rw [b2_0] at hd
        have h9 : so_ot (C (bk i) 1) = true := by simpa [so_ot] using hd
        refine ev_iinc (pc := 39) d_S_countUnsaved_39 (Nat.le_of_ble_eq_true rfl) rfl (nx_inc _) rfl ?_
        try dsimp only [List.set]
        refine ev_goto (pc := 42) (tgt := 4) d_S_countUnsaved_42 (by decide) ?_
        have h1 := ih (i + 1) k (by omega) (by omega)
        simp only [fx_c, hb, h9]
        simpa using h1
      · rw [b2_0] at hd
        have h9 : so_ot (C (bk i) 1) = false := by simpa [so_ot] using hd
        refine ev_iinc (pc := 36) d_S_countUnsaved_36 (Nat.le_of_ble_eq_true rfl) rfl (nx_inc _) rfl ?_
        try dsimp only [List.set]
        refine ev_iinc (pc := 39) d_S_countUnsaved_39 (Nat.le_of_ble_eq_true rfl) rfl (nx_inc _) rfl ?_
        try dsimp only [List.set]
        refine ev_goto (pc := 42) (tgt := 4) d_S_countUnsaved_42 (by decide) ?_
        have h1 := ih (i + 1) (k + 1) (by omega) (by omega)
        simp only [fx_c, hb, h9]
        rw [Nat.add_assoc] at h1
        simpa using h1
  refine mm_mtL (by decide) (by rfl) (Nat.le_of_ble_eq_true rfl) rfl ?_
  refine ev_iconst (pc := 0) (v := 0) d_S_countUnsaved_0 rfl ?_
  refine ev_istore_n (pc := 1) d_S_countUnsaved_1 rfl (Nat.le_of_ble_eq_true rfl) rfl ?_
  try dsimp only [List.set]
  refine ev_iconst (pc := 2) (v := 0) d_S_countUnsaved_2 rfl ?_
  refine ev_istore_n (pc := 3) d_S_countUnsaved_3 rfl (Nat.le_of_ble_eq_true rfl) rfl ?_
  try dsimp only [List.set]
  have h1 := loop 64 0 0 (by omega) (by omega)
  rw [Nat.zero_add] at h1
  exact h1
/-- is block i a node of the directory with path p in tree t -/
def so_kid (C : Nat → Nat → Int32) (t : Nat) (p : Int32) (i : Nat) : Bool := decide (bt (C (bk i) 1) t = true ∧ C (bk i) 3 = p ∧ ¬ C (bk i) 2 = 0)
def so_nk (C : Nat → Nat → Int32) (t : Nat) (p : Int32) : Nat := fx_c (so_kid C t p) 64 0
theorem d_S_countChildren_0 : decode b_S_countChildren 0 = .ok (.iconst 0, 1) := by decide +kernel
theorem d_S_countChildren_1 : decode b_S_countChildren 1 = .ok (.istore_n 3, 1) := by decide +kernel
theorem d_S_countChildren_2 : decode b_S_countChildren 2 = .ok (.iconst 0, 1) := by decide +kernel
theorem d_S_countChildren_3 : decode b_S_countChildren 3 = .ok (.istore 4, 2) := by decide +kernel
theorem d_S_countChildren_5 : decode b_S_countChildren 5 = .ok (.iload 4, 2) := by decide +kernel
theorem d_S_countChildren_7 : decode b_S_countChildren 7 = .ok (.bipush 64, 2) := by decide +kernel
theorem d_S_countChildren_9 : decode b_S_countChildren 9 = .ok (.if_icmp .ge 27, 3) := by decide +kernel
theorem d_S_countChildren_12 : decode b_S_countChildren 12 = .ok (.aload_n 0, 1) := by decide +kernel
theorem d_S_countChildren_13 : decode b_S_countChildren 13 = .ok (.getfield 11, 3) := by decide +kernel
theorem d_S_countChildren_16 : decode b_S_countChildren 16 = .ok (.iload 4, 2) := by decide +kernel
theorem d_S_countChildren_18 : decode b_S_countChildren 18 = .ok (.aaload, 1) := by decide +kernel
theorem d_S_countChildren_19 : decode b_S_countChildren 19 = .ok (.iload_n 1, 1) := by decide +kernel
theorem d_S_countChildren_20 : decode b_S_countChildren 20 = .ok (.aload_n 2, 1) := by decide +kernel
theorem d_S_countChildren_21 : decode b_S_countChildren 21 = .ok (.invokevirtual 47, 3) := by decide +kernel
theorem d_S_countChildren_24 : decode b_S_countChildren 24 = .ok (.ifCond .eq 6, 3) := by decide +kernel
theorem d_S_countChildren_27 : decode b_S_countChildren 27 = .ok (.iinc 3 1, 3) := by decide +kernel
theorem d_S_countChildren_30 : decode b_S_countChildren 30 = .ok (.iinc 4 1, 3) := by decide +kernel
theorem d_S_countChildren_33 : decode b_S_countChildren 33 = .ok (.goto (-28), 3) := by decide +kernel
theorem d_S_countChildren_36 : decode b_S_countChildren 36 = .ok (.iload_n 3, 1) := by decide +kernel
theorem d_S_countChildren_37 : decode b_S_countChildren 37 = .ok (.ireturn, 1) := by decide +kernel
set_option maxRecDepth 20000 in
theorem ct_S_countChildren (E : mm_En) (C : Nat → Nat → Int32) {t : Nat} (ht : t < 32) {b : Nat} (hb9 : bl_s b) : mm_MT E K_S_countChildren [.ref 1, .int (nI t), .ref b] (hp_H C) (mm_D (some (.int (nI (so_nk C t (C b 2))))) C) := by
  have s1 := sh_S
  have s2 := sh_pool
  have loop : ∀ d i k : Nat, i + d = 64 → k ≤ i → ev_At E K_S_countChildren 5 [some (.ref 1), some (.int (nI t)), some (.ref b), some (.int (nI k)), some (.int (nI i))] [] (hp_H C) 0 0 (mm_D (some (.int (nI (k + fx_c (so_kid C t (C b 2)) d i)))) C) := by
    intro d
    induction d with
    | zero =>
      intro i k hi hk
      have hi8 : i = 64 := by omega
      subst hi8
      refine ev_iload (pc := 5) d_S_countChildren_5 rfl ?_
      refine ev_bipush (pc := 7) (v := 64) d_S_countChildren_7 (by decide) ?_
      refine ev_icmp_ge (pc := 9) (tgt := 36) d_S_countChildren_9 (by decide) (fun ha => ?_) (fun ha => ?_)
      · refine ev_iload_n (pc := 36) d_S_countChildren_36 rfl rfl ?_
        exact ev_iret (pc := 37) d_S_countChildren_37 rfl (Nat.zero_le _) (Nat.zero_le _) ⟨rfl, rfl⟩
      · exact absurd (show nI 64 ≤ nI 64 from Int32.le_refl _) ha
    | succ d ih =>
      intro i k hi hk
      have hin : vp_in (nI i) 64 := vp_in_nI (by omega) (by decide)
      have hpl := bk_p (i := i) (by omega)
      have s3 := bk_s (i := i) (by omega)
      refine ev_iload (pc := 5) d_S_countChildren_5 rfl ?_
      refine ev_bipush (pc := 7) (v := 64) d_S_countChildren_7 (by decide) ?_
      refine ev_icmp_ge (pc := 9) (tgt := 36) d_S_countChildren_9 (by decide) (fun ha => ?_) (fun ha => ?_)
      · exact absurd ha (nI_ge (show i < 64 by omega) (by decide))
      refine ev_aload_n (pc := 12) d_S_countChildren_12 rfl rfl (by first | rfl | exact mm_rk_rf _) ?_
      refine ev_gR (pc := 13) (by assumption) (by rfl) fl_S_11 d_S_countChildren_13 ?_
      refine ev_iload (pc := 16) d_S_countChildren_16 rfl ?_
      refine ev_rR (pc := 18) (by assumption) rfl (by assumption) (by assumption) d_S_countChildren_18 ?_
      refine ev_iload_n (pc := 19) d_S_countChildren_19 rfl rfl ?_
      refine ev_aload_n (pc := 20) d_S_countChildren_20 rfl rfl (by first | rfl | exact mm_rk_rf _) ?_
      refine ev_cV (pc := 21) (ct_B_isNodeOf E C s3 hb9 ht) cl_S_47 jv_B_isNodeOf ⟨(Nat.le_of_ble_eq_true rfl), (Nat.le_of_ble_eq_true rfl)⟩ rfl (by assumption) rfl (Nat.le_of_ble_eq_true rfl) d_S_countChildren_21 ⟨Nat.zero_le _, Nat.zero_le _⟩ ?_
      refine ev_if_eq (pc := 24) (tgt := 30) d_S_countChildren_24 (by decide) (fun hb => ?_) (fun hb => ?_)
      · rw [b2_0] at hb
        have h9 : so_kid C t (C b 2) i = false := by simpa [so_kid] using hb
        refine ev_iinc (pc := 30) d_S_countChildren_30 (Nat.le_of_ble_eq_true rfl) rfl (nx_inc _) rfl ?_
        try dsimp only [List.set]
        refine ev_goto (pc := 33) (tgt := 5) d_S_countChildren_33 (by decide) ?_
        have h1 := ih (i + 1) k (by omega) (by omega)
        simp only [fx_c, h9]
        simpa using h1
      · rw [b2_0, Classical.not_not] at hb
        have h9 : so_kid C t (C b 2) i = true := by simpa [so_kid] using hb
        refine ev_iinc (pc := 27) d_S_countChildren_27 (Nat.le_of_ble_eq_true rfl) rfl (nx_inc _) rfl ?_
        try dsimp only [List.set]
        refine ev_iinc (pc := 30) d_S_countChildren_30 (Nat.le_of_ble_eq_true rfl) rfl (nx_inc _) rfl ?_
        try dsimp only [List.set]
        refine ev_goto (pc := 33) (tgt := 5) d_S_countChildren_33 (by decide) ?_
        have h1 := ih (i + 1) (k + 1) (by omega) (by omega)
        simp only [fx_c, h9]
        rw [Nat.add_assoc] at h1
        simpa using h1
  refine mm_mtL (by decide) (by rfl) (Nat.le_of_ble_eq_true rfl) rfl ?_
  refine ev_iconst (pc := 0) (v := 0) d_S_countChildren_0 rfl ?_
  refine ev_istore_n (pc := 1) d_S_countChildren_1 rfl (Nat.le_of_ble_eq_true rfl) rfl ?_
  try dsimp only [List.set]
  refine ev_iconst (pc := 2) (v := 0) d_S_countChildren_2 rfl ?_
  refine ev_istore (pc := 3) d_S_countChildren_3 (Nat.le_of_ble_eq_true rfl) rfl ?_
  try dsimp only [List.set]
  have h1 := loop 64 0 0 (by omega) (by omega)
  rw [Nat.zero_add] at h1
  exact h1
def so_fr (C : Nat → Nat → Int32) : Option Nat := fx_f (fun i => decide (C (bk i) 1 = 0)) 64 0
theorem d_S_freeBlock_0 : decode b_S_freeBlock 0 = .ok (.iconst 0, 1) := by decide +kernel
theorem d_S_freeBlock_1 : decode b_S_freeBlock 1 = .ok (.istore_n 1, 1) := by decide +kernel
theorem d_S_freeBlock_2 : decode b_S_freeBlock 2 = .ok (.iload_n 1, 1) := by decide +kernel
theorem d_S_freeBlock_3 : decode b_S_freeBlock 3 = .ok (.bipush 64, 2) := by decide +kernel
theorem d_S_freeBlock_5 : decode b_S_freeBlock 5 = .ok (.if_icmp .ge 28, 3) := by decide +kernel
theorem d_S_freeBlock_8 : decode b_S_freeBlock 8 = .ok (.aload_n 0, 1) := by decide +kernel
theorem d_S_freeBlock_9 : decode b_S_freeBlock 9 = .ok (.getfield 11, 3) := by decide +kernel
theorem d_S_freeBlock_12 : decode b_S_freeBlock 12 = .ok (.iload_n 1, 1) := by decide +kernel
theorem d_S_freeBlock_13 : decode b_S_freeBlock 13 = .ok (.aaload, 1) := by decide +kernel
theorem d_S_freeBlock_14 : decode b_S_freeBlock 14 = .ok (.getfield 30, 3) := by decide +kernel
theorem d_S_freeBlock_17 : decode b_S_freeBlock 17 = .ok (.ifCond .ne 10, 3) := by decide +kernel
theorem d_S_freeBlock_20 : decode b_S_freeBlock 20 = .ok (.aload_n 0, 1) := by decide +kernel
theorem d_S_freeBlock_21 : decode b_S_freeBlock 21 = .ok (.getfield 11, 3) := by decide +kernel
theorem d_S_freeBlock_24 : decode b_S_freeBlock 24 = .ok (.iload_n 1, 1) := by decide +kernel
theorem d_S_freeBlock_25 : decode b_S_freeBlock 25 = .ok (.aaload, 1) := by decide +kernel
theorem d_S_freeBlock_26 : decode b_S_freeBlock 26 = .ok (.areturn, 1) := by decide +kernel
theorem d_S_freeBlock_27 : decode b_S_freeBlock 27 = .ok (.iinc 1 1, 3) := by decide +kernel
theorem d_S_freeBlock_30 : decode b_S_freeBlock 30 = .ok (.goto (-28), 3) := by decide +kernel
theorem d_S_freeBlock_33 : decode b_S_freeBlock 33 = .ok (.aconst_null, 1) := by decide +kernel
theorem d_S_freeBlock_34 : decode b_S_freeBlock 34 = .ok (.areturn, 1) := by decide +kernel
set_option maxRecDepth 20000 in
theorem ct_S_freeBlock (E : mm_En) (C : Nat → Nat → Int32) : mm_MT E K_S_freeBlock [.ref 1] (hp_H C) (mm_D (some (va_rf ((so_fr C).map bk))) C) := by
  have s1 := sh_S
  have s2 := sh_pool
  have loop : ∀ d i : Nat, i + d = 64 → ev_At E K_S_freeBlock 2 [some (.ref 1), some (.int (nI i))] [] (hp_H C) 0 0 (mm_D (some (va_rf ((fx_f (fun i => decide (C (bk i) 1 = 0)) d i).map bk))) C) := by
    intro d
    induction d with
    | zero =>
      intro i hi
      have hi8 : i = 64 := by omega
      subst hi8
      refine ev_iload_n (pc := 2) d_S_freeBlock_2 rfl rfl ?_
      refine ev_bipush (pc := 3) (v := 64) d_S_freeBlock_3 (by decide) ?_
      refine ev_icmp_ge (pc := 5) (tgt := 33) d_S_freeBlock_5 (by decide) (fun ha => ?_) (fun ha => ?_)
      · refine ev_null (pc := 33) d_S_freeBlock_33 ?_
        exact ev_aret (pc := 34) d_S_freeBlock_34 ⟨_, rfl⟩ (by first | rfl | exact mm_rk_rf _) (Nat.zero_le _) (Nat.zero_le _) ⟨rfl, rfl⟩
      · exact absurd (show nI 64 ≤ nI 64 from Int32.le_refl _) ha
    | succ d ih =>
      intro i hi
      have hin : vp_in (nI i) 64 := vp_in_nI (by omega) (by decide)
      have hpl := bk_p (i := i) (by omega)
      have s3 := bk_s (i := i) (by omega)
      refine ev_iload_n (pc := 2) d_S_freeBlock_2 rfl rfl ?_
      refine ev_bipush (pc := 3) (v := 64) d_S_freeBlock_3 (by decide) ?_
      refine ev_icmp_ge (pc := 5) (tgt := 33) d_S_freeBlock_5 (by decide) (fun ha => ?_) (fun ha => ?_)
      · exact absurd ha (nI_ge (show i < 64 by omega) (by decide))
      refine ev_aload_n (pc := 8) d_S_freeBlock_8 rfl rfl (by first | rfl | exact mm_rk_rf _) ?_
      refine ev_gR (pc := 9) (by assumption) (by rfl) fl_S_11 d_S_freeBlock_9 ?_
      refine ev_iload_n (pc := 12) d_S_freeBlock_12 rfl rfl ?_
      refine ev_rR (pc := 13) (by assumption) rfl (by assumption) (by assumption) d_S_freeBlock_13 ?_
      refine ev_gI (pc := 14) (by assumption) (by rfl) fl_S_30 d_S_freeBlock_14 ?_
      refine ev_if_ne (pc := 17) (tgt := 27) d_S_freeBlock_17 (by decide) (fun hb => ?_) (fun hb => ?_)
      · refine ev_iinc (pc := 27) d_S_freeBlock_27 (Nat.le_of_ble_eq_true rfl) rfl (nx_inc _) rfl ?_
        try dsimp only [List.set]
        refine ev_goto (pc := 30) (tgt := 2) d_S_freeBlock_30 (by decide) ?_
        have h1 := ih (i + 1) (by omega)
        simp only [fx_f, hb]
        simpa using h1
      refine ev_aload_n (pc := 20) d_S_freeBlock_20 rfl rfl (by first | rfl | exact mm_rk_rf _) ?_
      refine ev_gR (pc := 21) (by assumption) (by rfl) fl_S_11 d_S_freeBlock_21 ?_
      refine ev_iload_n (pc := 24) d_S_freeBlock_24 rfl rfl ?_
      refine ev_rR (pc := 25) (by assumption) rfl (by assumption) (by assumption) d_S_freeBlock_25 ?_
      exact ev_aret (pc := 26) d_S_freeBlock_26 ⟨_, rfl⟩ (by first | rfl | exact mm_rk_rf _) (Nat.zero_le _) (Nat.zero_le _) ⟨by simp [fx_f, hb, va_rf], rfl⟩
  refine mm_mtL (by decide) (by rfl) (Nat.le_of_ble_eq_true rfl) rfl ?_
  refine ev_iconst (pc := 0) (v := 0) d_S_freeBlock_0 rfl ?_
  refine ev_istore_n (pc := 1) d_S_freeBlock_1 rfl (Nat.le_of_ble_eq_true rfl) rfl ?_
  try dsimp only [List.set]
  exact loop 64 0 (by omega)
/-- tree t is made the same as tree f, for the blocks below n -/
def so_ct (C : Nat → Nat → Int32) (f t n : Nat) : Nat → Nat → Int32 := fun a j => if j = 1 ∧ 3 ≤ a ∧ a < 3 + 2 * n ∧ a % 2 = 1 then (if bt (C a 1) f = true then C a 1 ||| ((1 : Int32) <<< (nI t &&& 31)) else C a 1 &&& (((1 : Int32) <<< (nI t &&& 31)) ^^^ (-1))) else C a j
theorem d_S_copyTree_0 : decode b_S_copyTree 0 = .ok (.iconst 0, 1) := by decide +kernel
theorem d_S_copyTree_1 : decode b_S_copyTree 1 = .ok (.istore_n 3, 1) := by decide +kernel
theorem d_S_copyTree_2 : decode b_S_copyTree 2 = .ok (.iload_n 3, 1) := by decide +kernel
theorem d_S_copyTree_3 : decode b_S_copyTree 3 = .ok (.bipush 64, 2) := by decide +kernel
theorem d_S_copyTree_5 : decode b_S_copyTree 5 = .ok (.if_icmp .ge 45, 3) := by decide +kernel
theorem d_S_copyTree_8 : decode b_S_copyTree 8 = .ok (.aload_n 0, 1) := by decide +kernel
theorem d_S_copyTree_9 : decode b_S_copyTree 9 = .ok (.getfield 11, 3) := by decide +kernel
theorem d_S_copyTree_12 : decode b_S_copyTree 12 = .ok (.iload_n 3, 1) := by decide +kernel
theorem d_S_copyTree_13 : decode b_S_copyTree 13 = .ok (.aaload, 1) := by decide +kernel
theorem d_S_copyTree_14 : decode b_S_copyTree 14 = .ok (.iload_n 1, 1) := by decide +kernel
theorem d_S_copyTree_15 : decode b_S_copyTree 15 = .ok (.invokevirtual 51, 3) := by decide +kernel
theorem d_S_copyTree_18 : decode b_S_copyTree 18 = .ok (.ifCond .eq 16, 3) := by decide +kernel
theorem d_S_copyTree_21 : decode b_S_copyTree 21 = .ok (.aload_n 0, 1) := by decide +kernel
theorem d_S_copyTree_22 : decode b_S_copyTree 22 = .ok (.getfield 11, 3) := by decide +kernel
theorem d_S_copyTree_25 : decode b_S_copyTree 25 = .ok (.iload_n 3, 1) := by decide +kernel
theorem d_S_copyTree_26 : decode b_S_copyTree 26 = .ok (.aaload, 1) := by decide +kernel
theorem d_S_copyTree_27 : decode b_S_copyTree 27 = .ok (.iload_n 2, 1) := by decide +kernel
theorem d_S_copyTree_28 : decode b_S_copyTree 28 = .ok (.invokevirtual 22, 3) := by decide +kernel
theorem d_S_copyTree_31 : decode b_S_copyTree 31 = .ok (.goto 13, 3) := by decide +kernel
theorem d_S_copyTree_34 : decode b_S_copyTree 34 = .ok (.aload_n 0, 1) := by decide +kernel
theorem d_S_copyTree_35 : decode b_S_copyTree 35 = .ok (.getfield 11, 3) := by decide +kernel
theorem d_S_copyTree_38 : decode b_S_copyTree 38 = .ok (.iload_n 3, 1) := by decide +kernel
theorem d_S_copyTree_39 : decode b_S_copyTree 39 = .ok (.aaload, 1) := by decide +kernel
theorem d_S_copyTree_40 : decode b_S_copyTree 40 = .ok (.iload_n 2, 1) := by decide +kernel
theorem d_S_copyTree_41 : decode b_S_copyTree 41 = .ok (.invokevirtual 92, 3) := by decide +kernel
theorem d_S_copyTree_44 : decode b_S_copyTree 44 = .ok (.iinc 3 1, 3) := by decide +kernel
theorem d_S_copyTree_47 : decode b_S_copyTree 47 = .ok (.goto (-45), 3) := by decide +kernel
theorem d_S_copyTree_50 : decode b_S_copyTree 50 = .ok (.return_, 1) := by decide +kernel
set_option maxHeartbeats 2000000 in
set_option maxRecDepth 20000 in
theorem ct_S_copyTree (E : mm_En) (C : Nat → Nat → Int32) {f t : Nat} (hf : f < 32) : mm_MT E K_S_copyTree [.ref 1, .int (nI f), .int (nI t)] (hp_H C) (mm_D none (so_ct C f t 64)) := by
  have s1 := sh_S
  have s2 := sh_pool
  have loop : ∀ d i : Nat, i + d = 64 → ev_At E K_S_copyTree 2 [some (.ref 1), some (.int (nI f)), some (.int (nI t)), some (.int (nI i))] [] (hp_H (so_ct C f t i)) 0 0 (mm_D none (so_ct C f t 64)) := by
    intro d
    induction d with
    | zero =>
      intro i hi
      have hi8 : i = 64 := by omega
      subst hi8
      refine ev_iload_n (pc := 2) d_S_copyTree_2 rfl rfl ?_
      refine ev_bipush (pc := 3) (v := 64) d_S_copyTree_3 (by decide) ?_
      refine ev_icmp_ge (pc := 5) (tgt := 50) d_S_copyTree_5 (by decide) (fun ha => ?_) (fun ha => ?_)
      · exact ev_vret (pc := 50) d_S_copyTree_50 rfl (Nat.zero_le _) (Nat.zero_le _) ⟨rfl, rfl⟩
      · exact absurd (show nI 64 ≤ nI 64 from Int32.le_refl _) ha
    | succ d ih =>
      intro i hi
      have hin : vp_in (nI i) 64 := vp_in_nI (by omega) (by decide)
      have hpl := bk_p (i := i) (by omega)
      have s3 := bk_s (i := i) (by omega)
      have e1 : so_ct C f t i (bk i) 1 = C (bk i) 1 := by
        simp [so_ct, bk]
      refine ev_iload_n (pc := 2) d_S_copyTree_2 rfl rfl ?_
      refine ev_bipush (pc := 3) (v := 64) d_S_copyTree_3 (by decide) ?_
      refine ev_icmp_ge (pc := 5) (tgt := 50) d_S_copyTree_5 (by decide) (fun ha => ?_) (fun ha => ?_)
      · exact absurd ha (nI_ge (show i < 64 by omega) (by decide))
      refine ev_aload_n (pc := 8) d_S_copyTree_8 rfl rfl (by first | rfl | exact mm_rk_rf _) ?_
      refine ev_gR (pc := 9) (by assumption) (by rfl) fl_S_11 d_S_copyTree_9 ?_
      refine ev_iload_n (pc := 12) d_S_copyTree_12 rfl rfl ?_
      refine ev_rR (pc := 13) (by assumption) rfl (by assumption) (by assumption) d_S_copyTree_13 ?_
      refine ev_iload_n (pc := 14) d_S_copyTree_14 rfl rfl ?_
      refine ev_cV (pc := 15) (ct_B_isIn E (so_ct C f t i) s3 hf) cl_S_51 jv_B_isIn ⟨(Nat.le_of_ble_eq_true rfl), (Nat.le_of_ble_eq_true rfl)⟩ rfl (by assumption) rfl (Nat.le_of_ble_eq_true rfl) d_S_copyTree_15 ⟨Nat.zero_le _, Nat.zero_le _⟩ ?_
      rw [e1]
      refine ev_if_eq (pc := 18) (tgt := 34) d_S_copyTree_18 (by decide) (fun hb => ?_) (fun hb => ?_)
      · rw [b2_0] at hb
        have e2 : bl_lv (so_ct C f t i) (bk i) t = so_ct C f t (i + 1) := by
          funext a j
          simp only [bl_lv, cs_app, e1]
          by_cases h9 : a = bk i ∧ j = 1
          · rw [if_pos h9, h9.1, h9.2]
            simp only [so_ct]
            have hbk : bk i = 3 + 2 * i := rfl
            rw [if_pos (show True ∧ 3 ≤ bk i ∧ bk i < 3 + 2 * (i + 1) ∧ bk i % 2 = 1 from ⟨trivial, by omega, by omega, by omega⟩), if_neg hb]
          · rw [if_neg h9]
            simp only [so_ct]
            grind
        have hM := ct_B_leave E (so_ct C f t i) s3 t
        rw [e2] at hM
        refine ev_aload_n (pc := 34) d_S_copyTree_34 rfl rfl (by first | rfl | exact mm_rk_rf _) ?_
        refine ev_gR (pc := 35) (by assumption) (by rfl) fl_S_11 d_S_copyTree_35 ?_
        refine ev_iload_n (pc := 38) d_S_copyTree_38 rfl rfl ?_
        refine ev_rR (pc := 39) (by assumption) rfl (by assumption) (by assumption) d_S_copyTree_39 ?_
        refine ev_iload_n (pc := 40) d_S_copyTree_40 rfl rfl ?_
        refine ev_cVv (pc := 41) hM cl_S_92 jv_B_leave ⟨(Nat.le_of_ble_eq_true rfl), (Nat.le_of_ble_eq_true rfl)⟩ rfl (by assumption) rfl (Nat.le_of_ble_eq_true rfl) d_S_copyTree_41 ⟨Nat.zero_le _, Nat.zero_le _⟩ ?_
        refine ev_iinc (pc := 44) d_S_copyTree_44 (Nat.le_of_ble_eq_true rfl) rfl (nx_inc _) rfl ?_
        try dsimp only [List.set]
        refine ev_goto (pc := 47) (tgt := 2) d_S_copyTree_47 (by decide) ?_
        exact ih (i + 1) (by omega)
      · rw [b2_0, Classical.not_not] at hb
        have e2 : bl_ent (so_ct C f t i) (bk i) t = so_ct C f t (i + 1) := by
          funext a j
          simp only [bl_ent, cs_app, e1]
          by_cases h9 : a = bk i ∧ j = 1
          · rw [if_pos h9, h9.1, h9.2]
            simp only [so_ct]
            have hbk : bk i = 3 + 2 * i := rfl
            rw [if_pos (show True ∧ 3 ≤ bk i ∧ bk i < 3 + 2 * (i + 1) ∧ bk i % 2 = 1 from ⟨trivial, by omega, by omega, by omega⟩), if_pos hb]
          · rw [if_neg h9]
            simp only [so_ct]
            grind
        have hM := ct_B_enter E (so_ct C f t i) s3 t
        rw [e2] at hM
        refine ev_aload_n (pc := 21) d_S_copyTree_21 rfl rfl (by first | rfl | exact mm_rk_rf _) ?_
        refine ev_gR (pc := 22) (by assumption) (by rfl) fl_S_11 d_S_copyTree_22 ?_
        refine ev_iload_n (pc := 25) d_S_copyTree_25 rfl rfl ?_
        refine ev_rR (pc := 26) (by assumption) rfl (by assumption) (by assumption) d_S_copyTree_26 ?_
        refine ev_iload_n (pc := 27) d_S_copyTree_27 rfl rfl ?_
        refine ev_cVv (pc := 28) hM cl_S_22 jv_B_enter ⟨(Nat.le_of_ble_eq_true rfl), (Nat.le_of_ble_eq_true rfl)⟩ rfl (by assumption) rfl (Nat.le_of_ble_eq_true rfl) d_S_copyTree_28 ⟨Nat.zero_le _, Nat.zero_le _⟩ ?_
        refine ev_goto (pc := 31) (tgt := 44) d_S_copyTree_31 (by decide) ?_
        refine ev_iinc (pc := 44) d_S_copyTree_44 (Nat.le_of_ble_eq_true rfl) rfl (nx_inc _) rfl ?_
        try dsimp only [List.set]
        refine ev_goto (pc := 47) (tgt := 2) d_S_copyTree_47 (by decide) ?_
        exact ih (i + 1) (by omega)
  have e0 : C = so_ct C f t 0 := by
    funext a j
    simp only [so_ct]
    grind
  refine mm_mtL (by decide) (by rfl) (Nat.le_of_ble_eq_true rfl) rfl ?_
  refine ev_iconst (pc := 0) (v := 0) d_S_copyTree_0 rfl ?_
  refine ev_istore_n (pc := 1) d_S_copyTree_1 rfl (Nat.le_of_ble_eq_true rfl) rfl ?_
  try dsimp only [List.set]
  have h1 := loop 64 0 (by omega)
  rw [← e0] at h1
  exact h1
