/-! Blocks: copying, lengths, bytes. -/
/-- block b has what block o has; of the bytes those below k -/
def bl_cp (C : Nat → Nat → Int32) (b o k : Nat) : Nat → Nat → Int32 := fun i j => if i = b ∧ 2 ≤ j ∧ j ≤ 9 then C o j else if i = b + 1 ∧ j < k then C (o + 1) j else C i j
theorem d_B_copyNodeFrom_0 : decode b_B_copyNodeFrom 0 = .ok (.aload_n 0, 1) := by decide +kernel
theorem d_B_copyNodeFrom_1 : decode b_B_copyNodeFrom 1 = .ok (.aload_n 1, 1) := by decide +kernel
theorem d_B_copyNodeFrom_2 : decode b_B_copyNodeFrom 2 = .ok (.getfield 29, 3) := by decide +kernel
theorem d_B_copyNodeFrom_5 : decode b_B_copyNodeFrom 5 = .ok (.putfield 29, 3) := by decide +kernel
theorem d_B_copyNodeFrom_8 : decode b_B_copyNodeFrom 8 = .ok (.aload_n 0, 1) := by decide +kernel
theorem d_B_copyNodeFrom_9 : decode b_B_copyNodeFrom 9 = .ok (.aload_n 1, 1) := by decide +kernel
theorem d_B_copyNodeFrom_10 : decode b_B_copyNodeFrom 10 = .ok (.getfield 26, 3) := by decide +kernel
theorem d_B_copyNodeFrom_13 : decode b_B_copyNodeFrom 13 = .ok (.putfield 26, 3) := by decide +kernel
theorem d_B_copyNodeFrom_16 : decode b_B_copyNodeFrom 16 = .ok (.aload_n 0, 1) := by decide +kernel
theorem d_B_copyNodeFrom_17 : decode b_B_copyNodeFrom 17 = .ok (.aload_n 1, 1) := by decide +kernel
theorem d_B_copyNodeFrom_18 : decode b_B_copyNodeFrom 18 = .ok (.getfield 32, 3) := by decide +kernel
theorem d_B_copyNodeFrom_21 : decode b_B_copyNodeFrom 21 = .ok (.putfield 32, 3) := by decide +kernel
theorem d_B_copyNodeFrom_24 : decode b_B_copyNodeFrom 24 = .ok (.aload_n 0, 1) := by decide +kernel
theorem d_B_copyNodeFrom_25 : decode b_B_copyNodeFrom 25 = .ok (.aload_n 1, 1) := by decide +kernel
theorem d_B_copyNodeFrom_26 : decode b_B_copyNodeFrom 26 = .ok (.getfield 35, 3) := by decide +kernel
theorem d_B_copyNodeFrom_29 : decode b_B_copyNodeFrom 29 = .ok (.putfield 35, 3) := by decide +kernel
theorem d_B_copyNodeFrom_32 : decode b_B_copyNodeFrom 32 = .ok (.aload_n 0, 1) := by decide +kernel
theorem d_B_copyNodeFrom_33 : decode b_B_copyNodeFrom 33 = .ok (.aload_n 1, 1) := by decide +kernel
theorem d_B_copyNodeFrom_34 : decode b_B_copyNodeFrom 34 = .ok (.getfield 38, 3) := by decide +kernel
theorem d_B_copyNodeFrom_37 : decode b_B_copyNodeFrom 37 = .ok (.putfield 38, 3) := by decide +kernel
theorem d_B_copyNodeFrom_40 : decode b_B_copyNodeFrom 40 = .ok (.aload_n 0, 1) := by decide +kernel
theorem d_B_copyNodeFrom_41 : decode b_B_copyNodeFrom 41 = .ok (.aload_n 1, 1) := by decide +kernel
theorem d_B_copyNodeFrom_42 : decode b_B_copyNodeFrom 42 = .ok (.getfield 41, 3) := by decide +kernel
theorem d_B_copyNodeFrom_45 : decode b_B_copyNodeFrom 45 = .ok (.putfield 41, 3) := by decide +kernel
theorem d_B_copyNodeFrom_48 : decode b_B_copyNodeFrom 48 = .ok (.aload_n 0, 1) := by decide +kernel
theorem d_B_copyNodeFrom_49 : decode b_B_copyNodeFrom 49 = .ok (.aload_n 1, 1) := by decide +kernel
theorem d_B_copyNodeFrom_50 : decode b_B_copyNodeFrom 50 = .ok (.getfield 19, 3) := by decide +kernel
theorem d_B_copyNodeFrom_53 : decode b_B_copyNodeFrom 53 = .ok (.putfield 19, 3) := by decide +kernel
theorem d_B_copyNodeFrom_56 : decode b_B_copyNodeFrom 56 = .ok (.aload_n 0, 1) := by decide +kernel
theorem d_B_copyNodeFrom_57 : decode b_B_copyNodeFrom 57 = .ok (.aload_n 1, 1) := by decide +kernel
theorem d_B_copyNodeFrom_58 : decode b_B_copyNodeFrom 58 = .ok (.getfield 44, 3) := by decide +kernel
theorem d_B_copyNodeFrom_61 : decode b_B_copyNodeFrom 61 = .ok (.putfield 44, 3) := by decide +kernel
theorem d_B_copyNodeFrom_64 : decode b_B_copyNodeFrom 64 = .ok (.iconst 0, 1) := by decide +kernel
theorem d_B_copyNodeFrom_65 : decode b_B_copyNodeFrom 65 = .ok (.istore_n 2, 1) := by decide +kernel
theorem d_B_copyNodeFrom_66 : decode b_B_copyNodeFrom 66 = .ok (.iload_n 2, 1) := by decide +kernel
theorem d_B_copyNodeFrom_67 : decode b_B_copyNodeFrom 67 = .ok (.bipush 16, 2) := by decide +kernel
theorem d_B_copyNodeFrom_69 : decode b_B_copyNodeFrom 69 = .ok (.if_icmp .ge 21, 3) := by decide +kernel
theorem d_B_copyNodeFrom_72 : decode b_B_copyNodeFrom 72 = .ok (.aload_n 0, 1) := by decide +kernel
theorem d_B_copyNodeFrom_73 : decode b_B_copyNodeFrom 73 = .ok (.getfield 9, 3) := by decide +kernel
theorem d_B_copyNodeFrom_76 : decode b_B_copyNodeFrom 76 = .ok (.iload_n 2, 1) := by decide +kernel
theorem d_B_copyNodeFrom_77 : decode b_B_copyNodeFrom 77 = .ok (.aload_n 1, 1) := by decide +kernel
theorem d_B_copyNodeFrom_78 : decode b_B_copyNodeFrom 78 = .ok (.getfield 9, 3) := by decide +kernel
theorem d_B_copyNodeFrom_81 : decode b_B_copyNodeFrom 81 = .ok (.iload_n 2, 1) := by decide +kernel
theorem d_B_copyNodeFrom_82 : decode b_B_copyNodeFrom 82 = .ok (.iaload, 1) := by decide +kernel
theorem d_B_copyNodeFrom_83 : decode b_B_copyNodeFrom 83 = .ok (.iastore, 1) := by decide +kernel
theorem d_B_copyNodeFrom_84 : decode b_B_copyNodeFrom 84 = .ok (.iinc 2 1, 3) := by decide +kernel
theorem d_B_copyNodeFrom_87 : decode b_B_copyNodeFrom 87 = .ok (.goto (-21), 3) := by decide +kernel
theorem d_B_copyNodeFrom_90 : decode b_B_copyNodeFrom 90 = .ok (.return_, 1) := by decide +kernel
set_option maxHeartbeats 2000000 in
set_option maxRecDepth 20000 in
theorem ct_B_copyNodeFrom (E : mm_En) (C : Nat → Nat → Int32) {b o : Nat} (hs : bl_s b) (ha : bl_a b) (ho : bl_s o) (hb : bl_a o) (hne : o ≠ b ∧ o ≠ b + 1 ∧ o + 1 ≠ b) : mm_MT E K_B_copyNodeFrom [.ref b, .ref o] (hp_H C) (mm_D none (bl_cp C b o 16)) := by
  obtain ⟨n1, n2, n3⟩ := hne
  have loop : ∀ d i : Nat, i + d = 16 → ev_At E K_B_copyNodeFrom 66 [some (.ref b), some (.ref o), some (.int (nI i))] [] (hp_H (bl_cp C b o i)) 0 0 (mm_D none (bl_cp C b o 16)) := by
    intro d
    induction d with
    | zero =>
      intro i hi
      have hi16 : i = 16 := by omega
      subst hi16
      refine ev_iload_n (pc := 66) d_B_copyNodeFrom_66 rfl rfl ?_
      refine ev_bipush (pc := 67) (v := 16) d_B_copyNodeFrom_67 (by decide) ?_
      refine ev_icmp_ge (pc := 69) (tgt := 90) d_B_copyNodeFrom_69 (by decide) (fun hc => ?_) (fun hc => ?_)
      · exact ev_vret (pc := 90) d_B_copyNodeFrom_90 rfl (Nat.zero_le _) (Nat.zero_le _) ⟨rfl, rfl⟩
      · exact absurd (show nI 16 ≤ nI 16 from Int32.le_refl _) hc
    | succ d ih =>
      intro i hi
      have hin : vp_in (nI i) 16 := vp_in_nI (by omega) (by decide)
      have hcl : (nI i).toNatClampNeg = i := nI_clamp (by omega)
      refine ev_iload_n (pc := 66) d_B_copyNodeFrom_66 rfl rfl ?_
      refine ev_bipush (pc := 67) (v := 16) d_B_copyNodeFrom_67 (by decide) ?_
      refine ev_icmp_ge (pc := 69) (tgt := 90) d_B_copyNodeFrom_69 (by decide) (fun hc => ?_) (fun hc => ?_)
      · exact absurd hc (nI_ge (show i < 16 by omega) (by decide))
      refine ev_aload_n (pc := 72) d_B_copyNodeFrom_72 rfl rfl (by first | rfl | exact mm_rk_rf _) ?_
      refine ev_gR (pc := 73) (by assumption) (by rfl) fl_B_9 d_B_copyNodeFrom_73 ?_
      refine ev_iload_n (pc := 76) d_B_copyNodeFrom_76 rfl rfl ?_
      refine ev_aload_n (pc := 77) d_B_copyNodeFrom_77 rfl rfl (by first | rfl | exact mm_rk_rf _) ?_
      refine ev_gR (pc := 78) (by assumption) (by rfl) fl_B_9 d_B_copyNodeFrom_78 ?_
      refine ev_iload_n (pc := 81) d_B_copyNodeFrom_81 rfl rfl ?_
      refine ev_rI (pc := 82) (by assumption) (by assumption) d_B_copyNodeFrom_82 ?_
      rw [hcl]
      refine ev_wI (pc := 83) (by assumption) (by assumption) d_B_copyNodeFrom_83 ?_
      rw [hcl]
      have e : cs_C (bl_cp C b o i) (b + 1) i (bl_cp C b o i (o + 1) i) = bl_cp C b o (i + 1) := by
        funext a j
        simp only [cs_app, bl_cp]
        grind
      rw [e]
      refine ev_iinc (pc := 84) d_B_copyNodeFrom_84 (Nat.le_of_ble_eq_true rfl) rfl (nx_inc _) rfl ?_
      try dsimp only [List.set]
      refine ev_goto (pc := 87) (tgt := 66) d_B_copyNodeFrom_87 (by decide) ?_
      exact ih (i + 1) (by omega)
  refine mm_mtL (by decide) (by rfl) (Nat.le_of_ble_eq_true rfl) rfl ?_
  refine ev_aload_n (pc := 0) d_B_copyNodeFrom_0 rfl rfl (by first | rfl | exact mm_rk_rf _) ?_
  refine ev_aload_n (pc := 1) d_B_copyNodeFrom_1 rfl rfl (by first | rfl | exact mm_rk_rf _) ?_
  refine ev_gI (pc := 2) (by assumption) (by rfl) fl_B_29 d_B_copyNodeFrom_2 ?_
  refine ev_pI (pc := 5) (by assumption) (by rfl) fl_B_29 fw_0_2 (by rfl) d_B_copyNodeFrom_5 ?_
  refine ev_aload_n (pc := 8) d_B_copyNodeFrom_8 rfl rfl (by first | rfl | exact mm_rk_rf _) ?_
  refine ev_aload_n (pc := 9) d_B_copyNodeFrom_9 rfl rfl (by first | rfl | exact mm_rk_rf _) ?_
  refine ev_gI (pc := 10) (by assumption) (by rfl) fl_B_26 d_B_copyNodeFrom_10 ?_
  refine ev_pI (pc := 13) (by assumption) (by rfl) fl_B_26 fw_0_3 (by rfl) d_B_copyNodeFrom_13 ?_
  refine ev_aload_n (pc := 16) d_B_copyNodeFrom_16 rfl rfl (by first | rfl | exact mm_rk_rf _) ?_
  refine ev_aload_n (pc := 17) d_B_copyNodeFrom_17 rfl rfl (by first | rfl | exact mm_rk_rf _) ?_
  refine ev_gI (pc := 18) (by assumption) (by rfl) fl_B_32 d_B_copyNodeFrom_18 ?_
  refine ev_pI (pc := 21) (by assumption) (by rfl) fl_B_32 fw_0_4 (by rfl) d_B_copyNodeFrom_21 ?_
  refine ev_aload_n (pc := 24) d_B_copyNodeFrom_24 rfl rfl (by first | rfl | exact mm_rk_rf _) ?_
  refine ev_aload_n (pc := 25) d_B_copyNodeFrom_25 rfl rfl (by first | rfl | exact mm_rk_rf _) ?_
  refine ev_gI (pc := 26) (by assumption) (by rfl) fl_B_35 d_B_copyNodeFrom_26 ?_
  refine ev_pI (pc := 29) (by assumption) (by rfl) fl_B_35 fw_0_5 (by rfl) d_B_copyNodeFrom_29 ?_
  refine ev_aload_n (pc := 32) d_B_copyNodeFrom_32 rfl rfl (by first | rfl | exact mm_rk_rf _) ?_
  refine ev_aload_n (pc := 33) d_B_copyNodeFrom_33 rfl rfl (by first | rfl | exact mm_rk_rf _) ?_
  refine ev_gI (pc := 34) (by assumption) (by rfl) fl_B_38 d_B_copyNodeFrom_34 ?_
  refine ev_pI (pc := 37) (by assumption) (by rfl) fl_B_38 fw_0_6 (by rfl) d_B_copyNodeFrom_37 ?_
  refine ev_aload_n (pc := 40) d_B_copyNodeFrom_40 rfl rfl (by first | rfl | exact mm_rk_rf _) ?_
  refine ev_aload_n (pc := 41) d_B_copyNodeFrom_41 rfl rfl (by first | rfl | exact mm_rk_rf _) ?_
  refine ev_gI (pc := 42) (by assumption) (by rfl) fl_B_41 d_B_copyNodeFrom_42 ?_
  refine ev_pI (pc := 45) (by assumption) (by rfl) fl_B_41 fw_0_7 (by rfl) d_B_copyNodeFrom_45 ?_
  refine ev_aload_n (pc := 48) d_B_copyNodeFrom_48 rfl rfl (by first | rfl | exact mm_rk_rf _) ?_
  refine ev_aload_n (pc := 49) d_B_copyNodeFrom_49 rfl rfl (by first | rfl | exact mm_rk_rf _) ?_
  refine ev_gI (pc := 50) (by assumption) (by rfl) fl_B_19 d_B_copyNodeFrom_50 ?_
  refine ev_pI (pc := 53) (by assumption) (by rfl) fl_B_19 fw_0_8 (by rfl) d_B_copyNodeFrom_53 ?_
  refine ev_aload_n (pc := 56) d_B_copyNodeFrom_56 rfl rfl (by first | rfl | exact mm_rk_rf _) ?_
  refine ev_aload_n (pc := 57) d_B_copyNodeFrom_57 rfl rfl (by first | rfl | exact mm_rk_rf _) ?_
  refine ev_gI (pc := 58) (by assumption) (by rfl) fl_B_44 d_B_copyNodeFrom_58 ?_
  refine ev_pI (pc := 61) (by assumption) (by rfl) fl_B_44 fw_0_9 (by rfl) d_B_copyNodeFrom_61 ?_
  refine ev_eq rfl rfl rfl (congrArg hp_H (?_ : _ = bl_cp C b o 0)) rfl rfl ?_
  · clear loop
    funext a j
    simp only [cs_app, bl_cp]
    grind (splits := 40)
  refine ev_iconst (pc := 64) (v := 0) d_B_copyNodeFrom_64 rfl ?_
  refine ev_istore_n (pc := 65) d_B_copyNodeFrom_65 rfl (Nat.le_of_ble_eq_true rfl) rfl ?_
  try dsimp only [List.set]
  exact loop 16 0 rfl
/-- block b's length is k, the bytes between the old length l and k are zero -/
def bl_z (C : Nat → Nat → Int32) (b l k : Nat) : Nat → Nat → Int32 := fun i j => if i = b + 1 ∧ l ≤ j ∧ j < k then 0 else C i j
def bl_sl (C : Nat → Nat → Int32) (b l k : Nat) : Nat → Nat → Int32 := cs_C (bl_z C b l k) b 9 (nI k)
theorem d_B_setLength_0 : decode b_B_setLength 0 = .ok (.aload_n 0, 1) := by decide +kernel
theorem d_B_setLength_1 : decode b_B_setLength 1 = .ok (.getfield 44, 3) := by decide +kernel
theorem d_B_setLength_4 : decode b_B_setLength 4 = .ok (.istore_n 2, 1) := by decide +kernel
theorem d_B_setLength_5 : decode b_B_setLength 5 = .ok (.iload_n 2, 1) := by decide +kernel
theorem d_B_setLength_6 : decode b_B_setLength 6 = .ok (.iload_n 1, 1) := by decide +kernel
theorem d_B_setLength_7 : decode b_B_setLength 7 = .ok (.if_icmp .ge 22, 3) := by decide +kernel
theorem d_B_setLength_10 : decode b_B_setLength 10 = .ok (.iload_n 2, 1) := by decide +kernel
theorem d_B_setLength_11 : decode b_B_setLength 11 = .ok (.bipush 16, 2) := by decide +kernel
theorem d_B_setLength_13 : decode b_B_setLength 13 = .ok (.if_icmp .ge 16, 3) := by decide +kernel
theorem d_B_setLength_16 : decode b_B_setLength 16 = .ok (.aload_n 0, 1) := by decide +kernel
theorem d_B_setLength_17 : decode b_B_setLength 17 = .ok (.getfield 9, 3) := by decide +kernel
theorem d_B_setLength_20 : decode b_B_setLength 20 = .ok (.iload_n 2, 1) := by decide +kernel
theorem d_B_setLength_21 : decode b_B_setLength 21 = .ok (.iconst 0, 1) := by decide +kernel
theorem d_B_setLength_22 : decode b_B_setLength 22 = .ok (.iastore, 1) := by decide +kernel
theorem d_B_setLength_23 : decode b_B_setLength 23 = .ok (.iinc 2 1, 3) := by decide +kernel
theorem d_B_setLength_26 : decode b_B_setLength 26 = .ok (.goto (-21), 3) := by decide +kernel
theorem d_B_setLength_29 : decode b_B_setLength 29 = .ok (.aload_n 0, 1) := by decide +kernel
theorem d_B_setLength_30 : decode b_B_setLength 30 = .ok (.iload_n 1, 1) := by decide +kernel
theorem d_B_setLength_31 : decode b_B_setLength 31 = .ok (.putfield 44, 3) := by decide +kernel
theorem d_B_setLength_34 : decode b_B_setLength 34 = .ok (.return_, 1) := by decide +kernel
set_option maxHeartbeats 2000000 in
set_option maxRecDepth 20000 in
theorem ct_B_setLength (E : mm_En) (C : Nat → Nat → Int32) {b : Nat} (hs : bl_s b) (ha : bl_a b) {l k : Nat} (hl : C b 9 = nI l) (h1 : l ≤ 16) (h2 : k ≤ 16) : mm_MT E K_B_setLength [.ref b, .int (nI k)] (hp_H C) (mm_D none (bl_sl C b l k)) := by
  have loop : ∀ d i : Nat, k - i = d → l ≤ i → (i ≤ k ∨ i = l) → ev_At E K_B_setLength 5 [some (.ref b), some (.int (nI k)), some (.int (nI i))] [] (hp_H (bl_z C b l i)) 0 0 (mm_D none (bl_sl C b l k)) := by
    intro d
    induction d with
    | zero =>
      intro i hi hli hor
      refine ev_iload_n (pc := 5) d_B_setLength_5 rfl rfl ?_
      refine ev_iload_n (pc := 6) d_B_setLength_6 rfl rfl ?_
      refine ev_icmp_ge (pc := 7) (tgt := 29) d_B_setLength_7 (by decide) (fun hc => ?_) (fun hc => ?_)
      · refine ev_aload_n (pc := 29) d_B_setLength_29 rfl rfl (by first | rfl | exact mm_rk_rf _) ?_
        refine ev_iload_n (pc := 30) d_B_setLength_30 rfl rfl ?_
        refine ev_pI (pc := 31) (by assumption) (by rfl) fl_B_44 fw_0_9 (by rfl) d_B_setLength_31 ?_
        have e : cs_C (bl_z C b l i) b 9 (nI k) = bl_sl C b l k := by
          unfold bl_sl bl_z
          congr 1
          funext a j
          grind
        rw [e]
        exact ev_vret (pc := 34) d_B_setLength_34 rfl (Nat.zero_le _) (Nat.zero_le _) ⟨rfl, rfl⟩
      · exact absurd (nI_le (show k ≤ i by omega) (by omega)) hc
    | succ d ih =>
      intro i hi hli hor
      have hin : vp_in (nI i) 16 := vp_in_nI (by omega) (by decide)
      have hcl : (nI i).toNatClampNeg = i := nI_clamp (by omega)
      refine ev_iload_n (pc := 5) d_B_setLength_5 rfl rfl ?_
      refine ev_iload_n (pc := 6) d_B_setLength_6 rfl rfl ?_
      refine ev_icmp_ge (pc := 7) (tgt := 29) d_B_setLength_7 (by decide) (fun hc => ?_) (fun hc => ?_)
      · exact absurd hc (nI_ge (show i < k by omega) (by omega))
      refine ev_iload_n (pc := 10) d_B_setLength_10 rfl rfl ?_
      refine ev_bipush (pc := 11) (v := 16) d_B_setLength_11 (by decide) ?_
      refine ev_icmp_ge (pc := 13) (tgt := 29) d_B_setLength_13 (by decide) (fun hd => ?_) (fun hd => ?_)
      · exact absurd hd (nI_ge (show i < 16 by omega) (by decide))
      refine ev_aload_n (pc := 16) d_B_setLength_16 rfl rfl (by first | rfl | exact mm_rk_rf _) ?_
      refine ev_gR (pc := 17) (by assumption) (by rfl) fl_B_9 d_B_setLength_17 ?_
      refine ev_iload_n (pc := 20) d_B_setLength_20 rfl rfl ?_
      refine ev_iconst (pc := 21) (v := 0) d_B_setLength_21 rfl ?_
      refine ev_wI (pc := 22) (by assumption) (by assumption) d_B_setLength_22 ?_
      rw [hcl]
      have e : cs_C (bl_z C b l i) (b + 1) i 0 = bl_z C b l (i + 1) := by
        funext a j
        simp only [cs_app, bl_z]
        grind
      rw [e]
      refine ev_iinc (pc := 23) d_B_setLength_23 (Nat.le_of_ble_eq_true rfl) rfl (nx_inc _) rfl ?_
      try dsimp only [List.set]
      refine ev_goto (pc := 26) (tgt := 5) d_B_setLength_26 (by decide) ?_
      exact ih (i + 1) (by omega) (by omega) (Or.inl (by omega))
  have e0 : C = bl_z C b l l := by
    funext a j
    simp only [bl_z]
    grind
  refine mm_mtL (by decide) (by rfl) (Nat.le_of_ble_eq_true rfl) rfl ?_
  refine ev_aload_n (pc := 0) d_B_setLength_0 rfl rfl (by first | rfl | exact mm_rk_rf _) ?_
  refine ev_gI (pc := 1) (by assumption) (by rfl) fl_B_44 d_B_setLength_1 ?_
  rw [hl]
  refine ev_istore_n (pc := 4) d_B_setLength_4 rfl (Nat.le_of_ble_eq_true rfl) rfl ?_
  try dsimp only [List.set]
  have := loop (k - l) l rfl (Nat.le_refl _) (Or.inr rfl)
  rw [← e0] at this
  exact this
/-- k numbers of the row r, from its second on, go to the bytes of b from s on -/
def bl_w (C : Nat → Nat → Int32) (b r s k : Nat) : Nat → Nat → Int32 := fun i j => if i = b + 1 ∧ s ≤ j ∧ j < s + k then C (r + 1) (j - s + 1) else C i j
def bl_pb (C : Nat → Nat → Int32) (b r l s c : Nat) : Nat → Nat → Int32 := bl_w (bl_sl C b l (max l (s + c))) b r s c
theorem d_B_putBytes_0 : decode b_B_putBytes 0 = .ok (.aload_n 2, 1) := by decide +kernel
theorem d_B_putBytes_1 : decode b_B_putBytes 1 = .ok (.getfield 47, 3) := by decide +kernel
theorem d_B_putBytes_4 : decode b_B_putBytes 4 = .ok (.iconst 1, 1) := by decide +kernel
theorem d_B_putBytes_5 : decode b_B_putBytes 5 = .ok (.isub, 1) := by decide +kernel
theorem d_B_putBytes_6 : decode b_B_putBytes 6 = .ok (.istore_n 3, 1) := by decide +kernel
theorem d_B_putBytes_7 : decode b_B_putBytes 7 = .ok (.iload_n 1, 1) := by decide +kernel
theorem d_B_putBytes_8 : decode b_B_putBytes 8 = .ok (.ifCond .lt 11, 3) := by decide +kernel
theorem d_B_putBytes_11 : decode b_B_putBytes 11 = .ok (.iload_n 1, 1) := by decide +kernel
theorem d_B_putBytes_12 : decode b_B_putBytes 12 = .ok (.bipush 16, 2) := by decide +kernel
theorem d_B_putBytes_14 : decode b_B_putBytes 14 = .ok (.iload_n 3, 1) := by decide +kernel
theorem d_B_putBytes_15 : decode b_B_putBytes 15 = .ok (.isub, 1) := by decide +kernel
theorem d_B_putBytes_16 : decode b_B_putBytes 16 = .ok (.if_icmp .le 4, 3) := by decide +kernel
theorem d_B_putBytes_19 : decode b_B_putBytes 19 = .ok (.return_, 1) := by decide +kernel
theorem d_B_putBytes_20 : decode b_B_putBytes 20 = .ok (.aload_n 0, 1) := by decide +kernel
theorem d_B_putBytes_21 : decode b_B_putBytes 21 = .ok (.aload_n 0, 1) := by decide +kernel
theorem d_B_putBytes_22 : decode b_B_putBytes 22 = .ok (.getfield 44, 3) := by decide +kernel
theorem d_B_putBytes_25 : decode b_B_putBytes 25 = .ok (.iload_n 1, 1) := by decide +kernel
theorem d_B_putBytes_26 : decode b_B_putBytes 26 = .ok (.iload_n 3, 1) := by decide +kernel
theorem d_B_putBytes_27 : decode b_B_putBytes 27 = .ok (.iadd, 1) := by decide +kernel
theorem d_B_putBytes_28 : decode b_B_putBytes 28 = .ok (.invokestatic 52, 3) := by decide +kernel
theorem d_B_putBytes_31 : decode b_B_putBytes 31 = .ok (.invokevirtual 58, 3) := by decide +kernel
theorem d_B_putBytes_34 : decode b_B_putBytes 34 = .ok (.iconst 0, 1) := by decide +kernel
theorem d_B_putBytes_35 : decode b_B_putBytes 35 = .ok (.istore 4, 2) := by decide +kernel
theorem d_B_putBytes_37 : decode b_B_putBytes 37 = .ok (.iload 4, 2) := by decide +kernel
theorem d_B_putBytes_39 : decode b_B_putBytes 39 = .ok (.iload_n 3, 1) := by decide +kernel
theorem d_B_putBytes_40 : decode b_B_putBytes 40 = .ok (.if_icmp .ge 26, 3) := by decide +kernel
theorem d_B_putBytes_43 : decode b_B_putBytes 43 = .ok (.aload_n 0, 1) := by decide +kernel
theorem d_B_putBytes_44 : decode b_B_putBytes 44 = .ok (.getfield 9, 3) := by decide +kernel
theorem d_B_putBytes_47 : decode b_B_putBytes 47 = .ok (.iload_n 1, 1) := by decide +kernel
theorem d_B_putBytes_48 : decode b_B_putBytes 48 = .ok (.iload 4, 2) := by decide +kernel
theorem d_B_putBytes_50 : decode b_B_putBytes 50 = .ok (.iadd, 1) := by decide +kernel
theorem d_B_putBytes_51 : decode b_B_putBytes 51 = .ok (.aload_n 2, 1) := by decide +kernel
theorem d_B_putBytes_52 : decode b_B_putBytes 52 = .ok (.iload 4, 2) := by decide +kernel
theorem d_B_putBytes_54 : decode b_B_putBytes 54 = .ok (.iconst 1, 1) := by decide +kernel
theorem d_B_putBytes_55 : decode b_B_putBytes 55 = .ok (.iadd, 1) := by decide +kernel
theorem d_B_putBytes_56 : decode b_B_putBytes 56 = .ok (.invokevirtual 62, 3) := by decide +kernel
theorem d_B_putBytes_59 : decode b_B_putBytes 59 = .ok (.iastore, 1) := by decide +kernel
theorem d_B_putBytes_60 : decode b_B_putBytes 60 = .ok (.iinc 4 1, 3) := by decide +kernel
theorem d_B_putBytes_63 : decode b_B_putBytes 63 = .ok (.goto (-26), 3) := by decide +kernel
theorem d_B_putBytes_66 : decode b_B_putBytes 66 = .ok (.return_, 1) := by decide +kernel
set_option maxHeartbeats 2000000 in
set_option maxRecDepth 20000 in
theorem ct_B_putBytes (E : mm_En) (C : Nat → Nat → Int32) {b r n : Nat} (hs : bl_s b) (ha : bl_a b) (hr : rw_s r n) (hn : n < 2 ^ 31) {l s c : Nat} (hl : C b 9 = nI l) (h1 : l ≤ 16) (h2 : s + c ≤ 16) (hk : C r 1 = nI (c + 1)) (hcn : c + 1 ≤ n) (hne : r ≠ b ∧ r ≠ b + 1 ∧ r + 1 ≠ b) : mm_MT E K_B_putBytes [.ref b, .int (nI s), .ref r] (hp_H C) (mm_D none (bl_pb C b r l s c)) := by
  obtain ⟨n1, n2, n3⟩ := hne
  have hr0 := hr
  obtain ⟨g1, g2⟩ := hr
  have eR : ∀ i, bl_w (bl_sl C b l (max l (s + c))) b r s i r 1 = nI (c + 1) := by
    intro i
    simp [bl_w, bl_sl, bl_z, cs_app, n1, n2, hk]
  have loop : ∀ d i : Nat, i + d = c → ev_At E K_B_putBytes 37 [some (.ref b), some (.int (nI s)), some (.ref r), some (.int (nI c)), some (.int (nI i))] [] (hp_H (bl_w (bl_sl C b l (max l (s + c))) b r s i)) 0 0 (mm_D none (bl_pb C b r l s c)) := by
    intro d
    induction d with
    | zero =>
      intro i hi
      have hic : i = c := by omega
      subst hic
      refine ev_iload (pc := 37) d_B_putBytes_37 rfl ?_
      refine ev_iload_n (pc := 39) d_B_putBytes_39 rfl rfl ?_
      refine ev_icmp_ge (pc := 40) (tgt := 66) d_B_putBytes_40 (by decide) (fun hc => ?_) (fun hc => ?_)
      · exact ev_vret (pc := 66) d_B_putBytes_66 rfl (Nat.zero_le _) (Nat.zero_le _) ⟨rfl, rfl⟩
      · exact absurd (nI_le (Nat.le_refl i) (by omega)) hc
    | succ d ih =>
      intro i hi
      have hin : vp_in (nI (s + i)) 16 := vp_in_nI (by omega) (by decide)
      have hcl : (nI (s + i)).toNatClampNeg = s + i := nI_clamp (by omega)
      have hrb : ¬ r = b := n1
      have e9 : bl_sl C b l (max l (s + c)) (r + 1) (i + 1) = C (r + 1) (i + 1) := by
        simp [bl_sl, bl_z, cs_app, n3, hrb]
      have e2 : rw_at (bl_w (bl_sl C b l (max l (s + c))) b r s i) r n (nI (i + 1)) = C (r + 1) (i + 1) := by
        rw [rw_at, eR i, if_pos ⟨nI_pos' (by omega), nI_lt (by omega) (by omega), nI_lt (by omega) (by omega)⟩, nI_clamp (by omega), ← e9]
        simp [bl_w, hrb]
      have hM1 : mm_MT E K_R_at [.ref r, .int (nI (i + 1))] (hp_H (bl_w (bl_sl C b l (max l (s + c))) b r s i)) (mm_D (some (.int (C (r + 1) (i + 1)))) (bl_w (bl_sl C b l (max l (s + c))) b r s i)) := by
        rw [← e2]
        exact ct_R_at E _ hr0 hn _
      refine ev_iload (pc := 37) d_B_putBytes_37 rfl ?_
      refine ev_iload_n (pc := 39) d_B_putBytes_39 rfl rfl ?_
      refine ev_icmp_ge (pc := 40) (tgt := 66) d_B_putBytes_40 (by decide) (fun hc => ?_) (fun hc => ?_)
      · exact absurd hc (nI_ge (show i < c by omega) (by omega))
      refine ev_aload_n (pc := 43) d_B_putBytes_43 rfl rfl (by first | rfl | exact mm_rk_rf _) ?_
      refine ev_gR (pc := 44) (by assumption) (by rfl) fl_B_9 d_B_putBytes_44 ?_
      refine ev_iload_n (pc := 47) d_B_putBytes_47 rfl rfl ?_
      refine ev_iload (pc := 48) d_B_putBytes_48 rfl ?_
      refine ev_iadd (pc := 50) d_B_putBytes_50 ?_
      rw [nI_add]
      refine ev_aload_n (pc := 51) d_B_putBytes_51 rfl rfl (by first | rfl | exact mm_rk_rf _) ?_
      refine ev_iload (pc := 52) d_B_putBytes_52 rfl ?_
      refine ev_iconst (pc := 54) (v := 1) d_B_putBytes_54 rfl ?_
      refine ev_iadd (pc := 55) d_B_putBytes_55 ?_
      rw [nI_1]
      refine ev_cV (pc := 56) hM1 cl_B_62 jv_R_at ⟨(Nat.le_of_ble_eq_true rfl), (Nat.le_of_ble_eq_true rfl)⟩ rfl (by assumption) rfl (Nat.le_of_ble_eq_true rfl) d_B_putBytes_56 ⟨Nat.zero_le _, Nat.zero_le _⟩ ?_
      refine ev_wI (pc := 59) (by assumption) (by assumption) d_B_putBytes_59 ?_
      rw [hcl]
      have e : cs_C (bl_w (bl_sl C b l (max l (s + c))) b r s i) (b + 1) (s + i) (C (r + 1) (i + 1)) = bl_w (bl_sl C b l (max l (s + c))) b r s (i + 1) := by
        rw [← e9]
        generalize bl_sl C b l (max l (s + c)) = X
        funext a j
        simp only [cs_app, bl_w]
        grind
      rw [e]
      refine ev_iinc (pc := 60) d_B_putBytes_60 (Nat.le_of_ble_eq_true rfl) rfl (nx_inc _) rfl ?_
      try dsimp only [List.set]
      refine ev_goto (pc := 63) (tgt := 37) d_B_putBytes_63 (by decide) ?_
      exact ih (i + 1) (by omega)
  have hM := ct_B_setLength E C hs ha hl h1 (show max l (s + c) ≤ 16 by omega)
  have e0 : bl_sl C b l (max l (s + c)) = bl_w (bl_sl C b l (max l (s + c))) b r s 0 := by
    generalize bl_sl C b l (max l (s + c)) = X
    funext a j
    simp only [bl_w]
    grind
  rw [e0] at hM
  refine mm_mtL (by decide) (by rfl) (Nat.le_of_ble_eq_true rfl) rfl ?_
  refine ev_aload_n (pc := 0) d_B_putBytes_0 rfl rfl (by first | rfl | exact mm_rk_rf _) ?_
  refine ev_gI (pc := 1) (by assumption) (by rfl) fl_B_47 d_B_putBytes_1 ?_
  rw [hk]
  refine ev_iconst (pc := 4) (v := 1) d_B_putBytes_4 rfl ?_
  refine ev_isub (pc := 5) d_B_putBytes_5 ?_
  rw [show nI (c + 1) - 1 = nI c from nI_pred c]
  refine ev_istore_n (pc := 6) d_B_putBytes_6 rfl (Nat.le_of_ble_eq_true rfl) rfl ?_
  try dsimp only [List.set]
  refine ev_iload_n (pc := 7) d_B_putBytes_7 rfl rfl ?_
  refine ev_if_lt (pc := 8) (tgt := 19) d_B_putBytes_8 (by decide) (fun hc => ?_) (fun hc => ?_)
  · exact absurd hc (nI_pos (by omega))
  refine ev_iload_n (pc := 11) d_B_putBytes_11 rfl rfl ?_
  refine ev_bipush (pc := 12) (v := 16) d_B_putBytes_12 (by decide) ?_
  refine ev_iload_n (pc := 14) d_B_putBytes_14 rfl rfl ?_
  refine ev_isub (pc := 15) d_B_putBytes_15 ?_
  rw [show (16 : Int32) - nI c = nI (16 - c) from pk_sub (a := 16) (by omega)]
  refine ev_icmp_le (pc := 16) (tgt := 20) d_B_putBytes_16 (by decide) (fun hd => ?_) (fun hd => ?_)
  rotate_left
  · exact absurd (nI_le (show s ≤ 16 - c by omega) (by omega)) hd
  refine ev_aload_n (pc := 20) d_B_putBytes_20 rfl rfl (by first | rfl | exact mm_rk_rf _) ?_
  refine ev_aload_n (pc := 21) d_B_putBytes_21 rfl rfl (by first | rfl | exact mm_rk_rf _) ?_
  refine ev_gI (pc := 22) (by assumption) (by rfl) fl_B_44 d_B_putBytes_22 ?_
  refine ev_iload_n (pc := 25) d_B_putBytes_25 rfl rfl ?_
  refine ev_iload_n (pc := 26) d_B_putBytes_26 rfl rfl ?_
  refine ev_iadd (pc := 27) d_B_putBytes_27 ?_
  rw [hl, nI_add]
  refine ev_mmax (pc := 28) cl_B_52 (List.mem_of_getElem? (i := 599) (by decide +kernel)) (List.mem_of_getElem? (i := 73) (by decide +kernel)) (List.mem_of_getElem? (i := 600) (by decide +kernel)) d_B_putBytes_28 (Nat.le_of_ble_eq_true rfl) (Nat.le_of_ble_eq_true rfl) (Nat.zero_le _) (Nat.zero_le _) ?_
  have em : (if nI l < nI (s + c) then nI (s + c) else nI l) = nI (max l (s + c)) := by
    by_cases hlt : l < s + c
    · rw [if_pos (nI_lt hlt (by omega)), Nat.max_eq_right (by omega)]
    · rw [if_neg (nI_nlt (by omega) (by omega)), Nat.max_eq_left (by omega)]
  rw [em]
  refine ev_cVv (pc := 31) hM cl_B_58 jv_B_setLength ⟨(Nat.le_of_ble_eq_true rfl), (Nat.le_of_ble_eq_true rfl)⟩ rfl (by assumption) rfl (Nat.le_of_ble_eq_true rfl) d_B_putBytes_31 ⟨Nat.zero_le _, Nat.zero_le _⟩ ?_
  refine ev_iconst (pc := 34) (v := 0) d_B_putBytes_34 rfl ?_
  refine ev_istore (pc := 35) d_B_putBytes_35 (Nat.le_of_ble_eq_true rfl) rfl ?_
  try dsimp only [List.set]
  exact loop c 0 (by omega)
