/-! Creating, wishes; attach, stat, removing. Answers and heaps as pairs. -/
noncomputable def xh_cr (C : Nat → Nat → Int32) (f i : Nat) (x md om : Int32) : Int32 :=
  if (C (bk i) 8 &&& 2048) = 0 then -4 else if ¬ C f 3 = 0 then -9 else if ¬ ((¬ x < 1 ∧ ¬ 99 < x) ∧ ¬ md < 0 ∧ ¬ 4095 < md ∧ ((om &&& -84) = 0 ∧ ¬ (om &&& 3) = 3)) then -7 else if ¬ (md &&& 2048) = 0 ∧ ¬ om = 0 then -7 else it_P (my_P C (C f 2) i 2) (if so_chi C 0 (C (bk i) 2) x = none then 0 else -6) (-5)
theorem d_X_hindranceOfCreating_0 : decode b_X_hindranceOfCreating 0 = .ok (.aload_n 2, 1) := by decide +kernel
theorem d_X_hindranceOfCreating_1 : decode b_X_hindranceOfCreating 1 = .ok (.invokevirtual 247, 3) := by decide +kernel
theorem d_X_hindranceOfCreating_4 : decode b_X_hindranceOfCreating 4 = .ok (.ifCond .ne 6, 3) := by decide +kernel
theorem d_X_hindranceOfCreating_7 : decode b_X_hindranceOfCreating 7 = .ok (.bipush (-4), 2) := by decide +kernel
theorem d_X_hindranceOfCreating_9 : decode b_X_hindranceOfCreating 9 = .ok (.ireturn, 1) := by decide +kernel
theorem d_X_hindranceOfCreating_10 : decode b_X_hindranceOfCreating 10 = .ok (.aload_n 1, 1) := by decide +kernel
theorem d_X_hindranceOfCreating_11 : decode b_X_hindranceOfCreating 11 = .ok (.invokevirtual 124, 3) := by decide +kernel
theorem d_X_hindranceOfCreating_14 : decode b_X_hindranceOfCreating 14 = .ok (.ifCond .eq 6, 3) := by decide +kernel
theorem d_X_hindranceOfCreating_17 : decode b_X_hindranceOfCreating 17 = .ok (.bipush (-9), 2) := by decide +kernel
theorem d_X_hindranceOfCreating_19 : decode b_X_hindranceOfCreating 19 = .ok (.ireturn, 1) := by decide +kernel
theorem d_X_hindranceOfCreating_20 : decode b_X_hindranceOfCreating 20 = .ok (.iload_n 3, 1) := by decide +kernel
theorem d_X_hindranceOfCreating_21 : decode b_X_hindranceOfCreating 21 = .ok (.invokestatic 314, 3) := by decide +kernel
theorem d_X_hindranceOfCreating_24 : decode b_X_hindranceOfCreating 24 = .ok (.ifCond .eq 24, 3) := by decide +kernel
theorem d_X_hindranceOfCreating_27 : decode b_X_hindranceOfCreating 27 = .ok (.iload 4, 2) := by decide +kernel
theorem d_X_hindranceOfCreating_29 : decode b_X_hindranceOfCreating 29 = .ok (.ifCond .lt 19, 3) := by decide +kernel
theorem d_X_hindranceOfCreating_32 : decode b_X_hindranceOfCreating 32 = .ok (.iload 4, 2) := by decide +kernel
theorem d_X_hindranceOfCreating_34 : decode b_X_hindranceOfCreating 34 = .ok (.sipush 4095, 3) := by decide +kernel
theorem d_X_hindranceOfCreating_37 : decode b_X_hindranceOfCreating 37 = .ok (.if_icmp .gt 11, 3) := by decide +kernel
theorem d_X_hindranceOfCreating_40 : decode b_X_hindranceOfCreating 40 = .ok (.iload 5, 2) := by decide +kernel
theorem d_X_hindranceOfCreating_42 : decode b_X_hindranceOfCreating 42 = .ok (.invokestatic 281, 3) := by decide +kernel
theorem d_X_hindranceOfCreating_45 : decode b_X_hindranceOfCreating 45 = .ok (.ifCond .ne 6, 3) := by decide +kernel
theorem d_X_hindranceOfCreating_48 : decode b_X_hindranceOfCreating 48 = .ok (.bipush (-7), 2) := by decide +kernel
theorem d_X_hindranceOfCreating_50 : decode b_X_hindranceOfCreating 50 = .ok (.ireturn, 1) := by decide +kernel
theorem d_X_hindranceOfCreating_51 : decode b_X_hindranceOfCreating 51 = .ok (.iload 4, 2) := by decide +kernel
theorem d_X_hindranceOfCreating_53 : decode b_X_hindranceOfCreating 53 = .ok (.sipush 2048, 3) := by decide +kernel
theorem d_X_hindranceOfCreating_56 : decode b_X_hindranceOfCreating 56 = .ok (.iand, 1) := by decide +kernel
theorem d_X_hindranceOfCreating_57 : decode b_X_hindranceOfCreating 57 = .ok (.ifCond .eq 11, 3) := by decide +kernel
theorem d_X_hindranceOfCreating_60 : decode b_X_hindranceOfCreating 60 = .ok (.iload 5, 2) := by decide +kernel
theorem d_X_hindranceOfCreating_62 : decode b_X_hindranceOfCreating 62 = .ok (.ifCond .eq 6, 3) := by decide +kernel
theorem d_X_hindranceOfCreating_65 : decode b_X_hindranceOfCreating 65 = .ok (.bipush (-7), 2) := by decide +kernel
theorem d_X_hindranceOfCreating_67 : decode b_X_hindranceOfCreating 67 = .ok (.ireturn, 1) := by decide +kernel
theorem d_X_hindranceOfCreating_68 : decode b_X_hindranceOfCreating 68 = .ok (.aload_n 0, 1) := by decide +kernel
theorem d_X_hindranceOfCreating_69 : decode b_X_hindranceOfCreating 69 = .ok (.getfield 19, 3) := by decide +kernel
theorem d_X_hindranceOfCreating_72 : decode b_X_hindranceOfCreating 72 = .ok (.aload_n 1, 1) := by decide +kernel
theorem d_X_hindranceOfCreating_73 : decode b_X_hindranceOfCreating 73 = .ok (.getfield 237, 3) := by decide +kernel
theorem d_X_hindranceOfCreating_76 : decode b_X_hindranceOfCreating 76 = .ok (.aload_n 2, 1) := by decide +kernel
theorem d_X_hindranceOfCreating_77 : decode b_X_hindranceOfCreating 77 = .ok (.iconst 2, 1) := by decide +kernel
theorem d_X_hindranceOfCreating_78 : decode b_X_hindranceOfCreating 78 = .ok (.invokevirtual 250, 3) := by decide +kernel
theorem d_X_hindranceOfCreating_81 : decode b_X_hindranceOfCreating 81 = .ok (.ifCond .ne 6, 3) := by decide +kernel
theorem d_X_hindranceOfCreating_84 : decode b_X_hindranceOfCreating 84 = .ok (.bipush (-5), 2) := by decide +kernel
theorem d_X_hindranceOfCreating_86 : decode b_X_hindranceOfCreating 86 = .ok (.ireturn, 1) := by decide +kernel
theorem d_X_hindranceOfCreating_87 : decode b_X_hindranceOfCreating 87 = .ok (.aload_n 0, 1) := by decide +kernel
theorem d_X_hindranceOfCreating_88 : decode b_X_hindranceOfCreating 88 = .ok (.getfield 12, 3) := by decide +kernel
theorem d_X_hindranceOfCreating_91 : decode b_X_hindranceOfCreating 91 = .ok (.iconst 0, 1) := by decide +kernel
theorem d_X_hindranceOfCreating_92 : decode b_X_hindranceOfCreating 92 = .ok (.aload_n 2, 1) := by decide +kernel
theorem d_X_hindranceOfCreating_93 : decode b_X_hindranceOfCreating 93 = .ok (.iload_n 3, 1) := by decide +kernel
theorem d_X_hindranceOfCreating_94 : decode b_X_hindranceOfCreating 94 = .ok (.invokevirtual 233, 3) := by decide +kernel
theorem d_X_hindranceOfCreating_97 : decode b_X_hindranceOfCreating 97 = .ok (.ifnull 8, 3) := by decide +kernel
theorem d_X_hindranceOfCreating_100 : decode b_X_hindranceOfCreating 100 = .ok (.bipush (-6), 2) := by decide +kernel
theorem d_X_hindranceOfCreating_102 : decode b_X_hindranceOfCreating 102 = .ok (.goto 4, 3) := by decide +kernel
theorem d_X_hindranceOfCreating_105 : decode b_X_hindranceOfCreating 105 = .ok (.iconst 0, 1) := by decide +kernel
theorem d_X_hindranceOfCreating_106 : decode b_X_hindranceOfCreating 106 = .ok (.ireturn, 1) := by decide +kernel
set_option maxHeartbeats 2000000 in
set_option maxRecDepth 20000 in
theorem ct_X_hindranceOfCreating (E : mm_En) (C : Nat → Nat → Int32) {f i : Nat} (hf : fi_s f) (hi : i < 64) (x md om : Int32) : mm_MT E K_X_hindranceOfCreating [.ref 0, .ref f, .ref (bk i), .int x, .int md, .int om] (hp_H C) (mm_D (some (.int (xh_cr C f i x md om))) C) := by
  have s1 := bk_s hi
  have t68 : xh_cr C f i x md om = it_P (my_P C (C f 2) i 2) (if so_chi C 0 (C (bk i) 2) x = none then 0 else -6) (-5) → ev_At E K_X_hindranceOfCreating 68 [some (.ref 0), some (.ref f), some (.ref (bk i)), some (.int x), some (.int md), some (.int om)] [] (hp_H C) 0 0 (mm_D (some (.int (xh_cr C f i x md om))) C) := by
    intro e
    rw [e]
    refine ev_aload_n (pc := 68) d_X_hindranceOfCreating_68 rfl rfl (by first | rfl | exact mm_rk_rf _) ?_
    refine ev_gR (pc := 69) sh_X (by rfl) fl_X_19 d_X_hindranceOfCreating_69 ?_
    refine ev_aload_n (pc := 72) d_X_hindranceOfCreating_72 rfl rfl (by first | rfl | exact mm_rk_rf _) ?_
    refine ev_gI (pc := 73) (by assumption) (by rfl) fl_X_237 d_X_hindranceOfCreating_73 ?_
    refine ev_aload_n (pc := 76) d_X_hindranceOfCreating_76 rfl rfl (by first | rfl | exact mm_rk_rf _) ?_
    refine ev_iconst (pc := 77) (v := 2) d_X_hindranceOfCreating_77 rfl ?_
    refine ev_cV (pc := 78) (ct_mayI E C hi _ 2) cl_X_250 jv_M_may ⟨(Nat.le_of_ble_eq_true rfl), (Nat.le_of_ble_eq_true rfl)⟩ rfl sh_M rfl (Nat.le_of_ble_eq_true rfl) d_X_hindranceOfCreating_78 ⟨Nat.zero_le _, Nat.zero_le _⟩ ?_
    refine ev_if_ne (pc := 81) (tgt := 87) d_X_hindranceOfCreating_81 (by decide) (fun ha => ?_) (fun ha => ?_)
    rotate_left
    · rw [b3_0] at ha
      refine ev_bipush (pc := 84) (v := -5) d_X_hindranceOfCreating_84 (by decide) ?_
      exact ev_iret (pc := 86) d_X_hindranceOfCreating_86 rfl (Nat.zero_le _) (Nat.zero_le _) ⟨by rw [it_f ha], rfl⟩
    rw [b3_0, Classical.not_not] at ha
    rw [it_t ha]
    refine ev_aload_n (pc := 87) d_X_hindranceOfCreating_87 rfl rfl (by first | rfl | exact mm_rk_rf _) ?_
    refine ev_gR (pc := 88) sh_X (by rfl) fl_X_12 d_X_hindranceOfCreating_88 ?_
    refine ev_iconst (pc := 91) (v := 0) d_X_hindranceOfCreating_91 rfl ?_
    refine ev_aload_n (pc := 92) d_X_hindranceOfCreating_92 rfl rfl (by first | rfl | exact mm_rk_rf _) ?_
    refine ev_iload_n (pc := 93) d_X_hindranceOfCreating_93 rfl rfl ?_
    refine ev_cV (pc := 94) (ct_S_child E C (t := 0) (by decide) s1 _) cl_X_233 jv_S_child ⟨(Nat.le_of_ble_eq_true rfl), (Nat.le_of_ble_eq_true rfl)⟩ rfl sh_S rfl (Nat.le_of_ble_eq_true rfl) d_X_hindranceOfCreating_94 ⟨Nat.zero_le _, Nat.zero_le _⟩ ?_
    refine ev_ifnull (pc := 97) (tgt := 105) d_X_hindranceOfCreating_97 (by decide) (fun hb => ?_) (fun hb_i hb => ?_)
    · refine ev_iconst (pc := 105) (v := 0) d_X_hindranceOfCreating_105 rfl ?_
      exact ev_iret (pc := 106) d_X_hindranceOfCreating_106 rfl (Nat.zero_le _) (Nat.zero_le _) ⟨by
        have h9 : so_chi C 0 (C (bk i) 2) x = none := by
          cases hq : so_chi C 0 (C (bk i) 2) x with
          | none => rfl
          | some a => rw [hq] at hb; cases hb
        rw [if_pos h9], rfl⟩
    · refine ev_bipush (pc := 100) (v := -6) d_X_hindranceOfCreating_100 (by decide) ?_
      refine ev_goto (pc := 102) (tgt := 106) d_X_hindranceOfCreating_102 (by decide) ?_
      exact ev_iret (pc := 106) d_X_hindranceOfCreating_106 rfl (Nat.zero_le _) (Nat.zero_le _) ⟨by
        have h9 : ¬ so_chi C 0 (C (bk i) 2) x = none := fun z => by rw [z] at hb; cases hb
        rw [if_neg h9], rfl⟩
  refine mm_mtL (by decide) (by rfl) (Nat.le_of_ble_eq_true rfl) rfl ?_
  refine ev_aload_n (pc := 0) d_X_hindranceOfCreating_0 rfl rfl (by first | rfl | exact mm_rk_rf _) ?_
  refine ev_cV (pc := 1) (ct_B_isDirectory E C s1) cl_X_247 jv_B_isDirectory ⟨(Nat.le_of_ble_eq_true rfl), (Nat.le_of_ble_eq_true rfl)⟩ rfl (by assumption) rfl (Nat.le_of_ble_eq_true rfl) d_X_hindranceOfCreating_1 ⟨Nat.zero_le _, Nat.zero_le _⟩ ?_
  refine ev_if_ne (pc := 4) (tgt := 10) d_X_hindranceOfCreating_4 (by decide) (fun ha => ?_) (fun ha => ?_)
  rotate_left
  · rw [b2_0, Classical.not_not] at ha
    refine ev_bipush (pc := 7) (v := -4) d_X_hindranceOfCreating_7 (by decide) ?_
    exact ev_iret (pc := 9) d_X_hindranceOfCreating_9 rfl (Nat.zero_le _) (Nat.zero_le _) ⟨by rw [xh_cr, if_pos ha], rfl⟩
  rw [b2_0, Classical.not_not] at ha
  refine ev_aload_n (pc := 10) d_X_hindranceOfCreating_10 rfl rfl (by first | rfl | exact mm_rk_rf _) ?_
  refine ev_cV (pc := 11) (ct_F_isInSnapshot E C hf) cl_X_124 jv_F_isInSnapshot ⟨(Nat.le_of_ble_eq_true rfl), (Nat.le_of_ble_eq_true rfl)⟩ rfl (by assumption) rfl (Nat.le_of_ble_eq_true rfl) d_X_hindranceOfCreating_11 ⟨Nat.zero_le _, Nat.zero_le _⟩ ?_
  refine ev_if_eq (pc := 14) (tgt := 20) d_X_hindranceOfCreating_14 (by decide) (fun hb => ?_) (fun hb => ?_)
  rotate_left
  · rw [b2_0, Classical.not_not] at hb
    refine ev_bipush (pc := 17) (v := -9) d_X_hindranceOfCreating_17 (by decide) ?_
    exact ev_iret (pc := 19) d_X_hindranceOfCreating_19 rfl (Nat.zero_le _) (Nat.zero_le _) ⟨by rw [xh_cr, if_neg ha, if_pos hb], rfl⟩
  rw [b2_0] at hb
  have bad : ¬ ((¬ x < 1 ∧ ¬ 99 < x) ∧ ¬ md < 0 ∧ ¬ 4095 < md ∧ ((om &&& -84) = 0 ∧ ¬ (om &&& 3) = 3)) → mm_D (some (.int (xh_cr C f i x md om))) C (some (.int (-7))) (hp_H C) := fun z => ⟨by rw [xh_cr, if_neg ha, if_neg hb, if_pos z], rfl⟩
  refine ev_iload_n (pc := 20) d_X_hindranceOfCreating_20 rfl rfl ?_
  refine ev_cS (pc := 21) (ct_X_isTitle E C _) cl_X_314 js_X_isTitle ⟨(Nat.le_of_ble_eq_true rfl), (Nat.le_of_ble_eq_true rfl)⟩ rfl rfl (Nat.le_of_ble_eq_true rfl) d_X_hindranceOfCreating_21 ⟨Nat.zero_le _, Nat.zero_le _⟩ ?_
  refine ev_if_eq (pc := 24) (tgt := 48) d_X_hindranceOfCreating_24 (by decide) (fun hc => ?_) (fun hc => ?_)
  · rw [b2_0] at hc
    refine ev_bipush (pc := 48) (v := -7) d_X_hindranceOfCreating_48 (by decide) ?_
    exact ev_iret (pc := 50) d_X_hindranceOfCreating_50 rfl (Nat.zero_le _) (Nat.zero_le _) (bad (fun z => hc z.1))
  rw [b2_0, Classical.not_not] at hc
  refine ev_iload (pc := 27) d_X_hindranceOfCreating_27 rfl ?_
  refine ev_if_lt (pc := 29) (tgt := 48) d_X_hindranceOfCreating_29 (by decide) (fun hd => ?_) (fun hd => ?_)
  · refine ev_bipush (pc := 48) (v := -7) d_X_hindranceOfCreating_48 (by decide) ?_
    exact ev_iret (pc := 50) d_X_hindranceOfCreating_50 rfl (Nat.zero_le _) (Nat.zero_le _) (bad (fun z => z.2.1 hd))
  refine ev_iload (pc := 32) d_X_hindranceOfCreating_32 rfl ?_
  refine ev_sipush (pc := 34) (v := 4095) d_X_hindranceOfCreating_34 (by decide) ?_
  refine ev_icmp_gt (pc := 37) (tgt := 48) d_X_hindranceOfCreating_37 (by decide) (fun he => ?_) (fun he => ?_)
  · refine ev_bipush (pc := 48) (v := -7) d_X_hindranceOfCreating_48 (by decide) ?_
    exact ev_iret (pc := 50) d_X_hindranceOfCreating_50 rfl (Nat.zero_le _) (Nat.zero_le _) (bad (fun z => z.2.2.1 he))
  refine ev_iload (pc := 40) d_X_hindranceOfCreating_40 rfl ?_
  refine ev_cS (pc := 42) (ct_X_isOpenMode E C _) cl_X_281 js_X_isOpenMode ⟨(Nat.le_of_ble_eq_true rfl), (Nat.le_of_ble_eq_true rfl)⟩ rfl rfl (Nat.le_of_ble_eq_true rfl) d_X_hindranceOfCreating_42 ⟨Nat.zero_le _, Nat.zero_le _⟩ ?_
  refine ev_if_ne (pc := 45) (tgt := 51) d_X_hindranceOfCreating_45 (by decide) (fun hg => ?_) (fun hg => ?_)
  rotate_left
  · rw [b2_0] at hg
    refine ev_bipush (pc := 48) (v := -7) d_X_hindranceOfCreating_48 (by decide) ?_
    exact ev_iret (pc := 50) d_X_hindranceOfCreating_50 rfl (Nat.zero_le _) (Nat.zero_le _) (bad (fun z => hg z.2.2.2))
  rw [b2_0, Classical.not_not] at hg
  have ok : ¬ ¬ ((¬ x < 1 ∧ ¬ 99 < x) ∧ ¬ md < 0 ∧ ¬ 4095 < md ∧ ((om &&& -84) = 0 ∧ ¬ (om &&& 3) = 3)) := fun z => z ⟨hc, hd, he, hg⟩
  refine ev_iload (pc := 51) d_X_hindranceOfCreating_51 rfl ?_
  refine ev_sipush (pc := 53) (v := 2048) d_X_hindranceOfCreating_53 (by decide) ?_
  refine ev_iand (pc := 56) d_X_hindranceOfCreating_56 ?_
  refine ev_if_eq (pc := 57) (tgt := 68) d_X_hindranceOfCreating_57 (by decide) (fun hj => ?_) (fun hj => ?_)
  · exact t68 (by rw [xh_cr, if_neg ha, if_neg hb, if_neg ok, if_neg (fun z => z.1 hj)])
  refine ev_iload (pc := 60) d_X_hindranceOfCreating_60 rfl ?_
  refine ev_if_eq (pc := 62) (tgt := 68) d_X_hindranceOfCreating_62 (by decide) (fun hk => ?_) (fun hk => ?_)
  · exact t68 (by rw [xh_cr, if_neg ha, if_neg hb, if_neg ok, if_neg (fun z => z.2 hk)])
  · refine ev_bipush (pc := 65) (v := -7) d_X_hindranceOfCreating_65 (by decide) ?_
    exact ev_iret (pc := 67) d_X_hindranceOfCreating_67 rfl (Nat.zero_le _) (Nat.zero_le _) ⟨by rw [xh_cr, if_neg ha, if_neg hb, if_neg ok, if_pos ⟨hj, hk⟩], rfl⟩
/-- may a user wish so -/
def xw_may (C : Nat → Nat → Int32) (u : Int32) (i : Nat) : Prop := (C 203 0 = -1 ∨ my_o C u (so_abi C 0 i) 2) ∧ ((C 203 1 = -1 ∧ C 203 3 = -1) ∨ u = C (bk i) 5) ∧ (C 203 2 = -1 ∨ my_P C u i 2) ∧ (C 203 3 = -1 ∨ ¬ me_b C u (C 203 3) = 0)
theorem d_X_mayWish_0 : decode b_X_mayWish 0 = .ok (.aload_n 0, 1) := by decide +kernel
theorem d_X_mayWish_1 : decode b_X_mayWish 1 = .ok (.getfield 45, 3) := by decide +kernel
theorem d_X_mayWish_4 : decode b_X_mayWish 4 = .ok (.getfield 387, 3) := by decide +kernel
theorem d_X_mayWish_7 : decode b_X_mayWish 7 = .ok (.iconst (-1), 1) := by decide +kernel
theorem d_X_mayWish_8 : decode b_X_mayWish 8 = .ok (.if_icmp .eq 26, 3) := by decide +kernel
theorem d_X_mayWish_11 : decode b_X_mayWish 11 = .ok (.aload_n 0, 1) := by decide +kernel
theorem d_X_mayWish_12 : decode b_X_mayWish 12 = .ok (.getfield 19, 3) := by decide +kernel
theorem d_X_mayWish_15 : decode b_X_mayWish 15 = .ok (.iload_n 1, 1) := by decide +kernel
theorem d_X_mayWish_16 : decode b_X_mayWish 16 = .ok (.aload_n 0, 1) := by decide +kernel
theorem d_X_mayWish_17 : decode b_X_mayWish 17 = .ok (.getfield 12, 3) := by decide +kernel
theorem d_X_mayWish_20 : decode b_X_mayWish 20 = .ok (.iconst 0, 1) := by decide +kernel
theorem d_X_mayWish_21 : decode b_X_mayWish 21 = .ok (.aload_n 2, 1) := by decide +kernel
theorem d_X_mayWish_22 : decode b_X_mayWish 22 = .ok (.invokevirtual 297, 3) := by decide +kernel
theorem d_X_mayWish_25 : decode b_X_mayWish 25 = .ok (.iconst 2, 1) := by decide +kernel
theorem d_X_mayWish_26 : decode b_X_mayWish 26 = .ok (.invokevirtual 250, 3) := by decide +kernel
theorem d_X_mayWish_29 : decode b_X_mayWish 29 = .ok (.ifCond .ne 5, 3) := by decide +kernel
theorem d_X_mayWish_32 : decode b_X_mayWish 32 = .ok (.iconst 0, 1) := by decide +kernel
theorem d_X_mayWish_33 : decode b_X_mayWish 33 = .ok (.ireturn, 1) := by decide +kernel
theorem d_X_mayWish_34 : decode b_X_mayWish 34 = .ok (.aload_n 0, 1) := by decide +kernel
theorem d_X_mayWish_35 : decode b_X_mayWish 35 = .ok (.getfield 45, 3) := by decide +kernel
theorem d_X_mayWish_38 : decode b_X_mayWish 38 = .ok (.getfield 388, 3) := by decide +kernel
theorem d_X_mayWish_41 : decode b_X_mayWish 41 = .ok (.iconst (-1), 1) := by decide +kernel
theorem d_X_mayWish_42 : decode b_X_mayWish 42 = .ok (.if_icmp .ne 14, 3) := by decide +kernel
theorem d_X_mayWish_45 : decode b_X_mayWish 45 = .ok (.aload_n 0, 1) := by decide +kernel
theorem d_X_mayWish_46 : decode b_X_mayWish 46 = .ok (.getfield 45, 3) := by decide +kernel
theorem d_X_mayWish_49 : decode b_X_mayWish 49 = .ok (.getfield 391, 3) := by decide +kernel
theorem d_X_mayWish_52 : decode b_X_mayWish 52 = .ok (.iconst (-1), 1) := by decide +kernel
theorem d_X_mayWish_53 : decode b_X_mayWish 53 = .ok (.if_icmp .eq 13, 3) := by decide +kernel
theorem d_X_mayWish_56 : decode b_X_mayWish 56 = .ok (.iload_n 1, 1) := by decide +kernel
theorem d_X_mayWish_57 : decode b_X_mayWish 57 = .ok (.aload_n 2, 1) := by decide +kernel
theorem d_X_mayWish_58 : decode b_X_mayWish 58 = .ok (.getfield 366, 3) := by decide +kernel
theorem d_X_mayWish_61 : decode b_X_mayWish 61 = .ok (.if_icmp .eq 5, 3) := by decide +kernel
theorem d_X_mayWish_64 : decode b_X_mayWish 64 = .ok (.iconst 0, 1) := by decide +kernel
theorem d_X_mayWish_65 : decode b_X_mayWish 65 = .ok (.ireturn, 1) := by decide +kernel
theorem d_X_mayWish_66 : decode b_X_mayWish 66 = .ok (.aload_n 0, 1) := by decide +kernel
theorem d_X_mayWish_67 : decode b_X_mayWish 67 = .ok (.getfield 45, 3) := by decide +kernel
theorem d_X_mayWish_70 : decode b_X_mayWish 70 = .ok (.getfield 392, 3) := by decide +kernel
theorem d_X_mayWish_73 : decode b_X_mayWish 73 = .ok (.iconst (-1), 1) := by decide +kernel
theorem d_X_mayWish_74 : decode b_X_mayWish 74 = .ok (.if_icmp .eq 18, 3) := by decide +kernel
theorem d_X_mayWish_77 : decode b_X_mayWish 77 = .ok (.aload_n 0, 1) := by decide +kernel
theorem d_X_mayWish_78 : decode b_X_mayWish 78 = .ok (.getfield 19, 3) := by decide +kernel
theorem d_X_mayWish_81 : decode b_X_mayWish 81 = .ok (.iload_n 1, 1) := by decide +kernel
theorem d_X_mayWish_82 : decode b_X_mayWish 82 = .ok (.aload_n 2, 1) := by decide +kernel
theorem d_X_mayWish_83 : decode b_X_mayWish 83 = .ok (.iconst 2, 1) := by decide +kernel
theorem d_X_mayWish_84 : decode b_X_mayWish 84 = .ok (.invokevirtual 250, 3) := by decide +kernel
theorem d_X_mayWish_87 : decode b_X_mayWish 87 = .ok (.ifCond .ne 5, 3) := by decide +kernel
theorem d_X_mayWish_90 : decode b_X_mayWish 90 = .ok (.iconst 0, 1) := by decide +kernel
theorem d_X_mayWish_91 : decode b_X_mayWish 91 = .ok (.ireturn, 1) := by decide +kernel
theorem d_X_mayWish_92 : decode b_X_mayWish 92 = .ok (.aload_n 0, 1) := by decide +kernel
theorem d_X_mayWish_93 : decode b_X_mayWish 93 = .ok (.getfield 45, 3) := by decide +kernel
theorem d_X_mayWish_96 : decode b_X_mayWish 96 = .ok (.getfield 391, 3) := by decide +kernel
theorem d_X_mayWish_99 : decode b_X_mayWish 99 = .ok (.iconst (-1), 1) := by decide +kernel
theorem d_X_mayWish_100 : decode b_X_mayWish 100 = .ok (.if_icmp .eq 21, 3) := by decide +kernel
theorem d_X_mayWish_103 : decode b_X_mayWish 103 = .ok (.aload_n 0, 1) := by decide +kernel
theorem d_X_mayWish_104 : decode b_X_mayWish 104 = .ok (.getfield 19, 3) := by decide +kernel
theorem d_X_mayWish_107 : decode b_X_mayWish 107 = .ok (.iload_n 1, 1) := by decide +kernel
theorem d_X_mayWish_108 : decode b_X_mayWish 108 = .ok (.aload_n 0, 1) := by decide +kernel
theorem d_X_mayWish_109 : decode b_X_mayWish 109 = .ok (.getfield 45, 3) := by decide +kernel
theorem d_X_mayWish_112 : decode b_X_mayWish 112 = .ok (.getfield 391, 3) := by decide +kernel
theorem d_X_mayWish_115 : decode b_X_mayWish 115 = .ok (.invokevirtual 53, 3) := by decide +kernel
theorem d_X_mayWish_118 : decode b_X_mayWish 118 = .ok (.ifCond .eq 7, 3) := by decide +kernel
theorem d_X_mayWish_121 : decode b_X_mayWish 121 = .ok (.iconst 1, 1) := by decide +kernel
theorem d_X_mayWish_122 : decode b_X_mayWish 122 = .ok (.goto 4, 3) := by decide +kernel
theorem d_X_mayWish_125 : decode b_X_mayWish 125 = .ok (.iconst 0, 1) := by decide +kernel
theorem d_X_mayWish_126 : decode b_X_mayWish 126 = .ok (.ireturn, 1) := by decide +kernel
set_option maxHeartbeats 2000000 in
set_option maxRecDepth 20000 in
theorem ct_X_mayWish (E : mm_En) (C : Nat → Nat → Int32) {i : Nat} (hi : i < 64) (u : Int32) : mm_MT E K_X_mayWish [.ref 0, .int u, .ref (bk i)] (hp_H C) (mm_D (some (.int (b3_P (xw_may C u i)))) C) := by
  have s1 := bk_s hi
  have t92 : (C 203 0 = -1 ∨ my_o C u (so_abi C 0 i) 2) → ((C 203 1 = -1 ∧ C 203 3 = -1) ∨ u = C (bk i) 5) → (C 203 2 = -1 ∨ my_P C u i 2) → ev_At E K_X_mayWish 92 [some (.ref 0), some (.int u), some (.ref (bk i))] [] (hp_H C) 0 0 (mm_D (some (.int (b3_P (xw_may C u i)))) C) := by
    intro q1 q2 q3
    refine ev_aload_n (pc := 92) d_X_mayWish_92 rfl rfl (by first | rfl | exact mm_rk_rf _) ?_
    refine ev_gR (pc := 93) sh_X (by rfl) fl_X_45 d_X_mayWish_93 ?_
    refine ev_gI (pc := 96) sh_W (by rfl) fl_X_391 d_X_mayWish_96 ?_
    refine ev_iconst (pc := 99) (v := -1) d_X_mayWish_99 rfl ?_
    refine ev_icmp_eq (pc := 100) (tgt := 121) d_X_mayWish_100 (by decide) (fun ha => ?_) (fun ha => ?_)
    · refine ev_iconst (pc := 121) (v := 1) d_X_mayWish_121 rfl ?_
      refine ev_goto (pc := 122) (tgt := 126) d_X_mayWish_122 (by decide) ?_
      exact ev_zret (pc := 126) d_X_mayWish_126 rfl (by first | exact Or.inl rfl | exact Or.inr rfl | assumption) (Nat.zero_le _) (Nat.zero_le _) ⟨by rw [b3_t ⟨q1, q2, q3, Or.inl ha⟩], rfl⟩
    refine ev_aload_n (pc := 103) d_X_mayWish_103 rfl rfl (by first | rfl | exact mm_rk_rf _) ?_
    refine ev_gR (pc := 104) sh_X (by rfl) fl_X_19 d_X_mayWish_104 ?_
    refine ev_iload_n (pc := 107) d_X_mayWish_107 rfl rfl ?_
    refine ev_aload_n (pc := 108) d_X_mayWish_108 rfl rfl (by first | rfl | exact mm_rk_rf _) ?_
    refine ev_gR (pc := 109) sh_X (by rfl) fl_X_45 d_X_mayWish_109 ?_
    refine ev_gI (pc := 112) sh_W (by rfl) fl_X_391 d_X_mayWish_112 ?_
    refine ev_cV (pc := 115) (ct_M_isIn E C _ _) cl_X_53 jv_M_isIn ⟨(Nat.le_of_ble_eq_true rfl), (Nat.le_of_ble_eq_true rfl)⟩ rfl sh_M rfl (Nat.le_of_ble_eq_true rfl) d_X_mayWish_115 ⟨Nat.zero_le _, Nat.zero_le _⟩ ?_
    refine ev_if_eq (pc := 118) (tgt := 125) d_X_mayWish_118 (by decide) (fun hb => ?_) (fun hb => ?_)
    · refine ev_iconst (pc := 125) (v := 0) d_X_mayWish_125 rfl ?_
      exact ev_zret (pc := 126) d_X_mayWish_126 rfl (by first | exact Or.inl rfl | exact Or.inr rfl | assumption) (Nat.zero_le _) (Nat.zero_le _) ⟨by rw [b3_f (fun z => z.2.2.2.elim ha (fun y => y hb))], rfl⟩
    · refine ev_iconst (pc := 121) (v := 1) d_X_mayWish_121 rfl ?_
      refine ev_goto (pc := 122) (tgt := 126) d_X_mayWish_122 (by decide) ?_
      exact ev_zret (pc := 126) d_X_mayWish_126 rfl (by first | exact Or.inl rfl | exact Or.inr rfl | assumption) (Nat.zero_le _) (Nat.zero_le _) ⟨by rw [b3_t ⟨q1, q2, q3, Or.inr hb⟩], rfl⟩
  have t66 : (C 203 0 = -1 ∨ my_o C u (so_abi C 0 i) 2) → ((C 203 1 = -1 ∧ C 203 3 = -1) ∨ u = C (bk i) 5) → ev_At E K_X_mayWish 66 [some (.ref 0), some (.int u), some (.ref (bk i))] [] (hp_H C) 0 0 (mm_D (some (.int (b3_P (xw_may C u i)))) C) := by
    intro q1 q2
    refine ev_aload_n (pc := 66) d_X_mayWish_66 rfl rfl (by first | rfl | exact mm_rk_rf _) ?_
    refine ev_gR (pc := 67) sh_X (by rfl) fl_X_45 d_X_mayWish_67 ?_
    refine ev_gI (pc := 70) sh_W (by rfl) fl_X_392 d_X_mayWish_70 ?_
    refine ev_iconst (pc := 73) (v := -1) d_X_mayWish_73 rfl ?_
    refine ev_icmp_eq (pc := 74) (tgt := 92) d_X_mayWish_74 (by decide) (fun ha => ?_) (fun ha => ?_)
    · exact t92 q1 q2 (Or.inl ha)
    refine ev_aload_n (pc := 77) d_X_mayWish_77 rfl rfl (by first | rfl | exact mm_rk_rf _) ?_
    refine ev_gR (pc := 78) sh_X (by rfl) fl_X_19 d_X_mayWish_78 ?_
    refine ev_iload_n (pc := 81) d_X_mayWish_81 rfl rfl ?_
    refine ev_aload_n (pc := 82) d_X_mayWish_82 rfl rfl (by first | rfl | exact mm_rk_rf _) ?_
    refine ev_iconst (pc := 83) (v := 2) d_X_mayWish_83 rfl ?_
    refine ev_cV (pc := 84) (ct_mayI E C hi _ 2) cl_X_250 jv_M_may ⟨(Nat.le_of_ble_eq_true rfl), (Nat.le_of_ble_eq_true rfl)⟩ rfl sh_M rfl (Nat.le_of_ble_eq_true rfl) d_X_mayWish_84 ⟨Nat.zero_le _, Nat.zero_le _⟩ ?_
    refine ev_if_ne (pc := 87) (tgt := 92) d_X_mayWish_87 (by decide) (fun hb => ?_) (fun hb => ?_)
    · rw [b3_0, Classical.not_not] at hb
      exact t92 q1 q2 (Or.inr hb)
    · rw [b3_0] at hb
      refine ev_iconst (pc := 90) (v := 0) d_X_mayWish_90 rfl ?_
      exact ev_zret (pc := 91) d_X_mayWish_91 rfl (by first | exact Or.inl rfl | exact Or.inr rfl | assumption) (Nat.zero_le _) (Nat.zero_le _) ⟨by rw [b3_f (fun z => z.2.2.1.elim ha hb)], rfl⟩
  have t56 : (C 203 0 = -1 ∨ my_o C u (so_abi C 0 i) 2) → ¬ (C 203 1 = -1 ∧ C 203 3 = -1) → ev_At E K_X_mayWish 56 [some (.ref 0), some (.int u), some (.ref (bk i))] [] (hp_H C) 0 0 (mm_D (some (.int (b3_P (xw_may C u i)))) C) := by
    intro q1 q2
    refine ev_iload_n (pc := 56) d_X_mayWish_56 rfl rfl ?_
    refine ev_aload_n (pc := 57) d_X_mayWish_57 rfl rfl (by first | rfl | exact mm_rk_rf _) ?_
    refine ev_gI (pc := 58) (by assumption) (by rfl) fl_X_366 d_X_mayWish_58 ?_
    refine ev_icmp_eq (pc := 61) (tgt := 66) d_X_mayWish_61 (by decide) (fun ha => ?_) (fun ha => ?_)
    · exact t66 q1 (Or.inr ha)
    · refine ev_iconst (pc := 64) (v := 0) d_X_mayWish_64 rfl ?_
      exact ev_zret (pc := 65) d_X_mayWish_65 rfl (by first | exact Or.inl rfl | exact Or.inr rfl | assumption) (Nat.zero_le _) (Nat.zero_le _) ⟨by rw [b3_f (fun z => z.2.1.elim q2 ha)], rfl⟩
  have t34 : (C 203 0 = -1 ∨ my_o C u (so_abi C 0 i) 2) → ev_At E K_X_mayWish 34 [some (.ref 0), some (.int u), some (.ref (bk i))] [] (hp_H C) 0 0 (mm_D (some (.int (b3_P (xw_may C u i)))) C) := by
    intro q1
    refine ev_aload_n (pc := 34) d_X_mayWish_34 rfl rfl (by first | rfl | exact mm_rk_rf _) ?_
    refine ev_gR (pc := 35) sh_X (by rfl) fl_X_45 d_X_mayWish_35 ?_
    refine ev_gI (pc := 38) sh_W (by rfl) fl_X_388 d_X_mayWish_38 ?_
    refine ev_iconst (pc := 41) (v := -1) d_X_mayWish_41 rfl ?_
    refine ev_icmp_ne (pc := 42) (tgt := 56) d_X_mayWish_42 (by decide) (fun ha => ?_) (fun ha => ?_)
    · exact t56 q1 (fun z => ha z.1)
    refine ev_aload_n (pc := 45) d_X_mayWish_45 rfl rfl (by first | rfl | exact mm_rk_rf _) ?_
    refine ev_gR (pc := 46) sh_X (by rfl) fl_X_45 d_X_mayWish_46 ?_
    refine ev_gI (pc := 49) sh_W (by rfl) fl_X_391 d_X_mayWish_49 ?_
    refine ev_iconst (pc := 52) (v := -1) d_X_mayWish_52 rfl ?_
    refine ev_icmp_eq (pc := 53) (tgt := 66) d_X_mayWish_53 (by decide) (fun hb => ?_) (fun hb => ?_)
    · exact t66 q1 (Or.inl ⟨ha, hb⟩)
    · exact t56 q1 (fun z => hb z.2)
  refine mm_mtL (by decide) (by rfl) (Nat.le_of_ble_eq_true rfl) rfl ?_
  refine ev_aload_n (pc := 0) d_X_mayWish_0 rfl rfl (by first | rfl | exact mm_rk_rf _) ?_
  refine ev_gR (pc := 1) sh_X (by rfl) fl_X_45 d_X_mayWish_1 ?_
  refine ev_gI (pc := 4) sh_W (by rfl) fl_X_387 d_X_mayWish_4 ?_
  refine ev_iconst (pc := 7) (v := -1) d_X_mayWish_7 rfl ?_
  refine ev_icmp_eq (pc := 8) (tgt := 34) d_X_mayWish_8 (by decide) (fun ha => ?_) (fun ha => ?_)
  · exact t34 (Or.inl ha)
  refine ev_aload_n (pc := 11) d_X_mayWish_11 rfl rfl (by first | rfl | exact mm_rk_rf _) ?_
  refine ev_gR (pc := 12) sh_X (by rfl) fl_X_19 d_X_mayWish_12 ?_
  refine ev_iload_n (pc := 15) d_X_mayWish_15 rfl rfl ?_
  refine ev_aload_n (pc := 16) d_X_mayWish_16 rfl rfl (by first | rfl | exact mm_rk_rf _) ?_
  refine ev_gR (pc := 17) sh_X (by rfl) fl_X_12 d_X_mayWish_17 ?_
  refine ev_iconst (pc := 20) (v := 0) d_X_mayWish_20 rfl ?_
  refine ev_aload_n (pc := 21) d_X_mayWish_21 rfl rfl (by first | rfl | exact mm_rk_rf _) ?_
  refine ev_cV (pc := 22) (ct_S_aboveI E C (t := 0) (by decide) hi) cl_X_297 jv_S_above ⟨(Nat.le_of_ble_eq_true rfl), (Nat.le_of_ble_eq_true rfl)⟩ rfl sh_S rfl (Nat.le_of_ble_eq_true rfl) d_X_mayWish_22 ⟨Nat.zero_le _, Nat.zero_le _⟩ ?_
  refine ev_iconst (pc := 25) (v := 2) d_X_mayWish_25 rfl ?_
  refine ev_cV (pc := 26) (ct_mayO E C (fun a h => so_abi_lt h) _ 2) cl_X_250 jv_M_may ⟨(Nat.le_of_ble_eq_true rfl), (Nat.le_of_ble_eq_true rfl)⟩ rfl sh_M rfl (Nat.le_of_ble_eq_true rfl) d_X_mayWish_26 ⟨Nat.zero_le _, Nat.zero_le _⟩ ?_
  refine ev_if_ne (pc := 29) (tgt := 34) d_X_mayWish_29 (by decide) (fun hb => ?_) (fun hb => ?_)
  · rw [b3_0, Classical.not_not] at hb
    exact t34 (Or.inr hb)
  · rw [b3_0] at hb
    refine ev_iconst (pc := 32) (v := 0) d_X_mayWish_32 rfl ?_
    exact ev_zret (pc := 33) d_X_mayWish_33 rfl (by first | exact Or.inl rfl | exact Or.inr rfl | assumption) (Nat.zero_le _) (Nat.zero_le _) ⟨by rw [b3_f (fun z => z.1.elim ha hb)], rfl⟩
def ad_m (C : Nat → Nat → Int32) (d : Nat) (md : Int32) : Int32 := md &&& (((if (md &&& 2048) = 0 then 438 else 511) ^^^ (-1)) ||| C (bk d) 8)
def ad_C (C : Nat → Nat → Int32) (d o : Nat) (x u md : Int32) : Nat → Nat → Int32 := cs_C (bl_ent (bl_beg (cs_C C 1 2 (C 1 2 + 1)) (bk o) (C 1 2 + 1) (C (bk d) 2) x u (C (bk d) 6) (ad_m C d md)) (bk o) 0) (bk d) 7 (C (bk d) 7 + 1)
theorem d_S_add_0 : decode b_S_add 0 = .ok (.aload_n 0, 1) := by decide +kernel
theorem d_S_add_1 : decode b_S_add 1 = .ok (.invokevirtual 84, 3) := by decide +kernel
theorem d_S_add_4 : decode b_S_add 4 = .ok (.astore 5, 2) := by decide +kernel
theorem d_S_add_6 : decode b_S_add 6 = .ok (.aload 5, 2) := by decide +kernel
theorem d_S_add_8 : decode b_S_add 8 = .ok (.ifnonnull 5, 3) := by decide +kernel
theorem d_S_add_11 : decode b_S_add 11 = .ok (.aconst_null, 1) := by decide +kernel
theorem d_S_add_12 : decode b_S_add 12 = .ok (.areturn, 1) := by decide +kernel
theorem d_S_add_13 : decode b_S_add 13 = .ok (.iload 4, 2) := by decide +kernel
theorem d_S_add_15 : decode b_S_add 15 = .ok (.sipush 2048, 3) := by decide +kernel
theorem d_S_add_18 : decode b_S_add 18 = .ok (.iand, 1) := by decide +kernel
theorem d_S_add_19 : decode b_S_add 19 = .ok (.ifCond .eq 9, 3) := by decide +kernel
theorem d_S_add_22 : decode b_S_add 22 = .ok (.sipush 511, 3) := by decide +kernel
theorem d_S_add_25 : decode b_S_add 25 = .ok (.goto 6, 3) := by decide +kernel
theorem d_S_add_28 : decode b_S_add 28 = .ok (.sipush 438, 3) := by decide +kernel
theorem d_S_add_31 : decode b_S_add 31 = .ok (.istore 6, 2) := by decide +kernel
theorem d_S_add_33 : decode b_S_add 33 = .ok (.iload 4, 2) := by decide +kernel
theorem d_S_add_35 : decode b_S_add 35 = .ok (.iload 6, 2) := by decide +kernel
theorem d_S_add_37 : decode b_S_add 37 = .ok (.iconst (-1), 1) := by decide +kernel
theorem d_S_add_38 : decode b_S_add 38 = .ok (.ixor, 1) := by decide +kernel
theorem d_S_add_39 : decode b_S_add 39 = .ok (.aload_n 1, 1) := by decide +kernel
theorem d_S_add_40 : decode b_S_add 40 = .ok (.getfield 95, 3) := by decide +kernel
theorem d_S_add_43 : decode b_S_add 43 = .ok (.ior, 1) := by decide +kernel
theorem d_S_add_44 : decode b_S_add 44 = .ok (.iand, 1) := by decide +kernel
theorem d_S_add_45 : decode b_S_add 45 = .ok (.istore 7, 2) := by decide +kernel
theorem d_S_add_47 : decode b_S_add 47 = .ok (.aload_n 0, 1) := by decide +kernel
theorem d_S_add_48 : decode b_S_add 48 = .ok (.dup, 1) := by decide +kernel
theorem d_S_add_49 : decode b_S_add 49 = .ok (.getfield 98, 3) := by decide +kernel
theorem d_S_add_52 : decode b_S_add 52 = .ok (.iconst 1, 1) := by decide +kernel
theorem d_S_add_53 : decode b_S_add 53 = .ok (.iadd, 1) := by decide +kernel
theorem d_S_add_54 : decode b_S_add 54 = .ok (.putfield 98, 3) := by decide +kernel
theorem d_S_add_57 : decode b_S_add 57 = .ok (.aload 5, 2) := by decide +kernel
theorem d_S_add_59 : decode b_S_add 59 = .ok (.aload_n 0, 1) := by decide +kernel
theorem d_S_add_60 : decode b_S_add 60 = .ok (.getfield 98, 3) := by decide +kernel
theorem d_S_add_63 : decode b_S_add 63 = .ok (.aload_n 1, 1) := by decide +kernel
theorem d_S_add_64 : decode b_S_add 64 = .ok (.getfield 26, 3) := by decide +kernel
theorem d_S_add_67 : decode b_S_add 67 = .ok (.iload_n 2, 1) := by decide +kernel
theorem d_S_add_68 : decode b_S_add 68 = .ok (.iload_n 3, 1) := by decide +kernel
theorem d_S_add_69 : decode b_S_add 69 = .ok (.aload_n 1, 1) := by decide +kernel
theorem d_S_add_70 : decode b_S_add 70 = .ok (.getfield 101, 3) := by decide +kernel
theorem d_S_add_73 : decode b_S_add 73 = .ok (.iload 7, 2) := by decide +kernel
theorem d_S_add_75 : decode b_S_add 75 = .ok (.invokevirtual 18, 3) := by decide +kernel
theorem d_S_add_78 : decode b_S_add 78 = .ok (.aload 5, 2) := by decide +kernel
theorem d_S_add_80 : decode b_S_add 80 = .ok (.iconst 0, 1) := by decide +kernel
theorem d_S_add_81 : decode b_S_add 81 = .ok (.invokevirtual 22, 3) := by decide +kernel
theorem d_S_add_84 : decode b_S_add 84 = .ok (.aload_n 1, 1) := by decide +kernel
theorem d_S_add_85 : decode b_S_add 85 = .ok (.dup, 1) := by decide +kernel
theorem d_S_add_86 : decode b_S_add 86 = .ok (.getfield 104, 3) := by decide +kernel
theorem d_S_add_89 : decode b_S_add 89 = .ok (.iconst 1, 1) := by decide +kernel
theorem d_S_add_90 : decode b_S_add 90 = .ok (.iadd, 1) := by decide +kernel
theorem d_S_add_91 : decode b_S_add 91 = .ok (.putfield 104, 3) := by decide +kernel
theorem d_S_add_94 : decode b_S_add 94 = .ok (.aload 5, 2) := by decide +kernel
theorem d_S_add_96 : decode b_S_add 96 = .ok (.areturn, 1) := by decide +kernel
set_option maxHeartbeats 2000000 in
set_option maxRecDepth 20000 in
theorem ct_S_add (E : mm_En) (C : Nat → Nat → Int32) {d o : Nat} (hd : d < 64) (hz : ¬ C (bk d) 1 = 0) (hf : so_fr C = some o) (x u md : Int32) : mm_MT E K_S_add [.ref 1, .ref (bk d), .int x, .int u, .int md] (hp_H C) (mm_D (some (.ref (bk o))) (ad_C C d o x u md)) := by
  obtain ⟨ho, hoz⟩ := so_fr_ok hf
  have hne : o ≠ d := fun z => hz (by rw [← z]; exact hoz)
  have s1 := bk_s hd
  have s2 := bk_s ho
  have k1 : bk o = 3 + 2 * o := rfl
  have k2 : bk d = 3 + 2 * d := rfl
  have hF := ct_S_freeBlock E C
  rw [hf] at hF
  have t31 : ∀ z : Int32, z = (if (md &&& 2048) = 0 then 438 else 511) → ev_At E K_S_add 31 [some (.ref 1), some (.ref (bk d)), some (.int x), some (.int u), some (.int md), some (.ref (bk o)), none, none] [.int z] (hp_H C) 0 0 (mm_D (some (.ref (bk o))) (ad_C C d o x u md)) := by
    intro z hz9
    refine ev_istore (pc := 31) d_S_add_31 (Nat.le_of_ble_eq_true rfl) rfl ?_
    try dsimp only [List.set]
    refine ev_iload (pc := 33) d_S_add_33 rfl ?_
    refine ev_iload (pc := 35) d_S_add_35 rfl ?_
    refine ev_iconst (pc := 37) (v := -1) d_S_add_37 rfl ?_
    refine ev_ixor (pc := 38) d_S_add_38 ?_
    refine ev_aload_n (pc := 39) d_S_add_39 rfl rfl (by first | rfl | exact mm_rk_rf _) ?_
    refine ev_gI (pc := 40) (by assumption) (by rfl) fl_S_95 d_S_add_40 ?_
    refine ev_ior (pc := 43) d_S_add_43 ?_
    refine ev_iand (pc := 44) d_S_add_44 ?_
    refine ev_istore (pc := 45) d_S_add_45 (Nat.le_of_ble_eq_true rfl) rfl ?_
    try dsimp only [List.set]
    rw [hz9, show (md &&& (((if (md &&& 2048) = 0 then (438 : Int32) else 511) ^^^ (-1)) ||| C (bk d) 8)) = ad_m C d md from rfl]
    refine ev_aload_n (pc := 47) d_S_add_47 rfl rfl (by first | rfl | exact mm_rk_rf _) ?_
    refine ev_dup (pc := 48) d_S_add_48 (by rfl) ?_
    refine ev_gI (pc := 49) sh_S (by rfl) fl_S_98 d_S_add_49 ?_
    refine ev_iconst (pc := 52) (v := 1) d_S_add_52 rfl ?_
    refine ev_iadd (pc := 53) d_S_add_53 ?_
    refine ev_pI (pc := 54) sh_S (by rfl) fl_S_98 fw_6_2 (by rfl) d_S_add_54 ?_
    refine ev_aload (pc := 57) d_S_add_57 rfl (by first | rfl | exact mm_rk_rf _) ?_
    refine ev_aload_n (pc := 59) d_S_add_59 rfl rfl (by first | rfl | exact mm_rk_rf _) ?_
    refine ev_gI (pc := 60) sh_S (by rfl) fl_S_98 d_S_add_60 ?_
    rw [cs_at]
    refine ev_aload_n (pc := 63) d_S_add_63 rfl rfl (by first | rfl | exact mm_rk_rf _) ?_
    refine ev_gI (pc := 64) (by assumption) (by rfl) fl_S_26 d_S_add_64 ?_
    rw [cs_ne _ _ (by omega)]
    refine ev_iload_n (pc := 67) d_S_add_67 rfl rfl ?_
    refine ev_iload_n (pc := 68) d_S_add_68 rfl rfl ?_
    refine ev_aload_n (pc := 69) d_S_add_69 rfl rfl (by first | rfl | exact mm_rk_rf _) ?_
    refine ev_gI (pc := 70) (by assumption) (by rfl) fl_S_101 d_S_add_70 ?_
    rw [cs_ne _ _ (by omega)]
    refine ev_iload (pc := 73) d_S_add_73 rfl ?_
    refine ev_cVv (pc := 75) (ct_B_begin E _ s2 _ _ _ _ _ _) cl_S_18 jv_B_begin ⟨(Nat.le_of_ble_eq_true rfl), (Nat.le_of_ble_eq_true rfl)⟩ rfl (by assumption) rfl (Nat.le_of_ble_eq_true rfl) d_S_add_75 ⟨Nat.zero_le _, Nat.zero_le _⟩ ?_
    refine ev_aload (pc := 78) d_S_add_78 rfl (by first | rfl | exact mm_rk_rf _) ?_
    refine ev_iconst (pc := 80) (v := 0) d_S_add_80 rfl ?_
    refine ev_cVv (pc := 81) (ct_B_enter E _ s2 0) cl_S_22 jv_B_enter ⟨(Nat.le_of_ble_eq_true rfl), (Nat.le_of_ble_eq_true rfl)⟩ rfl (by assumption) rfl (Nat.le_of_ble_eq_true rfl) d_S_add_81 ⟨Nat.zero_le _, Nat.zero_le _⟩ ?_
    refine ev_aload_n (pc := 84) d_S_add_84 rfl rfl (by first | rfl | exact mm_rk_rf _) ?_
    refine ev_dup (pc := 85) d_S_add_85 (by rfl) ?_
    refine ev_gI (pc := 86) (by assumption) (by rfl) fl_S_104 d_S_add_86 ?_
    refine ev_iconst (pc := 89) (v := 1) d_S_add_89 rfl ?_
    refine ev_iadd (pc := 90) d_S_add_90 ?_
    have e : bl_ent (bl_beg (cs_C C 1 2 (C 1 2 + 1)) (bk o) (C 1 2 + 1) (C (bk d) 2) x u (C (bk d) 6) (ad_m C d md)) (bk o) 0 (bk d) 7 = C (bk d) 7 := by
      unfold bl_ent bl_beg
      repeat rw [cs_ne _ _ (by omega)]
    rw [e]
    refine ev_pI (pc := 91) (by assumption) (by rfl) fl_S_104 fw_0_7 (by rfl) d_S_add_91 ?_
    refine ev_aload (pc := 94) d_S_add_94 rfl (by first | rfl | exact mm_rk_rf _) ?_
    exact ev_aret (pc := 96) d_S_add_96 ⟨_, rfl⟩ (by first | rfl | exact mm_rk_rf _) (Nat.zero_le _) (Nat.zero_le _) ⟨rfl, rfl⟩
  refine mm_mtL (by decide) (by rfl) (Nat.le_of_ble_eq_true rfl) rfl ?_
  refine ev_aload_n (pc := 0) d_S_add_0 rfl rfl (by first | rfl | exact mm_rk_rf _) ?_
  refine ev_cV (pc := 1) hF cl_S_84 jv_S_freeBlock ⟨(Nat.le_of_ble_eq_true rfl), (Nat.le_of_ble_eq_true rfl)⟩ rfl sh_S rfl (Nat.le_of_ble_eq_true rfl) d_S_add_1 ⟨Nat.zero_le _, Nat.zero_le _⟩ ?_
  refine ev_astore (pc := 4) d_S_add_4 (by first | rfl | exact mm_rk_rf _) (Nat.le_of_ble_eq_true rfl) rfl ?_
  try dsimp only [List.set]
  refine ev_aload (pc := 6) d_S_add_6 rfl (by first | rfl | exact mm_rk_rf _) ?_
  refine ev_ifnonnullR (pc := 8) (tgt := 13) d_S_add_8 (by decide) ?_
  refine ev_iload (pc := 13) d_S_add_13 rfl ?_
  refine ev_sipush (pc := 15) (v := 2048) d_S_add_15 (by decide) ?_
  refine ev_iand (pc := 18) d_S_add_18 ?_
  refine ev_if_eq (pc := 19) (tgt := 28) d_S_add_19 (by decide) (fun ha => ?_) (fun ha => ?_)
  · refine ev_sipush (pc := 28) (v := 438) d_S_add_28 (by decide) ?_
    exact t31 438 (by rw [if_pos ha])
  · refine ev_sipush (pc := 22) (v := 511) d_S_add_22 (by decide) ?_
    refine ev_goto (pc := 25) (tgt := 31) d_S_add_25 (by decide) ?_
    exact t31 511 (by rw [if_neg ha])
set_option maxRecDepth 20000 in
theorem ct_S_addN (E : mm_En) (C : Nat → Nat → Int32) {d : Nat} (hf : so_fr C = none) (x u md : Int32) : mm_MT E K_S_add [.ref 1, .ref (bk d), .int x, .int u, .int md] (hp_H C) (mm_D (some .null) C) := by
  have hF := ct_S_freeBlock E C
  rw [hf] at hF
  refine mm_mtL (by decide) (by rfl) (Nat.le_of_ble_eq_true rfl) rfl ?_
  refine ev_aload_n (pc := 0) d_S_add_0 rfl rfl (by first | rfl | exact mm_rk_rf _) ?_
  refine ev_cV (pc := 1) hF cl_S_84 jv_S_freeBlock ⟨(Nat.le_of_ble_eq_true rfl), (Nat.le_of_ble_eq_true rfl)⟩ rfl sh_S rfl (Nat.le_of_ble_eq_true rfl) d_S_add_1 ⟨Nat.zero_le _, Nat.zero_le _⟩ ?_
  refine ev_astore (pc := 4) d_S_add_4 (by first | rfl | exact mm_rk_rf _) (Nat.le_of_ble_eq_true rfl) rfl ?_
  try dsimp only [List.set]
  refine ev_aload (pc := 6) d_S_add_6 rfl (by first | rfl | exact mm_rk_rf _) ?_
  refine ev_ifnonnullN (pc := 8) d_S_add_8 ?_
  refine ev_null (pc := 11) d_S_add_11 ?_
  exact ev_aret (pc := 12) d_S_add_12 ⟨_, rfl⟩ (by first | rfl | exact mm_rk_rf _) (Nat.zero_le _) (Nat.zero_le _) ⟨rfl, rfl⟩
def wa_1 (C : Nat → Nat → Int32) (i : Nat) : Nat → Nat → Int32 := if C 203 1 = -1 then C else cs_C C (bk i) 8 ((C (bk i) 8 &&& 2048) ||| C 203 1)
def wa_2 (C : Nat → Nat → Int32) (i l k : Nat) : Nat → Nat → Int32 := if C 203 2 = -1 then C else cs_C (bl_sl C (bk i) l k) (bk i) 7 (C (bk i) 7 + 1)
def wa_3 (C : Nat → Nat → Int32) (i : Nat) : Nat → Nat → Int32 := if C 203 3 = -1 then C else cs_C C (bk i) 6 (C 203 3)
def wa_C (C : Nat → Nat → Int32) (i l k : Nat) : Nat → Nat → Int32 := wa_3 (wa_2 (wa_1 C i) i l k) i
theorem d_W_applyTo_0 : decode b_W_applyTo 0 = .ok (.aload_n 0, 1) := by decide +kernel
theorem d_W_applyTo_1 : decode b_W_applyTo 1 = .ok (.getfield 21, 3) := by decide +kernel
theorem d_W_applyTo_4 : decode b_W_applyTo 4 = .ok (.iconst (-1), 1) := by decide +kernel
theorem d_W_applyTo_5 : decode b_W_applyTo 5 = .ok (.if_icmp .eq 20, 3) := by decide +kernel
theorem d_W_applyTo_8 : decode b_W_applyTo 8 = .ok (.aload_n 1, 1) := by decide +kernel
theorem d_W_applyTo_9 : decode b_W_applyTo 9 = .ok (.aload_n 1, 1) := by decide +kernel
theorem d_W_applyTo_10 : decode b_W_applyTo 10 = .ok (.getfield 46, 3) := by decide +kernel
theorem d_W_applyTo_13 : decode b_W_applyTo 13 = .ok (.sipush 2048, 3) := by decide +kernel
theorem d_W_applyTo_16 : decode b_W_applyTo 16 = .ok (.iand, 1) := by decide +kernel
theorem d_W_applyTo_17 : decode b_W_applyTo 17 = .ok (.aload_n 0, 1) := by decide +kernel
theorem d_W_applyTo_18 : decode b_W_applyTo 18 = .ok (.getfield 21, 3) := by decide +kernel
theorem d_W_applyTo_21 : decode b_W_applyTo 21 = .ok (.ior, 1) := by decide +kernel
theorem d_W_applyTo_22 : decode b_W_applyTo 22 = .ok (.putfield 46, 3) := by decide +kernel
theorem d_W_applyTo_25 : decode b_W_applyTo 25 = .ok (.aload_n 0, 1) := by decide +kernel
theorem d_W_applyTo_26 : decode b_W_applyTo 26 = .ok (.getfield 24, 3) := by decide +kernel
theorem d_W_applyTo_29 : decode b_W_applyTo 29 = .ok (.iconst (-1), 1) := by decide +kernel
theorem d_W_applyTo_30 : decode b_W_applyTo 30 = .ok (.if_icmp .eq 21, 3) := by decide +kernel
theorem d_W_applyTo_33 : decode b_W_applyTo 33 = .ok (.aload_n 1, 1) := by decide +kernel
theorem d_W_applyTo_34 : decode b_W_applyTo 34 = .ok (.aload_n 0, 1) := by decide +kernel
theorem d_W_applyTo_35 : decode b_W_applyTo 35 = .ok (.getfield 24, 3) := by decide +kernel
theorem d_W_applyTo_38 : decode b_W_applyTo 38 = .ok (.invokevirtual 47, 3) := by decide +kernel
theorem d_W_applyTo_41 : decode b_W_applyTo 41 = .ok (.aload_n 1, 1) := by decide +kernel
theorem d_W_applyTo_42 : decode b_W_applyTo 42 = .ok (.dup, 1) := by decide +kernel
theorem d_W_applyTo_43 : decode b_W_applyTo 43 = .ok (.getfield 51, 3) := by decide +kernel
theorem d_W_applyTo_46 : decode b_W_applyTo 46 = .ok (.iconst 1, 1) := by decide +kernel
theorem d_W_applyTo_47 : decode b_W_applyTo 47 = .ok (.iadd, 1) := by decide +kernel
theorem d_W_applyTo_48 : decode b_W_applyTo 48 = .ok (.putfield 51, 3) := by decide +kernel
theorem d_W_applyTo_51 : decode b_W_applyTo 51 = .ok (.aload_n 0, 1) := by decide +kernel
theorem d_W_applyTo_52 : decode b_W_applyTo 52 = .ok (.getfield 27, 3) := by decide +kernel
theorem d_W_applyTo_55 : decode b_W_applyTo 55 = .ok (.iconst (-1), 1) := by decide +kernel
theorem d_W_applyTo_56 : decode b_W_applyTo 56 = .ok (.if_icmp .eq 11, 3) := by decide +kernel
theorem d_W_applyTo_59 : decode b_W_applyTo 59 = .ok (.aload_n 1, 1) := by decide +kernel
theorem d_W_applyTo_60 : decode b_W_applyTo 60 = .ok (.aload_n 0, 1) := by decide +kernel
theorem d_W_applyTo_61 : decode b_W_applyTo 61 = .ok (.getfield 27, 3) := by decide +kernel
theorem d_W_applyTo_64 : decode b_W_applyTo 64 = .ok (.putfield 54, 3) := by decide +kernel
theorem d_W_applyTo_67 : decode b_W_applyTo 67 = .ok (.return_, 1) := by decide +kernel
set_option maxHeartbeats 2000000 in
set_option maxRecDepth 20000 in
theorem ct_W_applyTo (E : mm_En) (C : Nat → Nat → Int32) {i l k : Nat} (hi : i < 64) (hl : C (bk i) 9 = nI l) (h1 : l ≤ 16) (hk : C 203 2 = -1 ∨ C 203 2 = nI k) (h2 : k ≤ 16) : mm_MT E K_W_applyTo [.ref 203, .ref (bk i)] (hp_H C) (mm_D none (wa_C C i l k)) := by
  have s1 := bk_s hi
  have n := bk_ne hi
  have t51 : ∀ C : Nat → Nat → Int32, ev_At E K_W_applyTo 51 [some (.ref 203), some (.ref (bk i))] [] (hp_H C) 0 0 (mm_D none (wa_3 C i)) := by
    intro C
    refine ev_aload_n (pc := 51) d_W_applyTo_51 rfl rfl (by first | rfl | exact mm_rk_rf _) ?_
    refine ev_gI (pc := 52) sh_W (by rfl) fl_W_27 d_W_applyTo_52 ?_
    refine ev_iconst (pc := 55) (v := -1) d_W_applyTo_55 rfl ?_
    refine ev_icmp_eq (pc := 56) (tgt := 67) d_W_applyTo_56 (by decide) (fun ha => ?_) (fun ha => ?_)
    · exact ev_vret (pc := 67) d_W_applyTo_67 rfl (Nat.zero_le _) (Nat.zero_le _) ⟨rfl, by rw [wa_3, if_pos ha]⟩
    · refine ev_aload_n (pc := 59) d_W_applyTo_59 rfl rfl (by first | rfl | exact mm_rk_rf _) ?_
      refine ev_aload_n (pc := 60) d_W_applyTo_60 rfl rfl (by first | rfl | exact mm_rk_rf _) ?_
      refine ev_gI (pc := 61) sh_W (by rfl) fl_W_27 d_W_applyTo_61 ?_
      refine ev_pI (pc := 64) (by assumption) (by rfl) fl_W_54 fw_0_6 (by rfl) d_W_applyTo_64 ?_
      exact ev_vret (pc := 67) d_W_applyTo_67 rfl (Nat.zero_le _) (Nat.zero_le _) ⟨rfl, by rw [wa_3, if_neg ha]⟩
  have t25 : ∀ C : Nat → Nat → Int32, C (bk i) 9 = nI l → (C 203 2 = -1 ∨ C 203 2 = nI k) → ev_At E K_W_applyTo 25 [some (.ref 203), some (.ref (bk i))] [] (hp_H C) 0 0 (mm_D none (wa_3 (wa_2 C i l k) i)) := by
    intro C hl hk
    refine ev_aload_n (pc := 25) d_W_applyTo_25 rfl rfl (by first | rfl | exact mm_rk_rf _) ?_
    refine ev_gI (pc := 26) sh_W (by rfl) fl_W_24 d_W_applyTo_26 ?_
    refine ev_iconst (pc := 29) (v := -1) d_W_applyTo_29 rfl ?_
    refine ev_icmp_eq (pc := 30) (tgt := 51) d_W_applyTo_30 (by decide) (fun ha => ?_) (fun ha => ?_)
    · rw [wa_2, if_pos ha]
      exact t51 C
    · rw [wa_2, if_neg ha]
      have hk' := hk.resolve_left ha
      refine ev_aload_n (pc := 33) d_W_applyTo_33 rfl rfl (by first | rfl | exact mm_rk_rf _) ?_
      refine ev_aload_n (pc := 34) d_W_applyTo_34 rfl rfl (by first | rfl | exact mm_rk_rf _) ?_
      refine ev_gI (pc := 35) sh_W (by rfl) fl_W_24 d_W_applyTo_35 ?_
      rw [hk']
      refine ev_cVv (pc := 38) (ct_B_setLength E C s1 (bk_a hi) hl h1 h2) cl_W_47 jv_B_setLength ⟨(Nat.le_of_ble_eq_true rfl), (Nat.le_of_ble_eq_true rfl)⟩ rfl (by assumption) rfl (Nat.le_of_ble_eq_true rfl) d_W_applyTo_38 ⟨Nat.zero_le _, Nat.zero_le _⟩ ?_
      refine ev_aload_n (pc := 41) d_W_applyTo_41 rfl rfl (by first | rfl | exact mm_rk_rf _) ?_
      refine ev_dup (pc := 42) d_W_applyTo_42 (by rfl) ?_
      refine ev_gI (pc := 43) (by assumption) (by rfl) fl_W_51 d_W_applyTo_43 ?_
      refine ev_iconst (pc := 46) (v := 1) d_W_applyTo_46 rfl ?_
      refine ev_iadd (pc := 47) d_W_applyTo_47 ?_
      have e : bl_sl C (bk i) l k (bk i) 7 = C (bk i) 7 := by
        unfold bl_sl bl_z
        rw [cs_ne _ _ (by omega), if_neg (by omega)]
      rw [e]
      refine ev_pI (pc := 48) (by assumption) (by rfl) fl_W_51 fw_0_7 (by rfl) d_W_applyTo_48 ?_
      exact t51 _
  refine mm_mtL (by decide) (by rfl) (Nat.le_of_ble_eq_true rfl) rfl ?_
  refine ev_aload_n (pc := 0) d_W_applyTo_0 rfl rfl (by first | rfl | exact mm_rk_rf _) ?_
  refine ev_gI (pc := 1) sh_W (by rfl) fl_W_21 d_W_applyTo_1 ?_
  refine ev_iconst (pc := 4) (v := -1) d_W_applyTo_4 rfl ?_
  refine ev_icmp_eq (pc := 5) (tgt := 25) d_W_applyTo_5 (by decide) (fun ha => ?_) (fun ha => ?_)
  · rw [wa_C, wa_1, if_pos ha]
    exact t25 C hl hk
  · rw [wa_C, wa_1, if_neg ha]
    refine ev_aload_n (pc := 8) d_W_applyTo_8 rfl rfl (by first | rfl | exact mm_rk_rf _) ?_
    refine ev_aload_n (pc := 9) d_W_applyTo_9 rfl rfl (by first | rfl | exact mm_rk_rf _) ?_
    refine ev_gI (pc := 10) (by assumption) (by rfl) fl_W_46 d_W_applyTo_10 ?_
    refine ev_sipush (pc := 13) (v := 2048) d_W_applyTo_13 (by decide) ?_
    refine ev_iand (pc := 16) d_W_applyTo_16 ?_
    refine ev_aload_n (pc := 17) d_W_applyTo_17 rfl rfl (by first | rfl | exact mm_rk_rf _) ?_
    refine ev_gI (pc := 18) sh_W (by rfl) fl_W_21 d_W_applyTo_18 ?_
    refine ev_ior (pc := 21) d_W_applyTo_21 ?_
    refine ev_pI (pc := 22) (by assumption) (by rfl) fl_W_46 fw_0_8 (by rfl) d_W_applyTo_22 ?_
    exact t25 _ (by rw [cs_ne _ _ (by omega)]; exact hl) (by rw [cs_ne _ _ (by omega)]; exact hk)
