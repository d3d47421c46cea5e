/-! Read, walk, wstat. -/
noncomputable def xq_R (C : Nat → Nat → Int32) (f t : Nat) (x y : Int32) : Int32 × (Nat → Nat → Int32) := if C f 0 = 0 then (-1, C) else if C f 1 = 0 ∨ (C f 5 &&& 3) = 1 then (-8, C) else (match so_i C t (C f 4) with
  | none => (-13, C)
  | some i => if x < 0 ∨ y < 0 ∨ 8 < y then (-7, C) else if (C (bk i) 8 &&& 2048) = 0 then (nI (min (ln_ C (bk i) - x.toNatClampNeg) y.toNatClampNeg), rb_C C (bk i) x.toNatClampNeg (min (ln_ C (bk i) - x.toNatClampNeg) y.toNatClampNeg)) else if ¬ x = 0 ∧ ¬ x = C f 6 then (-7, C) else (nI (rt_f t (bk i) x.toNatClampNeg y.toNatClampNeg 8 C 0 (cb_f C t (C (bk i) 2) 0 64 0 none) 0).1, cs_C (rt_f t (bk i) x.toNatClampNeg y.toNatClampNeg 8 C 0 (cb_f C t (C (bk i) 2) 0 64 0 none) 0).2 f 6 (x + nI (rt_f t (bk i) x.toNatClampNeg y.toNatClampNeg 8 C 0 (cb_f C t (C (bk i) 2) 0 64 0 none) 0).1)))
theorem d_X_read_0 : decode b_X_read 0 = .ok (.aload_n 1, 1) := by decide +kernel
theorem d_X_read_1 : decode b_X_read 1 = .ok (.getfield 116, 3) := by decide +kernel
theorem d_X_read_4 : decode b_X_read 4 = .ok (.ifCond .ne 5, 3) := by decide +kernel
theorem d_X_read_7 : decode b_X_read 7 = .ok (.iconst (-1), 1) := by decide +kernel
theorem d_X_read_8 : decode b_X_read 8 = .ok (.ireturn, 1) := by decide +kernel
theorem d_X_read_9 : decode b_X_read 9 = .ok (.aload_n 1, 1) := by decide +kernel
theorem d_X_read_10 : decode b_X_read 10 = .ok (.getfield 121, 3) := by decide +kernel
theorem d_X_read_13 : decode b_X_read 13 = .ok (.ifCond .eq 13, 3) := by decide +kernel
theorem d_X_read_16 : decode b_X_read 16 = .ok (.aload_n 1, 1) := by decide +kernel
theorem d_X_read_17 : decode b_X_read 17 = .ok (.getfield 317, 3) := by decide +kernel
theorem d_X_read_20 : decode b_X_read 20 = .ok (.invokestatic 291, 3) := by decide +kernel
theorem d_X_read_23 : decode b_X_read 23 = .ok (.ifCond .ne 6, 3) := by decide +kernel
theorem d_X_read_26 : decode b_X_read 26 = .ok (.bipush (-8), 2) := by decide +kernel
theorem d_X_read_28 : decode b_X_read 28 = .ok (.ireturn, 1) := by decide +kernel
theorem d_X_read_29 : decode b_X_read 29 = .ok (.aload_n 0, 1) := by decide +kernel
theorem d_X_read_30 : decode b_X_read 30 = .ok (.aload_n 1, 1) := by decide +kernel
theorem d_X_read_31 : decode b_X_read 31 = .ok (.invokevirtual 217, 3) := by decide +kernel
theorem d_X_read_34 : decode b_X_read 34 = .ok (.astore 4, 2) := by decide +kernel
theorem d_X_read_36 : decode b_X_read 36 = .ok (.aload 4, 2) := by decide +kernel
theorem d_X_read_38 : decode b_X_read 38 = .ok (.ifnonnull 6, 3) := by decide +kernel
theorem d_X_read_41 : decode b_X_read 41 = .ok (.bipush (-13), 2) := by decide +kernel
theorem d_X_read_43 : decode b_X_read 43 = .ok (.ireturn, 1) := by decide +kernel
theorem d_X_read_44 : decode b_X_read 44 = .ok (.iload_n 2, 1) := by decide +kernel
theorem d_X_read_45 : decode b_X_read 45 = .ok (.ifCond .lt 13, 3) := by decide +kernel
theorem d_X_read_48 : decode b_X_read 48 = .ok (.iload_n 3, 1) := by decide +kernel
theorem d_X_read_49 : decode b_X_read 49 = .ok (.ifCond .lt 9, 3) := by decide +kernel
theorem d_X_read_52 : decode b_X_read 52 = .ok (.iload_n 3, 1) := by decide +kernel
theorem d_X_read_53 : decode b_X_read 53 = .ok (.bipush 8, 2) := by decide +kernel
theorem d_X_read_55 : decode b_X_read 55 = .ok (.if_icmp .le 6, 3) := by decide +kernel
theorem d_X_read_58 : decode b_X_read 58 = .ok (.bipush (-7), 2) := by decide +kernel
theorem d_X_read_60 : decode b_X_read 60 = .ok (.ireturn, 1) := by decide +kernel
theorem d_X_read_61 : decode b_X_read 61 = .ok (.aload 4, 2) := by decide +kernel
theorem d_X_read_63 : decode b_X_read 63 = .ok (.invokevirtual 247, 3) := by decide +kernel
theorem d_X_read_66 : decode b_X_read 66 = .ok (.ifCond .ne 12, 3) := by decide +kernel
theorem d_X_read_69 : decode b_X_read 69 = .ok (.aload_n 0, 1) := by decide +kernel
theorem d_X_read_70 : decode b_X_read 70 = .ok (.aload 4, 2) := by decide +kernel
theorem d_X_read_72 : decode b_X_read 72 = .ok (.iload_n 2, 1) := by decide +kernel
theorem d_X_read_73 : decode b_X_read 73 = .ok (.iload_n 3, 1) := by decide +kernel
theorem d_X_read_74 : decode b_X_read 74 = .ok (.invokevirtual 320, 3) := by decide +kernel
theorem d_X_read_77 : decode b_X_read 77 = .ok (.ireturn, 1) := by decide +kernel
theorem d_X_read_78 : decode b_X_read 78 = .ok (.iload_n 2, 1) := by decide +kernel
theorem d_X_read_79 : decode b_X_read 79 = .ok (.ifCond .eq 14, 3) := by decide +kernel
theorem d_X_read_82 : decode b_X_read 82 = .ok (.iload_n 2, 1) := by decide +kernel
theorem d_X_read_83 : decode b_X_read 83 = .ok (.aload_n 1, 1) := by decide +kernel
theorem d_X_read_84 : decode b_X_read 84 = .ok (.getfield 324, 3) := by decide +kernel
theorem d_X_read_87 : decode b_X_read 87 = .ok (.if_icmp .eq 6, 3) := by decide +kernel
theorem d_X_read_90 : decode b_X_read 90 = .ok (.bipush (-7), 2) := by decide +kernel
theorem d_X_read_92 : decode b_X_read 92 = .ok (.ireturn, 1) := by decide +kernel
theorem d_X_read_93 : decode b_X_read 93 = .ok (.aload_n 0, 1) := by decide +kernel
theorem d_X_read_94 : decode b_X_read 94 = .ok (.aload_n 1, 1) := by decide +kernel
theorem d_X_read_95 : decode b_X_read 95 = .ok (.getfield 225, 3) := by decide +kernel
theorem d_X_read_98 : decode b_X_read 98 = .ok (.aload 4, 2) := by decide +kernel
theorem d_X_read_100 : decode b_X_read 100 = .ok (.iload_n 2, 1) := by decide +kernel
theorem d_X_read_101 : decode b_X_read 101 = .ok (.iload_n 3, 1) := by decide +kernel
theorem d_X_read_102 : decode b_X_read 102 = .ok (.invokevirtual 327, 3) := by decide +kernel
theorem d_X_read_105 : decode b_X_read 105 = .ok (.istore 5, 2) := by decide +kernel
theorem d_X_read_107 : decode b_X_read 107 = .ok (.aload_n 1, 1) := by decide +kernel
theorem d_X_read_108 : decode b_X_read 108 = .ok (.iload_n 2, 1) := by decide +kernel
theorem d_X_read_109 : decode b_X_read 109 = .ok (.iload 5, 2) := by decide +kernel
theorem d_X_read_111 : decode b_X_read 111 = .ok (.iadd, 1) := by decide +kernel
theorem d_X_read_112 : decode b_X_read 112 = .ok (.putfield 324, 3) := by decide +kernel
theorem d_X_read_115 : decode b_X_read 115 = .ok (.iload 5, 2) := by decide +kernel
theorem d_X_read_117 : decode b_X_read 117 = .ok (.ireturn, 1) := by decide +kernel
set_option maxHeartbeats 2000000 in
set_option maxRecDepth 20000 in
theorem ct_X_read (E : mm_En) (C : Nat → Nat → Int32) {f t : Nat} (hf : fi_n f) (ht : t ≤ 4) (he : C f 3 = nI t) (hk : C 201 1 = nI 0) (hln : ln_ok C) (x y : Int32) : mm_MT E K_X_read [.ref 0, .ref f, .int x, .int y] (hp_H C) (mm_D (some (.int (xq_R C f t x y).1)) (xq_R C f t x y).2) := by
  obtain ⟨s1, f1, f2⟩ := hf
  refine mm_mtL (by decide) (by rfl) (Nat.le_of_ble_eq_true rfl) rfl ?_
  refine ev_aload_n (pc := 0) d_X_read_0 rfl rfl (by first | rfl | exact mm_rk_rf _) ?_
  refine ev_gI (pc := 1) (by first | with_reducible assumption | assumption) (by rfl) fl_X_116 d_X_read_1 ?_
  refine ev_if_ne (pc := 4) (tgt := 9) d_X_read_4 (by decide) (fun ha => ?_) (fun ha => ?_)
  rotate_left
  · refine ev_iconst (pc := 7) (v := -1) d_X_read_7 rfl ?_
    exact ev_iret (pc := 8) d_X_read_8 rfl (Nat.zero_le _) (Nat.zero_le _) ⟨by rw [xq_R, if_pos ha], by rw [xq_R, if_pos ha]⟩
  refine ev_aload_n (pc := 9) d_X_read_9 rfl rfl (by first | rfl | exact mm_rk_rf _) ?_
  refine ev_gI (pc := 10) (by first | with_reducible assumption | assumption) (by rfl) fl_X_121 d_X_read_10 ?_
  refine ev_if_eq (pc := 13) (tgt := 26) d_X_read_13 (by decide) (fun hb => ?_) (fun hb => ?_)
  · refine ev_bipush (pc := 26) (v := -8) d_X_read_26 (by decide) ?_
    exact ev_iret (pc := 28) d_X_read_28 rfl (Nat.zero_le _) (Nat.zero_le _) ⟨by rw [xq_R, if_neg ha, if_pos (Or.inl hb)], by rw [xq_R, if_neg ha, if_pos (Or.inl hb)]⟩
  refine ev_aload_n (pc := 16) d_X_read_16 rfl rfl (by first | rfl | exact mm_rk_rf _) ?_
  refine ev_gI (pc := 17) (by first | with_reducible assumption | assumption) (by rfl) fl_X_317 d_X_read_17 ?_
  refine ev_cS (pc := 20) (ct_X_isForReading E C _) cl_X_291 js_X_isForReading ⟨(Nat.le_of_ble_eq_true rfl), (Nat.le_of_ble_eq_true rfl)⟩ rfl rfl (Nat.le_of_ble_eq_true rfl) d_X_read_20 ⟨Nat.zero_le _, Nat.zero_le _⟩ ?_
  refine ev_if_ne (pc := 23) (tgt := 29) d_X_read_23 (by decide) (fun hc => ?_) (fun hc => ?_)
  rotate_left
  · rw [b2_0, Classical.not_not] at hc
    refine ev_bipush (pc := 26) (v := -8) d_X_read_26 (by decide) ?_
    exact ev_iret (pc := 28) d_X_read_28 rfl (Nat.zero_le _) (Nat.zero_le _) ⟨by rw [xq_R, if_neg ha, if_pos (Or.inr hc)], by rw [xq_R, if_neg ha, if_pos (Or.inr hc)]⟩
  rw [b2_0, Classical.not_not] at hc
  have hbc : ¬ (C f 1 = 0 ∨ (C f 5 &&& 3) = 1) := fun z => z.elim hb hc
  refine ev_aload_n (pc := 29) d_X_read_29 rfl rfl (by first | rfl | exact mm_rk_rf _) ?_
  refine ev_aload_n (pc := 30) d_X_read_30 rfl rfl (by first | rfl | exact mm_rk_rf _) ?_
  refine ev_cV (pc := 31) (ct_X_nodeOf E C s1 (by omega) he) cl_X_217 jv_X_nodeOf ⟨(Nat.le_of_ble_eq_true rfl), (Nat.le_of_ble_eq_true rfl)⟩ rfl sh_X rfl (Nat.le_of_ble_eq_true rfl) d_X_read_31 ⟨Nat.zero_le _, Nat.zero_le _⟩ ?_
  refine ev_astore (pc := 34) d_X_read_34 (by first | rfl | exact mm_rk_rf _) (Nat.le_of_ble_eq_true rfl) rfl ?_
  try dsimp only [List.set]
  refine ev_aload (pc := 36) d_X_read_36 rfl (by first | rfl | exact mm_rk_rf _) ?_
  cases hq : so_i C t (C f 4) with
  | none =>
    refine ev_ifnonnullN (pc := 38) d_X_read_38 ?_
    refine ev_bipush (pc := 41) (v := -13) d_X_read_41 (by decide) ?_
    exact ev_iret (pc := 43) d_X_read_43 rfl (Nat.zero_le _) (Nat.zero_le _) ⟨by rw [xq_R, if_neg ha, if_neg hbc, hq], by rw [xq_R, if_neg ha, if_neg hbc, hq]⟩
  | some i =>
    have hi := so_i_lt hq
    have s3 := bk_s hi
    obtain ⟨l1, l2⟩ := ln_at hln hi
    refine ev_ifnonnullR (pc := 38) (tgt := 44) d_X_read_38 (by decide) ?_
    refine ev_eq rfl (show _ = [some (.ref 0), some (.ref f), some (.int x), some (.int y), some (.ref (bk i)), none] from rfl) rfl rfl rfl rfl ?_
    have bad : (x < 0 ∨ y < 0 ∨ 8 < y) → mm_D (some (.int (xq_R C f t x y).1)) (xq_R C f t x y).2 (some (.int (-7))) (hp_H C) := fun z => ⟨by rw [xq_R, if_neg ha, if_neg hbc, hq]; simp only []; rw [if_pos z], by rw [xq_R, if_neg ha, if_neg hbc, hq]; simp only []; rw [if_pos z]⟩
    refine ev_iload_n (pc := 44) d_X_read_44 rfl rfl ?_
    refine ev_if_lt (pc := 45) (tgt := 58) d_X_read_45 (by decide) (fun hd => ?_) (fun hd => ?_)
    · refine ev_bipush (pc := 58) (v := -7) d_X_read_58 (by decide) ?_
      exact ev_iret (pc := 60) d_X_read_60 rfl (Nat.zero_le _) (Nat.zero_le _) (bad (Or.inl hd))
    refine ev_iload_n (pc := 48) d_X_read_48 rfl rfl ?_
    refine ev_if_lt (pc := 49) (tgt := 58) d_X_read_49 (by decide) (fun hg => ?_) (fun hg => ?_)
    · refine ev_bipush (pc := 58) (v := -7) d_X_read_58 (by decide) ?_
      exact ev_iret (pc := 60) d_X_read_60 rfl (Nat.zero_le _) (Nat.zero_le _) (bad (Or.inr (Or.inl hg)))
    refine ev_iload_n (pc := 52) d_X_read_52 rfl rfl ?_
    refine ev_bipush (pc := 53) (v := 8) d_X_read_53 (by decide) ?_
    refine ev_icmp_le (pc := 55) (tgt := 61) d_X_read_55 (by decide) (fun hj => ?_) (fun hj => ?_)
    rotate_left
    · refine ev_bipush (pc := 58) (v := -7) d_X_read_58 (by decide) ?_
      exact ev_iret (pc := 60) d_X_read_60 rfl (Nat.zero_le _) (Nat.zero_le _) (bad (Or.inr (Or.inr (Int32.not_le.mp hj))))
    have hok : ¬ (x < 0 ∨ y < 0 ∨ 8 < y) := fun z => z.elim hd (fun q => q.elim hg (Int32.not_lt.mpr hj))
    obtain ⟨a, ha31, rfl⟩ : ∃ a : Nat, a < 2 ^ 31 ∧ x = nI a := nI_of hd
    obtain ⟨c, hc8, rfl⟩ : ∃ c : Nat, c ≤ 8 ∧ y = nI c := nI_of2 (M := 8) (n := 8) (by decide) hg hj
    have e1 : xq_R C f t (nI a) (nI c) = (if (C (bk i) 8 &&& 2048) = 0 then (nI (min (ln_ C (bk i) - a) c), rb_C C (bk i) a (min (ln_ C (bk i) - a) c)) else if ¬ nI a = 0 ∧ ¬ nI a = C f 6 then (-7, C) else (nI (rt_f t (bk i) a c 8 C 0 (cb_f C t (C (bk i) 2) 0 64 0 none) 0).1, cs_C (rt_f t (bk i) a c 8 C 0 (cb_f C t (C (bk i) 2) 0 64 0 none) 0).2 f 6 (nI a + nI (rt_f t (bk i) a c 8 C 0 (cb_f C t (C (bk i) 2) 0 64 0 none) 0).1))) := by
      rw [xq_R, if_neg ha, if_neg hbc, hq]
      simp only []
      rw [if_neg hok, nI_clamp ha31, nI_clamp (show c < 2 ^ 31 by omega)]
    rw [e1]
    refine ev_aload (pc := 61) d_X_read_61 rfl (by first | rfl | exact mm_rk_rf _) ?_
    refine ev_cV (pc := 63) (ct_B_isDirectory E C s3) cl_X_247 jv_B_isDirectory ⟨(Nat.le_of_ble_eq_true rfl), (Nat.le_of_ble_eq_true rfl)⟩ rfl (by first | with_reducible assumption | assumption) rfl (Nat.le_of_ble_eq_true rfl) d_X_read_63 ⟨Nat.zero_le _, Nat.zero_le _⟩ ?_
    refine ev_if_ne (pc := 66) (tgt := 78) d_X_read_66 (by decide) (fun hl => ?_) (fun hl => ?_)
    rotate_left
    · rw [b2_0, Classical.not_not] at hl
      rw [if_pos hl]
      refine ev_aload_n (pc := 69) d_X_read_69 rfl rfl (by first | rfl | exact mm_rk_rf _) ?_
      refine ev_aload (pc := 70) d_X_read_70 rfl (by first | rfl | exact mm_rk_rf _) ?_
      refine ev_iload_n (pc := 72) d_X_read_72 rfl rfl ?_
      refine ev_iload_n (pc := 73) d_X_read_73 rfl rfl ?_
      refine ev_cV (pc := 74) (ct_X_readBytes E C hi ha31 hc8 l1 l2 hk) cl_X_320 jv_X_readBytes ⟨(Nat.le_of_ble_eq_true rfl), (Nat.le_of_ble_eq_true rfl)⟩ rfl sh_X rfl (Nat.le_of_ble_eq_true rfl) d_X_read_74 ⟨Nat.zero_le _, Nat.zero_le _⟩ ?_
      exact ev_iret (pc := 77) d_X_read_77 rfl (Nat.zero_le _) (Nat.zero_le _) ⟨rfl, rfl⟩
    rw [b2_0, Classical.not_not] at hl
    rw [if_neg hl]
    have t93 : ¬ (¬ nI a = 0 ∧ ¬ nI a = C f 6) → ev_At E K_X_read 93 [some (.ref 0), some (.ref f), some (.int (nI a)), some (.int (nI c)), some (.ref (bk i)), none] [] (hp_H C) 0 0 (mm_D (some (.int (if ¬ nI a = 0 ∧ ¬ nI a = C f 6 then (-7, C) else (nI (rt_f t (bk i) a c 8 C 0 (cb_f C t (C (bk i) 2) 0 64 0 none) 0).1, cs_C (rt_f t (bk i) a c 8 C 0 (cb_f C t (C (bk i) 2) 0 64 0 none) 0).2 f 6 (nI a + nI (rt_f t (bk i) a c 8 C 0 (cb_f C t (C (bk i) 2) 0 64 0 none) 0).1))).1)) (if ¬ nI a = 0 ∧ ¬ nI a = C f 6 then (-7, C) else (nI (rt_f t (bk i) a c 8 C 0 (cb_f C t (C (bk i) 2) 0 64 0 none) 0).1, cs_C (rt_f t (bk i) a c 8 C 0 (cb_f C t (C (bk i) 2) 0 64 0 none) 0).2 f 6 (nI a + nI (rt_f t (bk i) a c 8 C 0 (cb_f C t (C (bk i) 2) 0 64 0 none) 0).1))).2) := by
      intro z
      rw [if_neg z]
      have hM := ct_X_readTitles E C (t := t) (by omega) hi ha31 hc8 hk
      generalize rt_f t (bk i) a c 8 C 0 (cb_f C t (C (bk i) 2) 0 64 0 none) 0 = R at hM ⊢
      refine ev_aload_n (pc := 93) d_X_read_93 rfl rfl (by first | rfl | exact mm_rk_rf _) ?_
      refine ev_aload_n (pc := 94) d_X_read_94 rfl rfl (by first | rfl | exact mm_rk_rf _) ?_
      refine ev_gI (pc := 95) (by first | with_reducible assumption | assumption) (by rfl) fl_X_225 d_X_read_95 ?_
      rw [he]
      refine ev_aload (pc := 98) d_X_read_98 rfl (by first | rfl | exact mm_rk_rf _) ?_
      refine ev_iload_n (pc := 100) d_X_read_100 rfl rfl ?_
      refine ev_iload_n (pc := 101) d_X_read_101 rfl rfl ?_
      refine ev_cV (pc := 102) hM cl_X_327 jv_X_readTitles ⟨(Nat.le_of_ble_eq_true rfl), (Nat.le_of_ble_eq_true rfl)⟩ rfl sh_X rfl (Nat.le_of_ble_eq_true rfl) d_X_read_102 ⟨Nat.zero_le _, Nat.zero_le _⟩ ?_
      refine ev_istore (pc := 105) d_X_read_105 (Nat.le_of_ble_eq_true rfl) rfl ?_
      try dsimp only [List.set]
      refine ev_aload_n (pc := 107) d_X_read_107 rfl rfl (by first | rfl | exact mm_rk_rf _) ?_
      refine ev_iload_n (pc := 108) d_X_read_108 rfl rfl ?_
      refine ev_iload (pc := 109) d_X_read_109 rfl ?_
      refine ev_iadd (pc := 111) d_X_read_111 ?_
      refine ev_pI (pc := 112) (by first | with_reducible assumption | assumption) (by rfl) fl_X_324 fw_2_6 (by rfl) d_X_read_112 ?_
      refine ev_iload (pc := 115) d_X_read_115 rfl ?_
      exact ev_iret (pc := 117) d_X_read_117 rfl (Nat.zero_le _) (Nat.zero_le _) ⟨rfl, rfl⟩
    refine ev_iload_n (pc := 78) d_X_read_78 rfl rfl ?_
    refine ev_if_eq (pc := 79) (tgt := 93) d_X_read_79 (by decide) (fun hm => ?_) (fun hm => ?_)
    · exact t93 (fun z => z.1 hm)
    refine ev_iload_n (pc := 82) d_X_read_82 rfl rfl ?_
    refine ev_aload_n (pc := 83) d_X_read_83 rfl rfl (by first | rfl | exact mm_rk_rf _) ?_
    refine ev_gI (pc := 84) (by first | with_reducible assumption | assumption) (by rfl) fl_X_324 d_X_read_84 ?_
    refine ev_icmp_eq (pc := 87) (tgt := 93) d_X_read_87 (by decide) (fun hn => ?_) (fun hn => ?_)
    · exact t93 (fun z => z.2 hn)
    · refine ev_bipush (pc := 90) (v := -7) d_X_read_90 (by decide) ?_
      exact ev_iret (pc := 92) d_X_read_92 rfl (Nat.zero_le _) (Nat.zero_le _) ⟨by rw [if_pos ⟨hm, hn⟩], by rw [if_pos ⟨hm, hn⟩]⟩
/-- the next node of a walk -/
def wt_n (C : Nat → Nat → Int32) (t h : Nat) (x : Int32) : Option Nat := if x = 0 then so_i C t (C (bk h) 3) else so_chi C t (C (bk h) 2) x
noncomputable def wt_f (C : Nat → Nat → Int32) (g : Nat) (u : Int32) (t r k : Nat) : Nat → Nat → Nat → Int32 × (Nat → Nat → Int32)
  | 0, _, h => (nI (k - 1), rp_m (fi_take C g u (nI t) (C (bk h) 2)) (bk h) 0)
  | d + 1, i, h => if ¬ xh_step C u h (wt_n C t h (C (r + 1) i)) = 0 then (if i = 1 then (xh_step C u h (wt_n C t h (C (r + 1) i)), C) else (nI (i - 1), rp_m C (bk h) 0)) else wt_f C g u t r k d (i + 1) ((wt_n C t h (C (r + 1) i)).getD h)
theorem so_chi_lt {C : Nat → Nat → Int32} {t : Nat} {p x : Int32} {i : Nat} (h : so_chi C t p x = some i) : i < 64 := by
  unfold so_chi at h
  cases hq : cb_f C t p (x - 1) 64 0 none with
  | none => rw [hq] at h; cases h
  | some j =>
    rw [hq] at h
    simp only [] at h
    split at h
    · cases h
      exact cb_f_lt 64 0 none (by omega) (fun l h => by cases h) _ hq
    · cases h
theorem wt_lt {C : Nat → Nat → Int32} {t h i : Nat} {x : Int32} (hq : wt_n C t h x = some i) : i < 64 := by
  unfold wt_n at hq
  split at hq
  · exact so_i_lt hq
  · exact so_chi_lt hq
theorem xh_none {C : Nat → Nat → Int32} {u : Int32} {h : Nat} (z : xh_step C u h none = 0) : False := by
  unfold xh_step at z
  split at z
  · exact absurd z (by decide)
  · by_cases hm : my_P C u h 1
    · rw [it_t hm, if_pos rfl] at z
      exact absurd z (by decide)
    · rw [it_f hm] at z
      exact absurd z (by decide)
theorem d_X_walkTitles_0 : decode b_X_walkTitles 0 = .ok (.aload_n 3, 1) := by decide +kernel
theorem d_X_walkTitles_1 : decode b_X_walkTitles 1 = .ok (.astore 5, 2) := by decide +kernel
theorem d_X_walkTitles_3 : decode b_X_walkTitles 3 = .ok (.iconst 1, 1) := by decide +kernel
theorem d_X_walkTitles_4 : decode b_X_walkTitles 4 = .ok (.istore 6, 2) := by decide +kernel
theorem d_X_walkTitles_6 : decode b_X_walkTitles 6 = .ok (.iload 6, 2) := by decide +kernel
theorem d_X_walkTitles_8 : decode b_X_walkTitles 8 = .ok (.aload 4, 2) := by decide +kernel
theorem d_X_walkTitles_10 : decode b_X_walkTitles 10 = .ok (.getfield 61, 3) := by decide +kernel
theorem d_X_walkTitles_13 : decode b_X_walkTitles 13 = .ok (.if_icmp .ge 107, 3) := by decide +kernel
theorem d_X_walkTitles_16 : decode b_X_walkTitles 16 = .ok (.aload 4, 2) := by decide +kernel
theorem d_X_walkTitles_18 : decode b_X_walkTitles 18 = .ok (.iload 6, 2) := by decide +kernel
theorem d_X_walkTitles_20 : decode b_X_walkTitles 20 = .ok (.invokevirtual 104, 3) := by decide +kernel
theorem d_X_walkTitles_23 : decode b_X_walkTitles 23 = .ok (.istore 7, 2) := by decide +kernel
theorem d_X_walkTitles_25 : decode b_X_walkTitles 25 = .ok (.iload 7, 2) := by decide +kernel
theorem d_X_walkTitles_27 : decode b_X_walkTitles 27 = .ok (.ifCond .ne 22, 3) := by decide +kernel
theorem d_X_walkTitles_30 : decode b_X_walkTitles 30 = .ok (.aload_n 0, 1) := by decide +kernel
theorem d_X_walkTitles_31 : decode b_X_walkTitles 31 = .ok (.getfield 12, 3) := by decide +kernel
theorem d_X_walkTitles_34 : decode b_X_walkTitles 34 = .ok (.aload_n 1, 1) := by decide +kernel
theorem d_X_walkTitles_35 : decode b_X_walkTitles 35 = .ok (.getfield 225, 3) := by decide +kernel
theorem d_X_walkTitles_38 : decode b_X_walkTitles 38 = .ok (.aload 5, 2) := by decide +kernel
theorem d_X_walkTitles_40 : decode b_X_walkTitles 40 = .ok (.getfield 228, 3) := by decide +kernel
theorem d_X_walkTitles_43 : decode b_X_walkTitles 43 = .ok (.invokevirtual 205, 3) := by decide +kernel
theorem d_X_walkTitles_46 : decode b_X_walkTitles 46 = .ok (.goto 18, 3) := by decide +kernel
theorem d_X_walkTitles_49 : decode b_X_walkTitles 49 = .ok (.aload_n 0, 1) := by decide +kernel
theorem d_X_walkTitles_50 : decode b_X_walkTitles 50 = .ok (.getfield 12, 3) := by decide +kernel
theorem d_X_walkTitles_53 : decode b_X_walkTitles 53 = .ok (.aload_n 1, 1) := by decide +kernel
theorem d_X_walkTitles_54 : decode b_X_walkTitles 54 = .ok (.getfield 225, 3) := by decide +kernel
theorem d_X_walkTitles_57 : decode b_X_walkTitles 57 = .ok (.aload 5, 2) := by decide +kernel
theorem d_X_walkTitles_59 : decode b_X_walkTitles 59 = .ok (.iload 7, 2) := by decide +kernel
theorem d_X_walkTitles_61 : decode b_X_walkTitles 61 = .ok (.invokevirtual 233, 3) := by decide +kernel
theorem d_X_walkTitles_64 : decode b_X_walkTitles 64 = .ok (.astore 8, 2) := by decide +kernel
theorem d_X_walkTitles_66 : decode b_X_walkTitles 66 = .ok (.aload_n 0, 1) := by decide +kernel
theorem d_X_walkTitles_67 : decode b_X_walkTitles 67 = .ok (.aload_n 1, 1) := by decide +kernel
theorem d_X_walkTitles_68 : decode b_X_walkTitles 68 = .ok (.getfield 237, 3) := by decide +kernel
theorem d_X_walkTitles_71 : decode b_X_walkTitles 71 = .ok (.aload 5, 2) := by decide +kernel
theorem d_X_walkTitles_73 : decode b_X_walkTitles 73 = .ok (.aload 8, 2) := by decide +kernel
theorem d_X_walkTitles_75 : decode b_X_walkTitles 75 = .ok (.invokevirtual 240, 3) := by decide +kernel
theorem d_X_walkTitles_78 : decode b_X_walkTitles 78 = .ok (.istore 9, 2) := by decide +kernel
theorem d_X_walkTitles_80 : decode b_X_walkTitles 80 = .ok (.iload 9, 2) := by decide +kernel
theorem d_X_walkTitles_82 : decode b_X_walkTitles 82 = .ok (.ifCond .eq 12, 3) := by decide +kernel
theorem d_X_walkTitles_85 : decode b_X_walkTitles 85 = .ok (.iload 6, 2) := by decide +kernel
theorem d_X_walkTitles_87 : decode b_X_walkTitles 87 = .ok (.iconst 1, 1) := by decide +kernel
theorem d_X_walkTitles_88 : decode b_X_walkTitles 88 = .ok (.if_icmp .ne 6, 3) := by decide +kernel
theorem d_X_walkTitles_91 : decode b_X_walkTitles 91 = .ok (.iload 9, 2) := by decide +kernel
theorem d_X_walkTitles_93 : decode b_X_walkTitles 93 = .ok (.ireturn, 1) := by decide +kernel
theorem d_X_walkTitles_94 : decode b_X_walkTitles 94 = .ok (.iload 9, 2) := by decide +kernel
theorem d_X_walkTitles_96 : decode b_X_walkTitles 96 = .ok (.ifCond .eq 14, 3) := by decide +kernel
theorem d_X_walkTitles_99 : decode b_X_walkTitles 99 = .ok (.aload_n 0, 1) := by decide +kernel
theorem d_X_walkTitles_100 : decode b_X_walkTitles 100 = .ok (.aload 5, 2) := by decide +kernel
theorem d_X_walkTitles_102 : decode b_X_walkTitles 102 = .ok (.invokevirtual 213, 3) := by decide +kernel
theorem d_X_walkTitles_105 : decode b_X_walkTitles 105 = .ok (.iload 6, 2) := by decide +kernel
theorem d_X_walkTitles_107 : decode b_X_walkTitles 107 = .ok (.iconst 1, 1) := by decide +kernel
theorem d_X_walkTitles_108 : decode b_X_walkTitles 108 = .ok (.isub, 1) := by decide +kernel
theorem d_X_walkTitles_109 : decode b_X_walkTitles 109 = .ok (.ireturn, 1) := by decide +kernel
theorem d_X_walkTitles_110 : decode b_X_walkTitles 110 = .ok (.aload 8, 2) := by decide +kernel
theorem d_X_walkTitles_112 : decode b_X_walkTitles 112 = .ok (.astore 5, 2) := by decide +kernel
theorem d_X_walkTitles_114 : decode b_X_walkTitles 114 = .ok (.iinc 6 1, 3) := by decide +kernel
theorem d_X_walkTitles_117 : decode b_X_walkTitles 117 = .ok (.goto (-111), 3) := by decide +kernel
theorem d_X_walkTitles_120 : decode b_X_walkTitles 120 = .ok (.aload_n 2, 1) := by decide +kernel
theorem d_X_walkTitles_121 : decode b_X_walkTitles 121 = .ok (.aload_n 1, 1) := by decide +kernel
theorem d_X_walkTitles_122 : decode b_X_walkTitles 122 = .ok (.getfield 237, 3) := by decide +kernel
theorem d_X_walkTitles_125 : decode b_X_walkTitles 125 = .ok (.aload_n 1, 1) := by decide +kernel
theorem d_X_walkTitles_126 : decode b_X_walkTitles 126 = .ok (.getfield 225, 3) := by decide +kernel
theorem d_X_walkTitles_129 : decode b_X_walkTitles 129 = .ok (.aload 5, 2) := by decide +kernel
theorem d_X_walkTitles_131 : decode b_X_walkTitles 131 = .ok (.getfield 244, 3) := by decide +kernel
theorem d_X_walkTitles_134 : decode b_X_walkTitles 134 = .ok (.invokevirtual 209, 3) := by decide +kernel
theorem d_X_walkTitles_137 : decode b_X_walkTitles 137 = .ok (.aload_n 0, 1) := by decide +kernel
theorem d_X_walkTitles_138 : decode b_X_walkTitles 138 = .ok (.aload 5, 2) := by decide +kernel
theorem d_X_walkTitles_140 : decode b_X_walkTitles 140 = .ok (.invokevirtual 213, 3) := by decide +kernel
theorem d_X_walkTitles_143 : decode b_X_walkTitles 143 = .ok (.aload 4, 2) := by decide +kernel
theorem d_X_walkTitles_145 : decode b_X_walkTitles 145 = .ok (.getfield 61, 3) := by decide +kernel
theorem d_X_walkTitles_148 : decode b_X_walkTitles 148 = .ok (.iconst 1, 1) := by decide +kernel
theorem d_X_walkTitles_149 : decode b_X_walkTitles 149 = .ok (.isub, 1) := by decide +kernel
theorem d_X_walkTitles_150 : decode b_X_walkTitles 150 = .ok (.ireturn, 1) := by decide +kernel
set_option maxHeartbeats 4000000 in
set_option maxRecDepth 20000 in
theorem ct_X_walkTitles (E : mm_En) (C : Nat → Nat → Int32) {f g t r k h0 : Nat} (hf : fi_n f) (hg : fi_n g) (ht : t ≤ 4) (he : C f 3 = nI t) (hr : rw_s r 4) (hr1 : 131 ≤ r) (hr2 : r ≠ 201 ∧ r ≠ 202 ∧ r ≠ g) (hk : C r 1 = nI k) (k1 : 1 ≤ k) (k4 : k ≤ 4) (h64 : h0 < 64) (hrp : C 201 1 = nI 0) : mm_MT E K_X_walkTitles [.ref 0, .ref f, .ref g, .ref (bk h0), .ref r] (hp_H C) (mm_D (some (.int (wt_f C g (C f 2) t r k (k - 1) 1 h0).1)) (wt_f C g (C f 2) t r k (k - 1) 1 h0).2) := by
  obtain ⟨s1, f1, f2⟩ := hf
  obtain ⟨s2, q1, q2⟩ := hg
  have hr0 := hr
  obtain ⟨g1, g2⟩ := hr
  have loop : ∀ d i h : Nat, i + d = k → 1 ≤ i → h < 64 → ev_At E K_X_walkTitles 6 [some (.ref 0), some (.ref f), some (.ref g), some (.ref (bk h0)), some (.ref r), some (.ref (bk h)), some (.int (nI i)), none, none, none] [] (hp_H C) 0 0 (mm_D (some (.int (wt_f C g (C f 2) t r k d i h).1)) (wt_f C g (C f 2) t r k d i h).2) := by
    intro d
    induction d with
    | zero =>
      intro i h hi hi1 hh
      have hik : i = k := by omega
      subst hik
      have s3 := bk_s hh
      refine ev_iload (pc := 6) d_X_walkTitles_6 rfl ?_
      refine ev_aload (pc := 8) d_X_walkTitles_8 rfl (by first | rfl | exact mm_rk_rf _) ?_
      refine ev_gI (pc := 10) (by first | exact sh_said | exact sh_rep | with_reducible assumption | assumption) (by rfl) fl_X_61 d_X_walkTitles_10 ?_
      rw [hk]
      refine ev_icmp_ge (pc := 13) (tgt := 120) d_X_walkTitles_13 (by decide) (fun ha => ?_) (fun ha => ?_)
      rotate_left
      · exact absurd (nI_le (Nat.le_refl i) (by omega)) ha
      refine ev_aload_n (pc := 120) d_X_walkTitles_120 rfl rfl (by first | rfl | exact mm_rk_rf _) ?_
      refine ev_aload_n (pc := 121) d_X_walkTitles_121 rfl rfl (by first | rfl | exact mm_rk_rf _) ?_
      refine ev_gI (pc := 122) (by first | with_reducible assumption | assumption) (by rfl) fl_X_237 d_X_walkTitles_122 ?_
      refine ev_aload_n (pc := 125) d_X_walkTitles_125 rfl rfl (by first | rfl | exact mm_rk_rf _) ?_
      refine ev_gI (pc := 126) (by first | with_reducible assumption | assumption) (by rfl) fl_X_225 d_X_walkTitles_126 ?_
      rw [he]
      refine ev_aload (pc := 129) d_X_walkTitles_129 rfl (by first | rfl | exact mm_rk_rf _) ?_
      refine ev_gI (pc := 131) (by first | with_reducible assumption | assumption) (by rfl) fl_X_244 d_X_walkTitles_131 ?_
      refine ev_cVv (pc := 134) (ct_F_take E C s2 _ _ _) cl_X_209 jv_F_take ⟨(Nat.le_of_ble_eq_true rfl), (Nat.le_of_ble_eq_true rfl)⟩ rfl (by first | with_reducible assumption | assumption) rfl (Nat.le_of_ble_eq_true rfl) d_X_walkTitles_134 ⟨Nat.zero_le _, Nat.zero_le _⟩ ?_
      refine ev_aload_n (pc := 137) d_X_walkTitles_137 rfl rfl (by first | rfl | exact mm_rk_rf _) ?_
      refine ev_aload (pc := 138) d_X_walkTitles_138 rfl (by first | rfl | exact mm_rk_rf _) ?_
      refine ev_cVv (pc := 140) (ct_X_replyWithMode E _ hh (k := 0) (by rw [ft_ne (by omega)]; exact hrp) (by decide)) cl_X_213 jv_X_replyWithMode ⟨(Nat.le_of_ble_eq_true rfl), (Nat.le_of_ble_eq_true rfl)⟩ rfl sh_X rfl (Nat.le_of_ble_eq_true rfl) d_X_walkTitles_140 ⟨Nat.zero_le _, Nat.zero_le _⟩ ?_
      refine ev_aload (pc := 143) d_X_walkTitles_143 rfl (by first | rfl | exact mm_rk_rf _) ?_
      refine ev_gI (pc := 145) (by first | exact sh_said | exact sh_rep | with_reducible assumption | assumption) (by rfl) fl_X_61 d_X_walkTitles_145 ?_
      rw [rp_mne (by omega) (by omega), ft_ne (by omega), hk]
      refine ev_iconst (pc := 148) (v := 1) d_X_walkTitles_148 rfl ?_
      refine ev_isub (pc := 149) d_X_walkTitles_149 ?_
      rw [show nI i - 1 = nI (i - 1) from pk_sub (a := i) (b := 1) hi1]
      exact ev_iret (pc := 150) d_X_walkTitles_150 rfl (Nat.zero_le _) (Nat.zero_le _) ⟨rfl, rfl⟩
    | succ d ih =>
      intro i h hi hi1 hh
      have s3 := bk_s hh
      have eat := rw_at_in (C := C) hk (show i < k by omega) k4 (by decide)
      have hM := ct_R_at E C hr0 (by decide) (nI i)
      rw [eat] at hM
      have t64 : ev_At E K_X_walkTitles 64 [some (.ref 0), some (.ref f), some (.ref g), some (.ref (bk h0)), some (.ref r), some (.ref (bk h)), some (.int (nI i)), some (.int (C (r + 1) i)), none, none] [va_rf ((wt_n C t h (C (r + 1) i)).map bk)] (hp_H C) 0 0 (mm_D (some (.int (wt_f C g (C f 2) t r k (d + 1) i h).1)) (wt_f C g (C f 2) t r k (d + 1) i h).2) := by
        refine ev_astore (pc := 64) d_X_walkTitles_64 (by first | rfl | exact mm_rk_rf _) (Nat.le_of_ble_eq_true rfl) rfl ?_
        try dsimp only [List.set]
        refine ev_aload_n (pc := 66) d_X_walkTitles_66 rfl rfl (by first | rfl | exact mm_rk_rf _) ?_
        refine ev_aload_n (pc := 67) d_X_walkTitles_67 rfl rfl (by first | rfl | exact mm_rk_rf _) ?_
        refine ev_gI (pc := 68) (by first | with_reducible assumption | assumption) (by rfl) fl_X_237 d_X_walkTitles_68 ?_
        refine ev_aload (pc := 71) d_X_walkTitles_71 rfl (by first | rfl | exact mm_rk_rf _) ?_
        refine ev_aload (pc := 73) d_X_walkTitles_73 rfl (by first | rfl | exact mm_rk_rf _) ?_
        refine ev_cV (pc := 75) (ct_X_hindranceOfStep E C hh _ _) cl_X_240 jv_X_hindranceOfStep ⟨(Nat.le_of_ble_eq_true rfl), (Nat.le_of_ble_eq_true rfl)⟩ rfl sh_X rfl (Nat.le_of_ble_eq_true rfl) d_X_walkTitles_75 ⟨Nat.zero_le _, Nat.zero_le _⟩ ?_
        refine ev_istore (pc := 78) d_X_walkTitles_78 (Nat.le_of_ble_eq_true rfl) rfl ?_
        try dsimp only [List.set]
        refine ev_iload (pc := 80) d_X_walkTitles_80 rfl ?_
        refine ev_if_eq (pc := 82) (tgt := 94) d_X_walkTitles_82 (by decide) (fun hb => ?_) (fun hb => ?_)
        · refine ev_iload (pc := 94) d_X_walkTitles_94 rfl ?_
          refine ev_if_eq (pc := 96) (tgt := 110) d_X_walkTitles_96 (by decide) (fun hb2 => ?_) (fun hb2 => ?_)
          rotate_left
          · exact absurd hb hb2
          have e1 : wt_f C g (C f 2) t r k (d + 1) i h = wt_f C g (C f 2) t r k d (i + 1) ((wt_n C t h (C (r + 1) i)).getD h) := by
            rw [wt_f, if_neg (fun z => z hb)]
          rw [e1]
          cases hq : wt_n C t h (C (r + 1) i) with
          | none =>
            rw [hq] at hb
            exact (xh_none hb).elim
          | some h' =>
            refine ev_aload (pc := 110) (v := .ref (bk h')) d_X_walkTitles_110 rfl rfl ?_
            refine ev_astore (pc := 112) d_X_walkTitles_112 (by first | rfl | exact mm_rk_rf _) (Nat.le_of_ble_eq_true rfl) rfl ?_
            try dsimp only [List.set]
            refine ev_iinc (pc := 114) d_X_walkTitles_114 (Nat.le_of_ble_eq_true rfl) rfl (nx_inc _) rfl ?_
            try dsimp only [List.set]
            refine ev_goto (pc := 117) (tgt := 6) d_X_walkTitles_117 (by decide) ?_
            refine ev_forget (L' := [some (.ref 0), some (.ref f), some (.ref g), some (.ref (bk h0)), some (.ref r), some (.ref (bk h')), some (.int (nI (i + 1))), none, none, none]) (by simp [mm_le]) ?_
            exact ih (i + 1) h' (by omega) (by omega) (wt_lt hq)
        refine ev_iload (pc := 85) d_X_walkTitles_85 rfl ?_
        refine ev_iconst (pc := 87) (v := 1) d_X_walkTitles_87 rfl ?_
        refine ev_icmp_ne (pc := 88) (tgt := 94) d_X_walkTitles_88 (by decide) (fun hc => ?_) (fun hc => ?_)
        · have h1 : ¬ i = 1 := fun z => hc (by rw [z]; rfl)
          refine ev_iload (pc := 94) d_X_walkTitles_94 rfl ?_
          refine ev_if_eq (pc := 96) (tgt := 110) d_X_walkTitles_96 (by decide) (fun hb2 => ?_) (fun hb2 => ?_)
          · exact absurd hb2 hb
          refine ev_aload_n (pc := 99) d_X_walkTitles_99 rfl rfl (by first | rfl | exact mm_rk_rf _) ?_
          refine ev_aload (pc := 100) d_X_walkTitles_100 rfl (by first | rfl | exact mm_rk_rf _) ?_
          refine ev_cVv (pc := 102) (ct_X_replyWithMode E C hh hrp (by decide)) cl_X_213 jv_X_replyWithMode ⟨(Nat.le_of_ble_eq_true rfl), (Nat.le_of_ble_eq_true rfl)⟩ rfl sh_X rfl (Nat.le_of_ble_eq_true rfl) d_X_walkTitles_102 ⟨Nat.zero_le _, Nat.zero_le _⟩ ?_
          refine ev_iload (pc := 105) d_X_walkTitles_105 rfl ?_
          refine ev_iconst (pc := 107) (v := 1) d_X_walkTitles_107 rfl ?_
          refine ev_isub (pc := 108) d_X_walkTitles_108 ?_
          rw [show nI i - 1 = nI (i - 1) from pk_sub (a := i) (b := 1) hi1]
          exact ev_iret (pc := 109) d_X_walkTitles_109 rfl (Nat.zero_le _) (Nat.zero_le _) ⟨by rw [wt_f, if_pos hb, if_neg h1], by rw [wt_f, if_pos hb, if_neg h1]⟩
        · have h1 : i = 1 := (nI_eq (a := i) (b := 1) (by omega) (by decide)).mp hc
          refine ev_iload (pc := 91) d_X_walkTitles_91 rfl ?_
          exact ev_iret (pc := 93) d_X_walkTitles_93 rfl (Nat.zero_le _) (Nat.zero_le _) ⟨by rw [wt_f, if_pos hb, if_pos h1], by rw [wt_f, if_pos hb, if_pos h1]⟩
      refine ev_iload (pc := 6) d_X_walkTitles_6 rfl ?_
      refine ev_aload (pc := 8) d_X_walkTitles_8 rfl (by first | rfl | exact mm_rk_rf _) ?_
      refine ev_gI (pc := 10) (by first | exact sh_said | exact sh_rep | with_reducible assumption | assumption) (by rfl) fl_X_61 d_X_walkTitles_10 ?_
      rw [hk]
      refine ev_icmp_ge (pc := 13) (tgt := 120) d_X_walkTitles_13 (by decide) (fun ha => ?_) (fun ha => ?_)
      · exact absurd ha (nI_ge (show i < k by omega) (by omega))
      refine ev_aload (pc := 16) d_X_walkTitles_16 rfl (by first | rfl | exact mm_rk_rf _) ?_
      refine ev_iload (pc := 18) d_X_walkTitles_18 rfl ?_
      refine ev_cV (pc := 20) hM cl_X_104 jv_R_at ⟨(Nat.le_of_ble_eq_true rfl), (Nat.le_of_ble_eq_true rfl)⟩ rfl (by first | exact sh_said | exact sh_rep | with_reducible assumption | assumption) rfl (Nat.le_of_ble_eq_true rfl) d_X_walkTitles_20 ⟨Nat.zero_le _, Nat.zero_le _⟩ ?_
      refine ev_istore (pc := 23) d_X_walkTitles_23 (Nat.le_of_ble_eq_true rfl) rfl ?_
      try dsimp only [List.set]
      refine ev_iload (pc := 25) d_X_walkTitles_25 rfl ?_
      refine ev_if_ne (pc := 27) (tgt := 49) d_X_walkTitles_27 (by decide) (fun hb => ?_) (fun hb => ?_)
      · refine ev_aload_n (pc := 49) d_X_walkTitles_49 rfl rfl (by first | rfl | exact mm_rk_rf _) ?_
        refine ev_gR (pc := 50) sh_X (by rfl) fl_X_12 d_X_walkTitles_50 ?_
        refine ev_aload_n (pc := 53) d_X_walkTitles_53 rfl rfl (by first | rfl | exact mm_rk_rf _) ?_
        refine ev_gI (pc := 54) (by first | with_reducible assumption | assumption) (by rfl) fl_X_225 d_X_walkTitles_54 ?_
        rw [he]
        refine ev_aload (pc := 57) d_X_walkTitles_57 rfl (by first | rfl | exact mm_rk_rf _) ?_
        refine ev_iload (pc := 59) d_X_walkTitles_59 rfl ?_
        have hM2 := ct_S_child E C (t := t) (by omega) s3 (C (r + 1) i)
        rw [show so_chi C t (C (bk h) 2) (C (r + 1) i) = wt_n C t h (C (r + 1) i) by rw [wt_n, if_neg hb]] at hM2
        refine ev_cV (pc := 61) hM2 cl_X_233 jv_S_child ⟨(Nat.le_of_ble_eq_true rfl), (Nat.le_of_ble_eq_true rfl)⟩ rfl sh_S rfl (Nat.le_of_ble_eq_true rfl) d_X_walkTitles_61 ⟨Nat.zero_le _, Nat.zero_le _⟩ ?_
        exact t64
      · refine ev_aload_n (pc := 30) d_X_walkTitles_30 rfl rfl (by first | rfl | exact mm_rk_rf _) ?_
        refine ev_gR (pc := 31) sh_X (by rfl) fl_X_12 d_X_walkTitles_31 ?_
        refine ev_aload_n (pc := 34) d_X_walkTitles_34 rfl rfl (by first | rfl | exact mm_rk_rf _) ?_
        refine ev_gI (pc := 35) (by first | with_reducible assumption | assumption) (by rfl) fl_X_225 d_X_walkTitles_35 ?_
        rw [he]
        refine ev_aload (pc := 38) d_X_walkTitles_38 rfl (by first | rfl | exact mm_rk_rf _) ?_
        refine ev_gI (pc := 40) (by first | with_reducible assumption | assumption) (by rfl) fl_X_228 d_X_walkTitles_40 ?_
        have hM2 := ct_S_find E C (t := t) (by omega) (C (bk h) 3)
        unfold so_find at hM2
        rw [show so_i C t (C (bk h) 3) = wt_n C t h (C (r + 1) i) by rw [wt_n, if_pos hb]] at hM2
        refine ev_cV (pc := 43) hM2 cl_X_205 jv_S_find ⟨(Nat.le_of_ble_eq_true rfl), (Nat.le_of_ble_eq_true rfl)⟩ rfl sh_S rfl (Nat.le_of_ble_eq_true rfl) d_X_walkTitles_43 ⟨Nat.zero_le _, Nat.zero_le _⟩ ?_
        refine ev_goto (pc := 46) (tgt := 64) d_X_walkTitles_46 (by decide) ?_
        exact t64
  refine mm_mtL (by decide) (by rfl) (Nat.le_of_ble_eq_true rfl) rfl ?_
  refine ev_aload_n (pc := 0) d_X_walkTitles_0 rfl rfl (by first | rfl | exact mm_rk_rf _) ?_
  refine ev_astore (pc := 1) d_X_walkTitles_1 (by first | rfl | exact mm_rk_rf _) (Nat.le_of_ble_eq_true rfl) rfl ?_
  try dsimp only [List.set]
  refine ev_iconst (pc := 3) (v := 1) d_X_walkTitles_3 rfl ?_
  refine ev_istore (pc := 4) d_X_walkTitles_4 (Nat.le_of_ble_eq_true rfl) rfl ?_
  try dsimp only [List.set]
  exact loop (k - 1) 1 h0 (by omega) (Nat.le_refl _) h64
theorem d_X_walk_0 : decode b_X_walk 0 = .ok (.aload_n 2, 1) := by decide +kernel
theorem d_X_walk_1 : decode b_X_walk 1 = .ok (.ifnonnull 6, 3) := by decide +kernel
theorem d_X_walk_4 : decode b_X_walk 4 = .ok (.bipush (-7), 2) := by decide +kernel
theorem d_X_walk_6 : decode b_X_walk 6 = .ok (.ireturn, 1) := by decide +kernel
theorem d_X_walk_7 : decode b_X_walk 7 = .ok (.aload_n 1, 1) := by decide +kernel
theorem d_X_walk_8 : decode b_X_walk 8 = .ok (.getfield 116, 3) := by decide +kernel
theorem d_X_walk_11 : decode b_X_walk 11 = .ok (.ifCond .ne 5, 3) := by decide +kernel
theorem d_X_walk_14 : decode b_X_walk 14 = .ok (.iconst (-1), 1) := by decide +kernel
theorem d_X_walk_15 : decode b_X_walk 15 = .ok (.ireturn, 1) := by decide +kernel
theorem d_X_walk_16 : decode b_X_walk 16 = .ok (.aload_n 1, 1) := by decide +kernel
theorem d_X_walk_17 : decode b_X_walk 17 = .ok (.getfield 121, 3) := by decide +kernel
theorem d_X_walk_20 : decode b_X_walk 20 = .ok (.ifCond .eq 6, 3) := by decide +kernel
theorem d_X_walk_23 : decode b_X_walk 23 = .ok (.bipush (-8), 2) := by decide +kernel
theorem d_X_walk_25 : decode b_X_walk 25 = .ok (.ireturn, 1) := by decide +kernel
theorem d_X_walk_26 : decode b_X_walk 26 = .ok (.aload_n 2, 1) := by decide +kernel
theorem d_X_walk_27 : decode b_X_walk 27 = .ok (.aload_n 1, 1) := by decide +kernel
theorem d_X_walk_28 : decode b_X_walk 28 = .ok (.if_acmp .eq 13, 3) := by decide +kernel
theorem d_X_walk_31 : decode b_X_walk 31 = .ok (.aload_n 2, 1) := by decide +kernel
theorem d_X_walk_32 : decode b_X_walk 32 = .ok (.getfield 116, 3) := by decide +kernel
theorem d_X_walk_35 : decode b_X_walk 35 = .ok (.ifCond .eq 6, 3) := by decide +kernel
theorem d_X_walk_38 : decode b_X_walk 38 = .ok (.bipush (-2), 2) := by decide +kernel
theorem d_X_walk_40 : decode b_X_walk 40 = .ok (.ireturn, 1) := by decide +kernel
theorem d_X_walk_41 : decode b_X_walk 41 = .ok (.aload_n 0, 1) := by decide +kernel
theorem d_X_walk_42 : decode b_X_walk 42 = .ok (.aload_n 1, 1) := by decide +kernel
theorem d_X_walk_43 : decode b_X_walk 43 = .ok (.invokevirtual 217, 3) := by decide +kernel
theorem d_X_walk_46 : decode b_X_walk 46 = .ok (.astore 4, 2) := by decide +kernel
theorem d_X_walk_48 : decode b_X_walk 48 = .ok (.aload 4, 2) := by decide +kernel
theorem d_X_walk_50 : decode b_X_walk 50 = .ok (.ifnonnull 6, 3) := by decide +kernel
theorem d_X_walk_53 : decode b_X_walk 53 = .ok (.bipush (-13), 2) := by decide +kernel
theorem d_X_walk_55 : decode b_X_walk 55 = .ok (.ireturn, 1) := by decide +kernel
theorem d_X_walk_56 : decode b_X_walk 56 = .ok (.aload_n 0, 1) := by decide +kernel
theorem d_X_walk_57 : decode b_X_walk 57 = .ok (.aload_n 1, 1) := by decide +kernel
theorem d_X_walk_58 : decode b_X_walk 58 = .ok (.aload_n 2, 1) := by decide +kernel
theorem d_X_walk_59 : decode b_X_walk 59 = .ok (.aload 4, 2) := by decide +kernel
theorem d_X_walk_61 : decode b_X_walk 61 = .ok (.aload_n 3, 1) := by decide +kernel
theorem d_X_walk_62 : decode b_X_walk 62 = .ok (.invokevirtual 221, 3) := by decide +kernel
theorem d_X_walk_65 : decode b_X_walk 65 = .ok (.ireturn, 1) := by decide +kernel
noncomputable def xW_R (C : Nat → Nat → Int32) (f g t r k : Nat) : Int32 × (Nat → Nat → Int32) := if C f 0 = 0 then (-1, C) else if ¬ C f 1 = 0 then (-8, C) else if ¬ g = f ∧ ¬ C g 0 = 0 then (-2, C) else (match so_i C t (C f 4) with
  | none => (-13, C)
  | some i => wt_f C g (C f 2) t r k (k - 1) 1 i)
set_option maxHeartbeats 2000000 in
set_option maxRecDepth 20000 in
theorem ct_X_walk (E : mm_En) (C : Nat → Nat → Int32) {f g t r k : Nat} (hf : fi_n f) (hg : fi_n g) (ht : t ≤ 4) (he : C f 3 = nI t) (hr : rw_s r 4) (hr1 : 131 ≤ r) (hr2 : r ≠ 201 ∧ r ≠ 202 ∧ r ≠ g) (hk : C r 1 = nI k) (k1 : 1 ≤ k) (k4 : k ≤ 4) (hrp : C 201 1 = nI 0) : mm_MT E K_X_walk [.ref 0, .ref f, .ref g, .ref r] (hp_H C) (mm_D (some (.int (xW_R C f g t r k).1)) (xW_R C f g t r k).2) := by
  have hf0 := hf
  have hg0 := hg
  obtain ⟨s1, f1, f2⟩ := hf
  obtain ⟨s2, q1, q2⟩ := hg
  have t41 : ¬ C f 0 = 0 → C f 1 = 0 → ¬ (¬ g = f ∧ ¬ C g 0 = 0) → ev_At E K_X_walk 41 [some (.ref 0), some (.ref f), some (.ref g), some (.ref r), none] [] (hp_H C) 0 0 (mm_D (some (.int (xW_R C f g t r k).1)) (xW_R C f g t r k).2) := by
    intro ha hb hc
    have hb' : ¬ ¬ C f 1 = 0 := fun z => z hb
    refine ev_aload_n (pc := 41) d_X_walk_41 rfl rfl (by first | rfl | exact mm_rk_rf _) ?_
    refine ev_aload_n (pc := 42) d_X_walk_42 rfl rfl (by first | rfl | exact mm_rk_rf _) ?_
    refine ev_cV (pc := 43) (ct_X_nodeOf E C s1 (by omega) he) cl_X_217 jv_X_nodeOf ⟨(Nat.le_of_ble_eq_true rfl), (Nat.le_of_ble_eq_true rfl)⟩ rfl sh_X rfl (Nat.le_of_ble_eq_true rfl) d_X_walk_43 ⟨Nat.zero_le _, Nat.zero_le _⟩ ?_
    refine ev_astore (pc := 46) d_X_walk_46 (by first | rfl | exact mm_rk_rf _) (Nat.le_of_ble_eq_true rfl) rfl ?_
    try dsimp only [List.set]
    refine ev_aload (pc := 48) d_X_walk_48 rfl (by first | rfl | exact mm_rk_rf _) ?_
    cases hq : so_i C t (C f 4) with
    | none =>
      refine ev_ifnonnullN (pc := 50) d_X_walk_50 ?_
      refine ev_bipush (pc := 53) (v := -13) d_X_walk_53 (by decide) ?_
      exact ev_iret (pc := 55) d_X_walk_55 rfl (Nat.zero_le _) (Nat.zero_le _) ⟨by rw [xW_R, if_neg ha, if_neg hb', if_neg hc, hq], by rw [xW_R, if_neg ha, if_neg hb', if_neg hc, hq]⟩
    | some i =>
      have hi := so_i_lt hq
      refine ev_ifnonnullR (pc := 50) (tgt := 56) d_X_walk_50 (by decide) ?_
      refine ev_eq rfl (show _ = [some (.ref 0), some (.ref f), some (.ref g), some (.ref r), some (.ref (bk i))] from rfl) rfl rfl rfl rfl ?_
      refine ev_aload_n (pc := 56) d_X_walk_56 rfl rfl (by first | rfl | exact mm_rk_rf _) ?_
      refine ev_aload_n (pc := 57) d_X_walk_57 rfl rfl (by first | rfl | exact mm_rk_rf _) ?_
      refine ev_aload_n (pc := 58) d_X_walk_58 rfl rfl (by first | rfl | exact mm_rk_rf _) ?_
      refine ev_aload (pc := 59) d_X_walk_59 rfl (by first | rfl | exact mm_rk_rf _) ?_
      refine ev_aload_n (pc := 61) d_X_walk_61 rfl rfl (by first | rfl | exact mm_rk_rf _) ?_
      refine ev_cV (pc := 62) (ct_X_walkTitles E C hf0 hg0 ht he hr hr1 hr2 hk k1 k4 hi hrp) cl_X_221 jv_X_walkTitles ⟨(Nat.le_of_ble_eq_true rfl), (Nat.le_of_ble_eq_true rfl)⟩ rfl sh_X rfl (Nat.le_of_ble_eq_true rfl) d_X_walk_62 ⟨Nat.zero_le _, Nat.zero_le _⟩ ?_
      exact ev_iret (pc := 65) d_X_walk_65 rfl (Nat.zero_le _) (Nat.zero_le _) ⟨by rw [xW_R, if_neg ha, if_neg hb', if_neg hc, hq], by rw [xW_R, if_neg ha, if_neg hb', if_neg hc, hq]⟩
  refine mm_mtL (by decide) (by rfl) (Nat.le_of_ble_eq_true rfl) rfl ?_
  refine ev_aload_n (pc := 0) d_X_walk_0 rfl rfl (by first | rfl | exact mm_rk_rf _) ?_
  refine ev_ifnonnullR (pc := 1) (tgt := 7) d_X_walk_1 (by decide) ?_
  refine ev_aload_n (pc := 7) d_X_walk_7 rfl rfl (by first | rfl | exact mm_rk_rf _) ?_
  refine ev_gI (pc := 8) (by first | with_reducible assumption | assumption) (by rfl) fl_X_116 d_X_walk_8 ?_
  refine ev_if_ne (pc := 11) (tgt := 16) d_X_walk_11 (by decide) (fun ha => ?_) (fun ha => ?_)
  rotate_left
  · refine ev_iconst (pc := 14) (v := -1) d_X_walk_14 rfl ?_
    exact ev_iret (pc := 15) d_X_walk_15 rfl (Nat.zero_le _) (Nat.zero_le _) ⟨by rw [xW_R, if_pos ha], by rw [xW_R, if_pos ha]⟩
  refine ev_aload_n (pc := 16) d_X_walk_16 rfl rfl (by first | rfl | exact mm_rk_rf _) ?_
  refine ev_gI (pc := 17) (by first | with_reducible assumption | assumption) (by rfl) fl_X_121 d_X_walk_17 ?_
  refine ev_if_eq (pc := 20) (tgt := 26) d_X_walk_20 (by decide) (fun hb => ?_) (fun hb => ?_)
  rotate_left
  · refine ev_bipush (pc := 23) (v := -8) d_X_walk_23 (by decide) ?_
    exact ev_iret (pc := 25) d_X_walk_25 rfl (Nat.zero_le _) (Nat.zero_le _) ⟨by rw [xW_R, if_neg ha, if_pos hb], by rw [xW_R, if_neg ha, if_pos hb]⟩
  have hb' : ¬ ¬ C f 1 = 0 := fun z => z hb
  refine ev_aload_n (pc := 26) d_X_walk_26 rfl rfl (by first | rfl | exact mm_rk_rf _) ?_
  refine ev_aload_n (pc := 27) d_X_walk_27 rfl rfl (by first | rfl | exact mm_rk_rf _) ?_
  refine ev_acmp_eq (pc := 28) (tgt := 41) d_X_walk_28 (by decide) (fun hc => ?_) (fun hc => ?_)
  · exact t41 ha hb (fun z => z.1 hc)
  refine ev_aload_n (pc := 31) d_X_walk_31 rfl rfl (by first | rfl | exact mm_rk_rf _) ?_
  refine ev_gI (pc := 32) (by first | with_reducible assumption | assumption) (by rfl) fl_X_116 d_X_walk_32 ?_
  refine ev_if_eq (pc := 35) (tgt := 41) d_X_walk_35 (by decide) (fun hd => ?_) (fun hd => ?_)
  · exact t41 ha hb (fun z => z.2 hd)
  · refine ev_bipush (pc := 38) (v := -2) d_X_walk_38 (by decide) ?_
    exact ev_iret (pc := 40) d_X_walk_40 rfl (Nat.zero_le _) (Nat.zero_le _) ⟨by rw [xW_R, if_neg ha, if_neg hb', if_pos ⟨hc, hd⟩], by rw [xW_R, if_neg ha, if_neg hb', if_pos ⟨hc, hd⟩]⟩
set_option maxRecDepth 20000 in
theorem ct_X_walkN (E : mm_En) (C : Nat → Nat → Int32) {f r : Nat} : mm_MT E K_X_walk [.ref 0, .ref f, .null, .ref r] (hp_H C) (mm_D (some (.int (-7))) C) := by
  refine mm_mtL (by decide) (by rfl) (Nat.le_of_ble_eq_true rfl) rfl ?_
  refine ev_aload_n (pc := 0) d_X_walk_0 rfl rfl (by first | rfl | exact mm_rk_rf _) ?_
  refine ev_ifnonnullN (pc := 1) d_X_walk_1 ?_
  refine ev_bipush (pc := 4) (v := -7) d_X_walk_4 (by decide) ?_
  exact ev_iret (pc := 6) d_X_walk_6 rfl (Nat.zero_le _) (Nat.zero_le _) ⟨rfl, rfl⟩
