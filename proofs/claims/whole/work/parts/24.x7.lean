/-! Writing and reading. -/
def xw_st (C : Nat → Nat → Int32) (i r : Nat) : Int32 := if (C (bk i) 8 &&& 512) = 0 then C (r + 1) 0 else C (bk i) 9
def xw_fin (C : Nat → Nat → Int32) (i r s c : Nat) : Nat → Nat → Int32 := cs_C (bl_pb (cg_C C i) (bk (ob_i C i)) r (ln_ (cg_C C i) (bk (ob_i C i))) s c) (bk (ob_i C i)) 7 (cg_C C i (bk (ob_i C i)) 7 + 1)
noncomputable def xw_R (C : Nat → Nat → Int32) (f t r k : Nat) : Int32 × (Nat → Nat → Int32) := if C f 0 = 0 then (-1, C) else if C f 1 = 0 ∨ (C f 5 &&& 3) = 0 then (-8, C) else (match so_i C t (C f 4) with
  | none => (-13, C)
  | some i => it_P (¬ C (r + 1) 0 < 0 ∧ ab_P C r k) (if k = 1 then (0, C) else if xw_st C i r ≤ nI (16 - (k - 1)) ∧ so_nb C + (0 + hr_n C 20 (some i)) ≤ 64 then (nI (k - 1), xw_fin C i r (xw_st C i r).toNatClampNeg (k - 1)) else (-11, C)) (-7, C))
theorem d_X_write_0 : decode b_X_write 0 = .ok (.aload_n 1, 1) := by decide +kernel
theorem d_X_write_1 : decode b_X_write 1 = .ok (.getfield 116, 3) := by decide +kernel
theorem d_X_write_4 : decode b_X_write 4 = .ok (.ifCond .ne 5, 3) := by decide +kernel
theorem d_X_write_7 : decode b_X_write 7 = .ok (.iconst (-1), 1) := by decide +kernel
theorem d_X_write_8 : decode b_X_write 8 = .ok (.ireturn, 1) := by decide +kernel
theorem d_X_write_9 : decode b_X_write 9 = .ok (.aload_n 1, 1) := by decide +kernel
theorem d_X_write_10 : decode b_X_write 10 = .ok (.getfield 121, 3) := by decide +kernel
theorem d_X_write_13 : decode b_X_write 13 = .ok (.ifCond .eq 13, 3) := by decide +kernel
theorem d_X_write_16 : decode b_X_write 16 = .ok (.aload_n 1, 1) := by decide +kernel
theorem d_X_write_17 : decode b_X_write 17 = .ok (.getfield 317, 3) := by decide +kernel
theorem d_X_write_20 : decode b_X_write 20 = .ok (.invokestatic 294, 3) := by decide +kernel
theorem d_X_write_23 : decode b_X_write 23 = .ok (.ifCond .ne 6, 3) := by decide +kernel
theorem d_X_write_26 : decode b_X_write 26 = .ok (.bipush (-8), 2) := by decide +kernel
theorem d_X_write_28 : decode b_X_write 28 = .ok (.ireturn, 1) := by decide +kernel
theorem d_X_write_29 : decode b_X_write 29 = .ok (.aload_n 0, 1) := by decide +kernel
theorem d_X_write_30 : decode b_X_write 30 = .ok (.aload_n 1, 1) := by decide +kernel
theorem d_X_write_31 : decode b_X_write 31 = .ok (.invokevirtual 217, 3) := by decide +kernel
theorem d_X_write_34 : decode b_X_write 34 = .ok (.astore_n 3, 1) := by decide +kernel
theorem d_X_write_35 : decode b_X_write 35 = .ok (.aload_n 3, 1) := by decide +kernel
theorem d_X_write_36 : decode b_X_write 36 = .ok (.ifnonnull 6, 3) := by decide +kernel
theorem d_X_write_39 : decode b_X_write 39 = .ok (.bipush (-13), 2) := by decide +kernel
theorem d_X_write_41 : decode b_X_write 41 = .ok (.ireturn, 1) := by decide +kernel
theorem d_X_write_42 : decode b_X_write 42 = .ok (.aload_n 2, 1) := by decide +kernel
theorem d_X_write_43 : decode b_X_write 43 = .ok (.iconst 0, 1) := by decide +kernel
theorem d_X_write_44 : decode b_X_write 44 = .ok (.invokevirtual 104, 3) := by decide +kernel
theorem d_X_write_47 : decode b_X_write 47 = .ok (.ifCond .lt 10, 3) := by decide +kernel
theorem d_X_write_50 : decode b_X_write 50 = .ok (.aload_n 2, 1) := by decide +kernel
theorem d_X_write_51 : decode b_X_write 51 = .ok (.invokestatic 343, 3) := by decide +kernel
theorem d_X_write_54 : decode b_X_write 54 = .ok (.ifCond .ne 6, 3) := by decide +kernel
theorem d_X_write_57 : decode b_X_write 57 = .ok (.bipush (-7), 2) := by decide +kernel
theorem d_X_write_59 : decode b_X_write 59 = .ok (.ireturn, 1) := by decide +kernel
theorem d_X_write_60 : decode b_X_write 60 = .ok (.aload_n 2, 1) := by decide +kernel
theorem d_X_write_61 : decode b_X_write 61 = .ok (.getfield 61, 3) := by decide +kernel
theorem d_X_write_64 : decode b_X_write 64 = .ok (.iconst 1, 1) := by decide +kernel
theorem d_X_write_65 : decode b_X_write 65 = .ok (.isub, 1) := by decide +kernel
theorem d_X_write_66 : decode b_X_write 66 = .ok (.istore 4, 2) := by decide +kernel
theorem d_X_write_68 : decode b_X_write 68 = .ok (.iload 4, 2) := by decide +kernel
theorem d_X_write_70 : decode b_X_write 70 = .ok (.ifCond .ne 5, 3) := by decide +kernel
theorem d_X_write_73 : decode b_X_write 73 = .ok (.iconst 0, 1) := by decide +kernel
theorem d_X_write_74 : decode b_X_write 74 = .ok (.ireturn, 1) := by decide +kernel
theorem d_X_write_75 : decode b_X_write 75 = .ok (.aload_n 3, 1) := by decide +kernel
theorem d_X_write_76 : decode b_X_write 76 = .ok (.sipush 512, 3) := by decide +kernel
theorem d_X_write_79 : decode b_X_write 79 = .ok (.invokevirtual 258, 3) := by decide +kernel
theorem d_X_write_82 : decode b_X_write 82 = .ok (.ifCond .eq 10, 3) := by decide +kernel
theorem d_X_write_85 : decode b_X_write 85 = .ok (.aload_n 3, 1) := by decide +kernel
theorem d_X_write_86 : decode b_X_write 86 = .ok (.getfield 331, 3) := by decide +kernel
theorem d_X_write_89 : decode b_X_write 89 = .ok (.goto 8, 3) := by decide +kernel
theorem d_X_write_92 : decode b_X_write 92 = .ok (.aload_n 2, 1) := by decide +kernel
theorem d_X_write_93 : decode b_X_write 93 = .ok (.iconst 0, 1) := by decide +kernel
theorem d_X_write_94 : decode b_X_write 94 = .ok (.invokevirtual 104, 3) := by decide +kernel
theorem d_X_write_97 : decode b_X_write 97 = .ok (.istore 5, 2) := by decide +kernel
theorem d_X_write_99 : decode b_X_write 99 = .ok (.iload 5, 2) := by decide +kernel
theorem d_X_write_101 : decode b_X_write 101 = .ok (.bipush 16, 2) := by decide +kernel
theorem d_X_write_103 : decode b_X_write 103 = .ok (.iload 4, 2) := by decide +kernel
theorem d_X_write_105 : decode b_X_write 105 = .ok (.isub, 1) := by decide +kernel
theorem d_X_write_106 : decode b_X_write 106 = .ok (.if_icmp .gt 15, 3) := by decide +kernel
theorem d_X_write_109 : decode b_X_write 109 = .ok (.aload_n 0, 1) := by decide +kernel
theorem d_X_write_110 : decode b_X_write 110 = .ok (.getfield 12, 3) := by decide +kernel
theorem d_X_write_113 : decode b_X_write 113 = .ok (.aload_n 3, 1) := by decide +kernel
theorem d_X_write_114 : decode b_X_write 114 = .ok (.iconst 0, 1) := by decide +kernel
theorem d_X_write_115 : decode b_X_write 115 = .ok (.invokevirtual 261, 3) := by decide +kernel
theorem d_X_write_118 : decode b_X_write 118 = .ok (.ifCond .ne 6, 3) := by decide +kernel
theorem d_X_write_121 : decode b_X_write 121 = .ok (.bipush (-11), 2) := by decide +kernel
theorem d_X_write_123 : decode b_X_write 123 = .ok (.ireturn, 1) := by decide +kernel
theorem d_X_write_124 : decode b_X_write 124 = .ok (.aload_n 0, 1) := by decide +kernel
theorem d_X_write_125 : decode b_X_write 125 = .ok (.getfield 12, 3) := by decide +kernel
theorem d_X_write_128 : decode b_X_write 128 = .ok (.aload_n 3, 1) := by decide +kernel
theorem d_X_write_129 : decode b_X_write 129 = .ok (.invokevirtual 265, 3) := by decide +kernel
theorem d_X_write_132 : decode b_X_write 132 = .ok (.astore 6, 2) := by decide +kernel
theorem d_X_write_134 : decode b_X_write 134 = .ok (.aload 6, 2) := by decide +kernel
theorem d_X_write_136 : decode b_X_write 136 = .ok (.iload 5, 2) := by decide +kernel
theorem d_X_write_138 : decode b_X_write 138 = .ok (.aload_n 2, 1) := by decide +kernel
theorem d_X_write_139 : decode b_X_write 139 = .ok (.invokevirtual 347, 3) := by decide +kernel
theorem d_X_write_142 : decode b_X_write 142 = .ok (.aload 6, 2) := by decide +kernel
theorem d_X_write_144 : decode b_X_write 144 = .ok (.dup, 1) := by decide +kernel
theorem d_X_write_145 : decode b_X_write 145 = .ok (.getfield 272, 3) := by decide +kernel
theorem d_X_write_148 : decode b_X_write 148 = .ok (.iconst 1, 1) := by decide +kernel
theorem d_X_write_149 : decode b_X_write 149 = .ok (.iadd, 1) := by decide +kernel
theorem d_X_write_150 : decode b_X_write 150 = .ok (.putfield 272, 3) := by decide +kernel
theorem d_X_write_153 : decode b_X_write 153 = .ok (.iload 4, 2) := by decide +kernel
theorem d_X_write_155 : decode b_X_write 155 = .ok (.ireturn, 1) := by decide +kernel
set_option maxHeartbeats 2000000 in
set_option maxRecDepth 20000 in
theorem ct_X_write (E : mm_En) (C : Nat → Nat → Int32) {f t r k : Nat} (hf : fi_n f) (ht : t ≤ 4) (he : C f 3 = nI t) (hr : rw_s r 4) (hr1 : 131 ≤ r) (hk : C r 1 = nI k) (k1 : 1 ≤ k) (k4 : k ≤ 4) (hln : ln_ok C) : mm_MT E K_X_write [.ref 0, .ref f, .ref r] (hp_H C) (mm_D (some (.int (xw_R C f t r k).1)) (xw_R C f t r k).2) := by
  obtain ⟨s1, f1, f2⟩ := hf
  have hr0 := hr
  obtain ⟨g1, g2⟩ := hr
  have hat : rw_at C r 4 0 = C (r + 1) 0 := rw_at_in (i := 0) hk (by omega) k4 (by decide)
  have hM0 := ct_R_at E C hr0 (by decide) 0
  rw [hat] at hM0
  refine mm_mtL (by decide) (by rfl) (Nat.le_of_ble_eq_true rfl) rfl ?_
  refine ev_aload_n (pc := 0) d_X_write_0 rfl rfl (by first | rfl | exact mm_rk_rf _) ?_
  refine ev_gI (pc := 1) (by first | with_reducible assumption | assumption) (by rfl) fl_X_116 d_X_write_1 ?_
  refine ev_if_ne (pc := 4) (tgt := 9) d_X_write_4 (by decide) (fun ha => ?_) (fun ha => ?_)
  rotate_left
  · refine ev_iconst (pc := 7) (v := -1) d_X_write_7 rfl ?_
    exact ev_iret (pc := 8) d_X_write_8 rfl (Nat.zero_le _) (Nat.zero_le _) ⟨by rw [xw_R, if_pos ha], by rw [xw_R, if_pos ha]⟩
  refine ev_aload_n (pc := 9) d_X_write_9 rfl rfl (by first | rfl | exact mm_rk_rf _) ?_
  refine ev_gI (pc := 10) (by first | with_reducible assumption | assumption) (by rfl) fl_X_121 d_X_write_10 ?_
  refine ev_if_eq (pc := 13) (tgt := 26) d_X_write_13 (by decide) (fun hb => ?_) (fun hb => ?_)
  · refine ev_bipush (pc := 26) (v := -8) d_X_write_26 (by decide) ?_
    exact ev_iret (pc := 28) d_X_write_28 rfl (Nat.zero_le _) (Nat.zero_le _) ⟨by rw [xw_R, if_neg ha, if_pos (Or.inl hb)], by rw [xw_R, if_neg ha, if_pos (Or.inl hb)]⟩
  refine ev_aload_n (pc := 16) d_X_write_16 rfl rfl (by first | rfl | exact mm_rk_rf _) ?_
  refine ev_gI (pc := 17) (by first | with_reducible assumption | assumption) (by rfl) fl_X_317 d_X_write_17 ?_
  refine ev_cS (pc := 20) (ct_X_isForWriting E C _) cl_X_294 js_X_isForWriting ⟨(Nat.le_of_ble_eq_true rfl), (Nat.le_of_ble_eq_true rfl)⟩ rfl rfl (Nat.le_of_ble_eq_true rfl) d_X_write_20 ⟨Nat.zero_le _, Nat.zero_le _⟩ ?_
  refine ev_if_ne (pc := 23) (tgt := 29) d_X_write_23 (by decide) (fun hc => ?_) (fun hc => ?_)
  rotate_left
  · rw [b2_0, Classical.not_not] at hc
    refine ev_bipush (pc := 26) (v := -8) d_X_write_26 (by decide) ?_
    exact ev_iret (pc := 28) d_X_write_28 rfl (Nat.zero_le _) (Nat.zero_le _) ⟨by rw [xw_R, if_neg ha, if_pos (Or.inr hc)], by rw [xw_R, if_neg ha, if_pos (Or.inr hc)]⟩
  rw [b2_0, Classical.not_not] at hc
  have hbc : ¬ (C f 1 = 0 ∨ (C f 5 &&& 3) = 0) := fun z => z.elim hb hc
  refine ev_aload_n (pc := 29) d_X_write_29 rfl rfl (by first | rfl | exact mm_rk_rf _) ?_
  refine ev_aload_n (pc := 30) d_X_write_30 rfl rfl (by first | rfl | exact mm_rk_rf _) ?_
  refine ev_cV (pc := 31) (ct_X_nodeOf E C s1 (by omega) he) cl_X_217 jv_X_nodeOf ⟨(Nat.le_of_ble_eq_true rfl), (Nat.le_of_ble_eq_true rfl)⟩ rfl sh_X rfl (Nat.le_of_ble_eq_true rfl) d_X_write_31 ⟨Nat.zero_le _, Nat.zero_le _⟩ ?_
  refine ev_astore_n (pc := 34) d_X_write_34 rfl (by first | rfl | exact mm_rk_rf _) (Nat.le_of_ble_eq_true rfl) rfl ?_
  try dsimp only [List.set]
  refine ev_aload_n (pc := 35) d_X_write_35 rfl rfl (by first | rfl | exact mm_rk_rf _) ?_
  cases hq : so_i C t (C f 4) with
  | none =>
    refine ev_ifnonnullN (pc := 36) d_X_write_36 ?_
    refine ev_bipush (pc := 39) (v := -13) d_X_write_39 (by decide) ?_
    exact ev_iret (pc := 41) d_X_write_41 rfl (Nat.zero_le _) (Nat.zero_le _) ⟨by rw [xw_R, if_neg ha, if_neg hbc, hq], by rw [xw_R, if_neg ha, if_neg hbc, hq]⟩
  | some i =>
    have hi := so_i_lt hq
    have s3 := bk_s hi
    have e1 : xw_R C f t r k = it_P (¬ C (r + 1) 0 < 0 ∧ ab_P C r k) (if k = 1 then (0, C) else if xw_st C i r ≤ nI (16 - (k - 1)) ∧ so_nb C + (0 + hr_n C 20 (some i)) ≤ 64 then (nI (k - 1), xw_fin C i r (xw_st C i r).toNatClampNeg (k - 1)) else (-11, C)) (-7, C) := by
      rw [xw_R, if_neg ha, if_neg hbc, hq]
    rw [e1]
    refine ev_ifnonnullR (pc := 36) (tgt := 42) d_X_write_36 (by decide) ?_
    refine ev_eq rfl (show _ = [some (.ref 0), some (.ref f), some (.ref r), some (.ref (bk i)), none, none, none] from rfl) rfl rfl rfl rfl ?_
    refine ev_aload_n (pc := 42) d_X_write_42 rfl rfl (by first | rfl | exact mm_rk_rf _) ?_
    refine ev_iconst (pc := 43) (v := 0) d_X_write_43 rfl ?_
    refine ev_cV (pc := 44) hM0 cl_X_104 jv_R_at ⟨(Nat.le_of_ble_eq_true rfl), (Nat.le_of_ble_eq_true rfl)⟩ rfl (by first | exact sh_said | exact sh_rep | with_reducible assumption | assumption) rfl (Nat.le_of_ble_eq_true rfl) d_X_write_44 ⟨Nat.zero_le _, Nat.zero_le _⟩ ?_
    refine ev_if_lt (pc := 47) (tgt := 57) d_X_write_47 (by decide) (fun hd => ?_) (fun hd => ?_)
    · refine ev_bipush (pc := 57) (v := -7) d_X_write_57 (by decide) ?_
      exact ev_iret (pc := 59) d_X_write_59 rfl (Nat.zero_le _) (Nat.zero_le _) ⟨by rw [it_f (fun z => z.1 hd)], by rw [it_f (fun z => z.1 hd)]⟩
    refine ev_aload_n (pc := 50) d_X_write_50 rfl rfl (by first | rfl | exact mm_rk_rf _) ?_
    refine ev_cS (pc := 51) (ct_X_areBytes E C hr0 (by decide) hk k1 k4) cl_X_343 js_X_areBytes ⟨(Nat.le_of_ble_eq_true rfl), (Nat.le_of_ble_eq_true rfl)⟩ rfl rfl (Nat.le_of_ble_eq_true rfl) d_X_write_51 ⟨Nat.zero_le _, Nat.zero_le _⟩ ?_
    refine ev_if_ne (pc := 54) (tgt := 60) d_X_write_54 (by decide) (fun hg => ?_) (fun hg => ?_)
    rotate_left
    · rw [b3_0] at hg
      refine ev_bipush (pc := 57) (v := -7) d_X_write_57 (by decide) ?_
      exact ev_iret (pc := 59) d_X_write_59 rfl (Nat.zero_le _) (Nat.zero_le _) ⟨by rw [it_f (fun z => hg z.2)], by rw [it_f (fun z => hg z.2)]⟩
    rw [b3_0, Classical.not_not] at hg
    rw [it_t ⟨hd, hg⟩]
    refine ev_aload_n (pc := 60) d_X_write_60 rfl rfl (by first | rfl | exact mm_rk_rf _) ?_
    refine ev_gI (pc := 61) (by first | exact sh_said | exact sh_rep | with_reducible assumption | assumption) (by rfl) fl_X_61 d_X_write_61 ?_
    rw [hk]
    refine ev_iconst (pc := 64) (v := 1) d_X_write_64 rfl ?_
    refine ev_isub (pc := 65) d_X_write_65 ?_
    rw [show nI k - 1 = nI (k - 1) from pk_sub (a := k) (b := 1) k1]
    refine ev_istore (pc := 66) d_X_write_66 (Nat.le_of_ble_eq_true rfl) rfl ?_
    try dsimp only [List.set]
    refine ev_iload (pc := 68) d_X_write_68 rfl ?_
    refine ev_if_ne (pc := 70) (tgt := 75) d_X_write_70 (by decide) (fun hj => ?_) (fun hj => ?_)
    rotate_left
    · have h1 : k = 1 := by
        have := (nI_eq (a := k - 1) (b := 0) (by omega) (by decide)).mp hj
        omega
      refine ev_iconst (pc := 73) (v := 0) d_X_write_73 rfl ?_
      exact ev_iret (pc := 74) d_X_write_74 rfl (Nat.zero_le _) (Nat.zero_le _) ⟨by rw [if_pos h1], by rw [if_pos h1]⟩
    have h1 : ¬ k = 1 := fun z => hj (by rw [z]; rfl)
    rw [if_neg h1]
    have t97 : ev_At E K_X_write 97 [some (.ref 0), some (.ref f), some (.ref r), some (.ref (bk i)), some (.int (nI (k - 1))), none, none] [.int (xw_st C i r)] (hp_H C) 0 0 (mm_D (some (.int (if xw_st C i r ≤ nI (16 - (k - 1)) ∧ so_nb C + (0 + hr_n C 20 (some i)) ≤ 64 then (nI (k - 1), xw_fin C i r (xw_st C i r).toNatClampNeg (k - 1)) else (-11, C)).1)) (if xw_st C i r ≤ nI (16 - (k - 1)) ∧ so_nb C + (0 + hr_n C 20 (some i)) ≤ 64 then (nI (k - 1), xw_fin C i r (xw_st C i r).toNatClampNeg (k - 1)) else (-11, C)).2) := by
      have hst : ¬ xw_st C i r < 0 := by
        unfold xw_st
        split
        · exact hd
        · rw [(ln_at hln hi).1]
          have := (ln_at hln hi).2
          exact nI_pos (by omega)
      refine ev_istore (pc := 97) d_X_write_97 (Nat.le_of_ble_eq_true rfl) rfl ?_
      try dsimp only [List.set]
      refine ev_iload (pc := 99) d_X_write_99 rfl ?_
      refine ev_bipush (pc := 101) (v := 16) d_X_write_101 (by decide) ?_
      refine ev_iload (pc := 103) d_X_write_103 rfl ?_
      refine ev_isub (pc := 105) d_X_write_105 ?_
      rw [show (16 : Int32) - nI (k - 1) = nI (16 - (k - 1)) from pk_sub (a := 16) (by omega)]
      refine ev_icmp_gt (pc := 106) (tgt := 121) d_X_write_106 (by decide) (fun hl => ?_) (fun hl => ?_)
      · refine ev_bipush (pc := 121) (v := -11) d_X_write_121 (by decide) ?_
        exact ev_iret (pc := 123) d_X_write_123 rfl (Nat.zero_le _) (Nat.zero_le _) ⟨by rw [if_neg (fun z => absurd z.1 (Int32.not_le.mpr hl))], by rw [if_neg (fun z => absurd z.1 (Int32.not_le.mpr hl))]⟩
      refine ev_aload_n (pc := 109) d_X_write_109 rfl rfl (by first | rfl | exact mm_rk_rf _) ?_
      refine ev_gR (pc := 110) sh_X (by rfl) fl_X_12 d_X_write_110 ?_
      refine ev_aload_n (pc := 113) d_X_write_113 rfl rfl (by first | rfl | exact mm_rk_rf _) ?_
      refine ev_iconst (pc := 114) (v := 0) d_X_write_114 rfl ?_
      refine ev_cV (pc := 115) (ct_S_hasRoom E C (w := 0) hi (by decide)) cl_X_261 jv_S_hasRoom ⟨(Nat.le_of_ble_eq_true rfl), (Nat.le_of_ble_eq_true rfl)⟩ rfl sh_S rfl (Nat.le_of_ble_eq_true rfl) d_X_write_115 ⟨Nat.zero_le _, Nat.zero_le _⟩ ?_
      refine ev_if_ne (pc := 118) (tgt := 124) d_X_write_118 (by decide) (fun hn => ?_) (fun hn => ?_)
      rotate_left
      · rw [b2_0] at hn
        refine ev_bipush (pc := 121) (v := -11) d_X_write_121 (by decide) ?_
        exact ev_iret (pc := 123) d_X_write_123 rfl (Nat.zero_le _) (Nat.zero_le _) ⟨by rw [if_neg (fun z => hn z.2)], by rw [if_neg (fun z => hn z.2)]⟩
      rw [b2_0, Classical.not_not] at hn
      have hl' := Int32.not_lt.mp hl
      rw [if_pos ⟨hl', hn⟩]
      clear hn
      obtain ⟨s, hs, es⟩ : ∃ s : Nat, s ≤ 16 - (k - 1) ∧ xw_st C i r = nI s := nI_of2 (nI_toInt (by omega)) hst hl'
      rw [es, nI_clamp (by omega)]
      have ho := ob_i_lt (C := C) hi
      have s5 := bk_s ho
      have kk1 : bk (ob_i C i) = 3 + 2 * ob_i C i := rfl
      obtain ⟨l1, l2⟩ := ln_at (ln_cg hln hi) ho
      refine ev_aload_n (pc := 124) d_X_write_124 rfl rfl (by first | rfl | exact mm_rk_rf _) ?_
      refine ev_gR (pc := 125) sh_X (by rfl) fl_X_12 d_X_write_125 ?_
      refine ev_aload_n (pc := 128) d_X_write_128 rfl rfl (by first | rfl | exact mm_rk_rf _) ?_
      refine ev_cV (pc := 129) (ct_S_change E C hi) cl_X_265 jv_S_change ⟨(Nat.le_of_ble_eq_true rfl), (Nat.le_of_ble_eq_true rfl)⟩ rfl sh_S rfl (Nat.le_of_ble_eq_true rfl) d_X_write_129 ⟨Nat.zero_le _, Nat.zero_le _⟩ ?_
      refine ev_astore (pc := 132) d_X_write_132 (by first | rfl | exact mm_rk_rf _) (Nat.le_of_ble_eq_true rfl) rfl ?_
      try dsimp only [List.set]
      refine ev_aload (pc := 134) d_X_write_134 rfl (by first | rfl | exact mm_rk_rf _) ?_
      refine ev_iload (pc := 136) d_X_write_136 rfl ?_
      refine ev_aload_n (pc := 138) d_X_write_138 rfl rfl (by first | rfl | exact mm_rk_rf _) ?_
      refine ev_cVv (pc := 139) (ct_B_putBytes E (cg_C C i) (r := r) (n := 4) (s := s) (c := k - 1) s5 (bk_a ho) hr0 (by decide) l1 l2 (by omega) (by rw [cg_out hi (by omega), show k - 1 + 1 = k by omega]; exact hk) (by omega) ⟨by omega, by omega, by omega⟩) cl_X_347 jv_B_putBytes ⟨(Nat.le_of_ble_eq_true rfl), (Nat.le_of_ble_eq_true rfl)⟩ rfl (by first | with_reducible assumption | assumption) rfl (Nat.le_of_ble_eq_true rfl) d_X_write_139 ⟨Nat.zero_le _, Nat.zero_le _⟩ ?_
      refine ev_aload (pc := 142) d_X_write_142 rfl (by first | rfl | exact mm_rk_rf _) ?_
      refine ev_dup (pc := 144) d_X_write_144 (by rfl) ?_
      refine ev_gI (pc := 145) (by first | with_reducible assumption | assumption) (by rfl) fl_X_272 d_X_write_145 ?_
      refine ev_iconst (pc := 148) (v := 1) d_X_write_148 rfl ?_
      have e2 : bl_pb (cg_C C i) (bk (ob_i C i)) r (ln_ (cg_C C i) (bk (ob_i C i))) s (k - 1) (bk (ob_i C i)) 7 = cg_C C i (bk (ob_i C i)) 7 := by
        unfold bl_pb bl_w bl_sl bl_z
        rw [if_neg (by omega), cs_ne _ _ (by omega), if_neg (by omega)]
      rw [e2]
      refine ev_iadd (pc := 149) d_X_write_149 ?_
      refine ev_pI (pc := 150) (by first | with_reducible assumption | assumption) (by rfl) fl_X_272 fw_0_7 (by rfl) d_X_write_150 ?_
      refine ev_iload (pc := 153) d_X_write_153 rfl ?_
      exact ev_iret (pc := 155) d_X_write_155 rfl (Nat.zero_le _) (Nat.zero_le _) ⟨rfl, rfl⟩
    refine ev_aload_n (pc := 75) d_X_write_75 rfl rfl (by first | rfl | exact mm_rk_rf _) ?_
    refine ev_sipush (pc := 76) (v := 512) d_X_write_76 (by decide) ?_
    refine ev_cV (pc := 79) (ct_B_is E C s3 512) cl_X_258 jv_B_is ⟨(Nat.le_of_ble_eq_true rfl), (Nat.le_of_ble_eq_true rfl)⟩ rfl (by first | with_reducible assumption | assumption) rfl (Nat.le_of_ble_eq_true rfl) d_X_write_79 ⟨Nat.zero_le _, Nat.zero_le _⟩ ?_
    refine ev_if_eq (pc := 82) (tgt := 92) d_X_write_82 (by decide) (fun hl => ?_) (fun hl => ?_)
    · rw [b2_0, Classical.not_not] at hl
      refine ev_aload_n (pc := 92) d_X_write_92 rfl rfl (by first | rfl | exact mm_rk_rf _) ?_
      refine ev_iconst (pc := 93) (v := 0) d_X_write_93 rfl ?_
      refine ev_cV (pc := 94) hM0 cl_X_104 jv_R_at ⟨(Nat.le_of_ble_eq_true rfl), (Nat.le_of_ble_eq_true rfl)⟩ rfl (by first | exact sh_said | exact sh_rep | with_reducible assumption | assumption) rfl (Nat.le_of_ble_eq_true rfl) d_X_write_94 ⟨Nat.zero_le _, Nat.zero_le _⟩ ?_
      rw [show C (r + 1) 0 = xw_st C i r by rw [xw_st, if_pos hl]]
      exact t97
    · rw [b2_0, Classical.not_not] at hl
      refine ev_aload_n (pc := 85) d_X_write_85 rfl rfl (by first | rfl | exact mm_rk_rf _) ?_
      refine ev_gI (pc := 86) (by first | with_reducible assumption | assumption) (by rfl) fl_X_331 d_X_write_86 ?_
      refine ev_goto (pc := 89) (tgt := 97) d_X_write_89 (by decide) ?_
      rw [show C (bk i) 9 = xw_st C i r by rw [xw_st, if_neg hl]]
      exact t97
/-- n bytes of the block at b, from a on, are replied -/
def rb_C (C : Nat → Nat → Int32) (b a : Nat) : Nat → Nat → Nat → Int32
  | 0 => C
  | n + 1 => rp_add (rb_C C b a n) n (C (b + 1) (a + n))
theorem rb_ne {C : Nat → Nat → Int32} {b a x j : Nat} (h1 : x ≠ 201) (h2 : x ≠ 202) : ∀ n, rb_C C b a n x j = C x j := by
  intro n
  induction n with
  | zero => rfl
  | succ n ih => rw [rb_C, rp_ne h1 h2, ih]
theorem rb_k {C : Nat → Nat → Int32} {b a : Nat} (h : C 201 1 = nI 0) : ∀ n, rb_C C b a n 201 1 = nI n := by
  intro n
  cases n with
  | zero => exact h
  | succ n => exact rp_k _ _ _
theorem d_X_readBytes_0 : decode b_X_readBytes 0 = .ok (.iconst 0, 1) := by decide +kernel
theorem d_X_readBytes_1 : decode b_X_readBytes 1 = .ok (.istore 4, 2) := by decide +kernel
theorem d_X_readBytes_3 : decode b_X_readBytes 3 = .ok (.iload_n 2, 1) := by decide +kernel
theorem d_X_readBytes_4 : decode b_X_readBytes 4 = .ok (.istore 5, 2) := by decide +kernel
theorem d_X_readBytes_6 : decode b_X_readBytes 6 = .ok (.iload 5, 2) := by decide +kernel
theorem d_X_readBytes_8 : decode b_X_readBytes 8 = .ok (.aload_n 1, 1) := by decide +kernel
theorem d_X_readBytes_9 : decode b_X_readBytes 9 = .ok (.getfield 331, 3) := by decide +kernel
theorem d_X_readBytes_12 : decode b_X_readBytes 12 = .ok (.if_icmp .ge 31, 3) := by decide +kernel
theorem d_X_readBytes_15 : decode b_X_readBytes 15 = .ok (.iload 4, 2) := by decide +kernel
theorem d_X_readBytes_17 : decode b_X_readBytes 17 = .ok (.iload_n 3, 1) := by decide +kernel
theorem d_X_readBytes_18 : decode b_X_readBytes 18 = .ok (.if_icmp .ge 25, 3) := by decide +kernel
theorem d_X_readBytes_21 : decode b_X_readBytes 21 = .ok (.aload_n 0, 1) := by decide +kernel
theorem d_X_readBytes_22 : decode b_X_readBytes 22 = .ok (.getfield 39, 3) := by decide +kernel
theorem d_X_readBytes_25 : decode b_X_readBytes 25 = .ok (.aload_n 1, 1) := by decide +kernel
theorem d_X_readBytes_26 : decode b_X_readBytes 26 = .ok (.iload 5, 2) := by decide +kernel
theorem d_X_readBytes_28 : decode b_X_readBytes 28 = .ok (.invokevirtual 334, 3) := by decide +kernel
theorem d_X_readBytes_31 : decode b_X_readBytes 31 = .ok (.invokevirtual 65, 3) := by decide +kernel
theorem d_X_readBytes_34 : decode b_X_readBytes 34 = .ok (.iinc 4 1, 3) := by decide +kernel
theorem d_X_readBytes_37 : decode b_X_readBytes 37 = .ok (.iinc 5 1, 3) := by decide +kernel
theorem d_X_readBytes_40 : decode b_X_readBytes 40 = .ok (.goto (-34), 3) := by decide +kernel
theorem d_X_readBytes_43 : decode b_X_readBytes 43 = .ok (.iload 4, 2) := by decide +kernel
theorem d_X_readBytes_45 : decode b_X_readBytes 45 = .ok (.ireturn, 1) := by decide +kernel
set_option maxHeartbeats 2000000 in
set_option maxRecDepth 20000 in
theorem ct_X_readBytes (E : mm_En) (C : Nat → Nat → Int32) {i a c l : Nat} (hi : i < 64) (ha : a < 2 ^ 31) (hc : c ≤ 8) (hl : C (bk i) 9 = nI l) (h16 : l ≤ 16) (hk : C 201 1 = nI 0) : mm_MT E K_X_readBytes [.ref 0, .ref (bk i), .int (nI a), .int (nI c)] (hp_H C) (mm_D (some (.int (nI (min (l - a) c)))) (rb_C C (bk i) a (min (l - a) c))) := by
  have s3 := bk_s hi
  obtain ⟨n1, n2, -, -, -, -, -, n8, -⟩ := bk_ne hi
  have loop : ∀ d n : Nat, n + d = min (l - a) c → ev_At E K_X_readBytes 6 [some (.ref 0), some (.ref (bk i)), some (.int (nI a)), some (.int (nI c)), some (.int (nI n)), some (.int (nI (a + n)))] [] (hp_H (rb_C C (bk i) a n)) 0 0 (mm_D (some (.int (nI (min (l - a) c)))) (rb_C C (bk i) a (min (l - a) c))) := by
    intro d
    induction d with
    | zero =>
      intro n hn
      have hn' : n = min (l - a) c := by omega
      subst hn'
      refine ev_iload (pc := 6) d_X_readBytes_6 rfl ?_
      refine ev_aload_n (pc := 8) d_X_readBytes_8 rfl rfl (by first | rfl | exact mm_rk_rf _) ?_
      refine ev_gI (pc := 9) (by first | with_reducible assumption | assumption) (by rfl) fl_X_331 d_X_readBytes_9 ?_
      rw [rb_ne n1 n2, hl]
      refine ev_icmp_ge (pc := 12) (tgt := 43) d_X_readBytes_12 (by decide) (fun hb => ?_) (fun hb => ?_)
      · refine ev_iload (pc := 43) d_X_readBytes_43 rfl ?_
        exact ev_iret (pc := 45) d_X_readBytes_45 rfl (Nat.zero_le _) (Nat.zero_le _) ⟨rfl, rfl⟩
      refine ev_iload (pc := 15) d_X_readBytes_15 rfl ?_
      refine ev_iload_n (pc := 17) d_X_readBytes_17 rfl rfl ?_
      refine ev_icmp_ge (pc := 18) (tgt := 43) d_X_readBytes_18 (by decide) (fun hd => ?_) (fun hd => ?_)
      · refine ev_iload (pc := 43) d_X_readBytes_43 rfl ?_
        exact ev_iret (pc := 45) d_X_readBytes_45 rfl (Nat.zero_le _) (Nat.zero_le _) ⟨rfl, rfl⟩
      · exfalso
        have q1 : ¬ l ≤ a + min (l - a) c := fun z => hb (nI_le z (by omega))
        have q2 : ¬ c ≤ min (l - a) c := fun z => hd (nI_le z (by omega))
        omega
    | succ d ih =>
      intro n hn
      have hlt : a + n < l := by omega
      have hnc : n < c := by omega
      have e1 : rb_C C (bk i) a n (bk i + 1) (a + n) = C (bk i + 1) (a + n) := rb_ne (by omega) (by omega) n
      have hM := ct_B_byteAt E (rb_C C (bk i) a n) s3 (bk_a hi) (a + n) (by omega)
      rw [e1] at hM
      have s4 := sh_rep
      refine ev_iload (pc := 6) d_X_readBytes_6 rfl ?_
      refine ev_aload_n (pc := 8) d_X_readBytes_8 rfl rfl (by first | rfl | exact mm_rk_rf _) ?_
      refine ev_gI (pc := 9) (by first | with_reducible assumption | assumption) (by rfl) fl_X_331 d_X_readBytes_9 ?_
      rw [rb_ne n1 n2, hl]
      refine ev_icmp_ge (pc := 12) (tgt := 43) d_X_readBytes_12 (by decide) (fun hb => ?_) (fun hb => ?_)
      · exact absurd hb (nI_ge hlt (by omega))
      refine ev_iload (pc := 15) d_X_readBytes_15 rfl ?_
      refine ev_iload_n (pc := 17) d_X_readBytes_17 rfl rfl ?_
      refine ev_icmp_ge (pc := 18) (tgt := 43) d_X_readBytes_18 (by decide) (fun hd => ?_) (fun hd => ?_)
      · exact absurd hd (nI_ge hnc (by omega))
      refine ev_aload_n (pc := 21) d_X_readBytes_21 rfl rfl (by first | rfl | exact mm_rk_rf _) ?_
      refine ev_gR (pc := 22) sh_X (by rfl) fl_X_39 d_X_readBytes_22 ?_
      refine ev_aload_n (pc := 25) d_X_readBytes_25 rfl rfl (by first | rfl | exact mm_rk_rf _) ?_
      refine ev_iload (pc := 26) d_X_readBytes_26 rfl ?_
      refine ev_cV (pc := 28) hM cl_X_334 jv_B_byteAt ⟨(Nat.le_of_ble_eq_true rfl), (Nat.le_of_ble_eq_true rfl)⟩ rfl (by first | with_reducible assumption | assumption) rfl (Nat.le_of_ble_eq_true rfl) d_X_readBytes_28 ⟨Nat.zero_le _, Nat.zero_le _⟩ ?_
      refine ev_cVv (pc := 31) (ct_rp E _ (rb_k hk n) (by omega) _) cl_X_65 jv_R_add ⟨(Nat.le_of_ble_eq_true rfl), (Nat.le_of_ble_eq_true rfl)⟩ rfl (by first | exact sh_said | exact sh_rep | with_reducible assumption | assumption) rfl (Nat.le_of_ble_eq_true rfl) d_X_readBytes_31 ⟨Nat.zero_le _, Nat.zero_le _⟩ ?_
      refine ev_iinc (pc := 34) d_X_readBytes_34 (Nat.le_of_ble_eq_true rfl) rfl (nx_inc _) rfl ?_
      try dsimp only [List.set]
      refine ev_iinc (pc := 37) d_X_readBytes_37 (Nat.le_of_ble_eq_true rfl) rfl (nx_inc _) rfl ?_
      try dsimp only [List.set]
      refine ev_goto (pc := 40) (tgt := 6) d_X_readBytes_40 (by decide) ?_
      exact ih (n + 1) (by omega)
  refine mm_mtL (by decide) (by rfl) (Nat.le_of_ble_eq_true rfl) rfl ?_
  refine ev_iconst (pc := 0) (v := 0) d_X_readBytes_0 rfl ?_
  refine ev_istore (pc := 1) d_X_readBytes_1 (Nat.le_of_ble_eq_true rfl) rfl ?_
  try dsimp only [List.set]
  refine ev_iload_n (pc := 3) d_X_readBytes_3 rfl rfl ?_
  refine ev_istore (pc := 4) d_X_readBytes_4 (Nat.le_of_ble_eq_true rfl) rfl ?_
  try dsimp only [List.set]
  exact loop (min (l - a) c) 0 (by omega)
/-- titles of the directory b are told: d rounds, from place j on, o the next; n were told -/
def rt_f (t b a c : Nat) : Nat → (Nat → Nat → Int32) → Nat → Option Nat → Nat → Nat × (Nat → Nat → Int32)
  | 0, C, _, _, n => (n, C)
  | _ + 1, C, _, none, n => (n, C)
  | d + 1, C, j, some i, n => if n < c then (if a ≤ j then rt_f t b a c d (rp_add C n (C (bk i) 4)) (j + 1) (cb_f (rp_add C n (C (bk i) 4)) t (rp_add C n (C (bk i) 4) b 2) (rp_add C n (C (bk i) 4) (bk i) 4) 64 0 none) (n + 1) else rt_f t b a c d C (j + 1) (cb_f C t (C b 2) (C (bk i) 4) 64 0 none) n) else (n, C)
theorem rt_le (t b a c : Nat) : ∀ d C j o n, (rt_f t b a c d C j o n).1 ≤ n + d := by
  intro d
  induction d with
  | zero => intro C j o n; exact Nat.le_refl _
  | succ d ih =>
    intro C j o n
    cases o with
    | none => exact Nat.le_add_right _ _
    | some i =>
      simp only [rt_f]
      split
      · split
        · have := ih (rp_add C n (C (bk i) 4)) (j + 1) (cb_f (rp_add C n (C (bk i) 4)) t (rp_add C n (C (bk i) 4) b 2) (rp_add C n (C (bk i) 4) (bk i) 4) 64 0 none) (n + 1)
          omega
        · have := ih C (j + 1) (cb_f C t (C b 2) (C (bk i) 4) 64 0 none) n
          omega
      · exact Nat.le_add_right _ _
theorem d_X_readTitles_0 : decode b_X_readTitles 0 = .ok (.iconst 0, 1) := by decide +kernel
theorem d_X_readTitles_1 : decode b_X_readTitles 1 = .ok (.istore 5, 2) := by decide +kernel
theorem d_X_readTitles_3 : decode b_X_readTitles 3 = .ok (.aload_n 0, 1) := by decide +kernel
theorem d_X_readTitles_4 : decode b_X_readTitles 4 = .ok (.getfield 12, 3) := by decide +kernel
theorem d_X_readTitles_7 : decode b_X_readTitles 7 = .ok (.iload_n 1, 1) := by decide +kernel
theorem d_X_readTitles_8 : decode b_X_readTitles 8 = .ok (.aload_n 2, 1) := by decide +kernel
theorem d_X_readTitles_9 : decode b_X_readTitles 9 = .ok (.iconst 0, 1) := by decide +kernel
theorem d_X_readTitles_10 : decode b_X_readTitles 10 = .ok (.invokevirtual 337, 3) := by decide +kernel
theorem d_X_readTitles_13 : decode b_X_readTitles 13 = .ok (.astore 6, 2) := by decide +kernel
theorem d_X_readTitles_15 : decode b_X_readTitles 15 = .ok (.iconst 0, 1) := by decide +kernel
theorem d_X_readTitles_16 : decode b_X_readTitles 16 = .ok (.istore 7, 2) := by decide +kernel
theorem d_X_readTitles_18 : decode b_X_readTitles 18 = .ok (.iload 7, 2) := by decide +kernel
theorem d_X_readTitles_20 : decode b_X_readTitles 20 = .ok (.bipush 8, 2) := by decide +kernel
theorem d_X_readTitles_22 : decode b_X_readTitles 22 = .ok (.if_icmp .ge 58, 3) := by decide +kernel
theorem d_X_readTitles_25 : decode b_X_readTitles 25 = .ok (.aload 6, 2) := by decide +kernel
theorem d_X_readTitles_27 : decode b_X_readTitles 27 = .ok (.ifnull 53, 3) := by decide +kernel
theorem d_X_readTitles_30 : decode b_X_readTitles 30 = .ok (.iload 5, 2) := by decide +kernel
theorem d_X_readTitles_32 : decode b_X_readTitles 32 = .ok (.iload 4, 2) := by decide +kernel
theorem d_X_readTitles_34 : decode b_X_readTitles 34 = .ok (.if_icmp .ge 46, 3) := by decide +kernel
theorem d_X_readTitles_37 : decode b_X_readTitles 37 = .ok (.iload 7, 2) := by decide +kernel
theorem d_X_readTitles_39 : decode b_X_readTitles 39 = .ok (.iload_n 3, 1) := by decide +kernel
theorem d_X_readTitles_40 : decode b_X_readTitles 40 = .ok (.if_icmp .lt 18, 3) := by decide +kernel
theorem d_X_readTitles_43 : decode b_X_readTitles 43 = .ok (.aload_n 0, 1) := by decide +kernel
theorem d_X_readTitles_44 : decode b_X_readTitles 44 = .ok (.getfield 39, 3) := by decide +kernel
theorem d_X_readTitles_47 : decode b_X_readTitles 47 = .ok (.aload 6, 2) := by decide +kernel
theorem d_X_readTitles_49 : decode b_X_readTitles 49 = .ok (.getfield 340, 3) := by decide +kernel
theorem d_X_readTitles_52 : decode b_X_readTitles 52 = .ok (.invokevirtual 65, 3) := by decide +kernel
theorem d_X_readTitles_55 : decode b_X_readTitles 55 = .ok (.iinc 5 1, 3) := by decide +kernel
theorem d_X_readTitles_58 : decode b_X_readTitles 58 = .ok (.aload_n 0, 1) := by decide +kernel
theorem d_X_readTitles_59 : decode b_X_readTitles 59 = .ok (.getfield 12, 3) := by decide +kernel
theorem d_X_readTitles_62 : decode b_X_readTitles 62 = .ok (.iload_n 1, 1) := by decide +kernel
theorem d_X_readTitles_63 : decode b_X_readTitles 63 = .ok (.aload_n 2, 1) := by decide +kernel
theorem d_X_readTitles_64 : decode b_X_readTitles 64 = .ok (.aload 6, 2) := by decide +kernel
theorem d_X_readTitles_66 : decode b_X_readTitles 66 = .ok (.getfield 340, 3) := by decide +kernel
theorem d_X_readTitles_69 : decode b_X_readTitles 69 = .ok (.invokevirtual 337, 3) := by decide +kernel
theorem d_X_readTitles_72 : decode b_X_readTitles 72 = .ok (.astore 6, 2) := by decide +kernel
theorem d_X_readTitles_74 : decode b_X_readTitles 74 = .ok (.iinc 7 1, 3) := by decide +kernel
theorem d_X_readTitles_77 : decode b_X_readTitles 77 = .ok (.goto (-59), 3) := by decide +kernel
theorem d_X_readTitles_80 : decode b_X_readTitles 80 = .ok (.iload 5, 2) := by decide +kernel
theorem d_X_readTitles_82 : decode b_X_readTitles 82 = .ok (.ireturn, 1) := by decide +kernel
set_option maxHeartbeats 2000000 in
set_option maxRecDepth 20000 in
theorem ct_X_readTitles (E : mm_En) (C : Nat → Nat → Int32) {t i0 a c : Nat} (ht : t < 32) (h0 : i0 < 64) (ha : a < 2 ^ 31) (hc : c ≤ 8) (hk : C 201 1 = nI 0) : mm_MT E K_X_readTitles [.ref 0, .int (nI t), .ref (bk i0), .int (nI a), .int (nI c)] (hp_H C) (mm_D (some (.int (nI (rt_f t (bk i0) a c 8 C 0 (cb_f C t (C (bk i0) 2) 0 64 0 none) 0).1))) (rt_f t (bk i0) a c 8 C 0 (cb_f C t (C (bk i0) 2) 0 64 0 none) 0).2) := by
  have s3 := bk_s h0
  have s5 := sh_rep
  have cl : ∀ (C1 : Nat → Nat → Int32) (p x : Int32) (l : Nat), cb_f C1 t p x 64 0 none = some l → l < 64 := fun C1 p x l hq => cb_f_lt 64 0 none (by omega) (fun l h => by cases h) l hq
  have loop : ∀ (d j n : Nat) (o : Option Nat) (C1 : Nat → Nat → Int32), j + d = 8 → n ≤ j → (∀ l, o = some l → l < 64) → C1 201 1 = nI n → ev_At E K_X_readTitles 18 [some (.ref 0), some (.int (nI t)), some (.ref (bk i0)), some (.int (nI a)), some (.int (nI c)), some (.int (nI n)), some (va_rf (o.map bk)), some (.int (nI j))] [] (hp_H C1) 0 0 (mm_D (some (.int (nI (rt_f t (bk i0) a c d C1 j o n).1))) (rt_f t (bk i0) a c d C1 j o n).2) := by
    intro d
    induction d with
    | zero =>
      intro j n o C1 hj hn ho hk1
      have hj8 : j = 8 := by omega
      subst hj8
      refine ev_iload (pc := 18) d_X_readTitles_18 rfl ?_
      refine ev_bipush (pc := 20) (v := 8) d_X_readTitles_20 (by decide) ?_
      refine ev_icmp_ge (pc := 22) (tgt := 80) d_X_readTitles_22 (by decide) (fun hb => ?_) (fun hb => ?_)
      · refine ev_iload (pc := 80) d_X_readTitles_80 rfl ?_
        exact ev_iret (pc := 82) d_X_readTitles_82 rfl (Nat.zero_le _) (Nat.zero_le _) ⟨rfl, rfl⟩
      · exact absurd (show nI 8 ≤ nI 8 from Int32.le_refl _) hb
    | succ d ih =>
      intro j n o C1 hj hn ho hk1
      refine ev_iload (pc := 18) d_X_readTitles_18 rfl ?_
      refine ev_bipush (pc := 20) (v := 8) d_X_readTitles_20 (by decide) ?_
      refine ev_icmp_ge (pc := 22) (tgt := 80) d_X_readTitles_22 (by decide) (fun hb => ?_) (fun hb => ?_)
      · exact absurd hb (nI_ge (show j < 8 by omega) (by decide))
      refine ev_aload (pc := 25) d_X_readTitles_25 rfl (by first | rfl | exact mm_rk_rf _) ?_
      cases o with
      | none =>
        refine ev_ifnullN (pc := 27) (tgt := 80) d_X_readTitles_27 (by decide) ?_
        refine ev_iload (pc := 80) d_X_readTitles_80 rfl ?_
        exact ev_iret (pc := 82) d_X_readTitles_82 rfl (Nat.zero_le _) (Nat.zero_le _) ⟨rfl, rfl⟩
      | some i =>
        have hi := ho i rfl
        have s4 := bk_s hi
        refine ev_ifnullR (pc := 27) d_X_readTitles_27 ?_
        refine ev_eq rfl (show _ = [some (.ref 0), some (.int (nI t)), some (.ref (bk i0)), some (.int (nI a)), some (.int (nI c)), some (.int (nI n)), some (.ref (bk i)), some (.int (nI j))] from rfl) rfl rfl rfl rfl ?_
        refine ev_iload (pc := 30) d_X_readTitles_30 rfl ?_
        refine ev_iload (pc := 32) d_X_readTitles_32 rfl ?_
        refine ev_icmp_ge (pc := 34) (tgt := 80) d_X_readTitles_34 (by decide) (fun hd => ?_) (fun hd => ?_)
        · have h9 : ¬ n < c := fun z => absurd hd (nI_ge z (by omega))
          refine ev_iload (pc := 80) d_X_readTitles_80 rfl ?_
          exact ev_iret (pc := 82) d_X_readTitles_82 rfl (Nat.zero_le _) (Nat.zero_le _) ⟨by simp only [rt_f]; rw [if_neg h9], by simp only [rt_f]; rw [if_neg h9]⟩
        have h9 : n < c := Nat.not_le.mp (fun z => hd (nI_le z (by omega)))
        simp only [rt_f]
        rw [if_pos h9]
        refine ev_iload (pc := 37) d_X_readTitles_37 rfl ?_
        refine ev_iload_n (pc := 39) d_X_readTitles_39 rfl rfl ?_
        refine ev_icmp_lt (pc := 40) (tgt := 58) d_X_readTitles_40 (by decide) (fun he => ?_) (fun he => ?_)
        · have h8 : ¬ a ≤ j := fun z => absurd he (nI_nlt z (by omega))
          rw [if_neg h8]
          refine ev_aload_n (pc := 58) d_X_readTitles_58 rfl rfl (by first | rfl | exact mm_rk_rf _) ?_
          refine ev_gR (pc := 59) sh_X (by rfl) fl_X_12 d_X_readTitles_59 ?_
          refine ev_iload_n (pc := 62) d_X_readTitles_62 rfl rfl ?_
          refine ev_aload_n (pc := 63) d_X_readTitles_63 rfl rfl (by first | rfl | exact mm_rk_rf _) ?_
          refine ev_aload (pc := 64) d_X_readTitles_64 rfl (by first | rfl | exact mm_rk_rf _) ?_
          refine ev_gI (pc := 66) (by first | with_reducible assumption | assumption) (by rfl) fl_X_340 d_X_readTitles_66 ?_
          have hM := ct_S_childBehind E C1 ht s3 (C1 (bk i) 4)
          unfold so_cb at hM
          refine ev_cV (pc := 69) hM cl_X_337 jv_S_childBehind ⟨(Nat.le_of_ble_eq_true rfl), (Nat.le_of_ble_eq_true rfl)⟩ rfl sh_S rfl (Nat.le_of_ble_eq_true rfl) d_X_readTitles_69 ⟨Nat.zero_le _, Nat.zero_le _⟩ ?_
          refine ev_astore (pc := 72) d_X_readTitles_72 (by first | rfl | exact mm_rk_rf _) (Nat.le_of_ble_eq_true rfl) rfl ?_
          try dsimp only [List.set]
          refine ev_iinc (pc := 74) d_X_readTitles_74 (Nat.le_of_ble_eq_true rfl) rfl (nx_inc _) rfl ?_
          try dsimp only [List.set]
          refine ev_goto (pc := 77) (tgt := 18) d_X_readTitles_77 (by decide) ?_
          exact ih (j + 1) n _ C1 (by omega) (by omega) (fun l hl => cl _ _ _ l hl) hk1
        · have h8 : a ≤ j := Nat.not_lt.mp (fun z => he (nI_lt z (by omega)))
          rw [if_pos h8]
          refine ev_aload_n (pc := 43) d_X_readTitles_43 rfl rfl (by first | rfl | exact mm_rk_rf _) ?_
          refine ev_gR (pc := 44) sh_X (by rfl) fl_X_39 d_X_readTitles_44 ?_
          refine ev_aload (pc := 47) d_X_readTitles_47 rfl (by first | rfl | exact mm_rk_rf _) ?_
          refine ev_gI (pc := 49) (by first | with_reducible assumption | assumption) (by rfl) fl_X_340 d_X_readTitles_49 ?_
          refine ev_cVv (pc := 52) (ct_rp E C1 hk1 (by omega) _) cl_X_65 jv_R_add ⟨(Nat.le_of_ble_eq_true rfl), (Nat.le_of_ble_eq_true rfl)⟩ rfl (by first | exact sh_said | exact sh_rep | with_reducible assumption | assumption) rfl (Nat.le_of_ble_eq_true rfl) d_X_readTitles_52 ⟨Nat.zero_le _, Nat.zero_le _⟩ ?_
          refine ev_iinc (pc := 55) d_X_readTitles_55 (Nat.le_of_ble_eq_true rfl) rfl (nx_inc _) rfl ?_
          try dsimp only [List.set]
          refine ev_aload_n (pc := 58) d_X_readTitles_58 rfl rfl (by first | rfl | exact mm_rk_rf _) ?_
          refine ev_gR (pc := 59) sh_X (by rfl) fl_X_12 d_X_readTitles_59 ?_
          refine ev_iload_n (pc := 62) d_X_readTitles_62 rfl rfl ?_
          refine ev_aload_n (pc := 63) d_X_readTitles_63 rfl rfl (by first | rfl | exact mm_rk_rf _) ?_
          refine ev_aload (pc := 64) d_X_readTitles_64 rfl (by first | rfl | exact mm_rk_rf _) ?_
          refine ev_gI (pc := 66) (by first | with_reducible assumption | assumption) (by rfl) fl_X_340 d_X_readTitles_66 ?_
          have hM := ct_S_childBehind E (rp_add C1 n (C1 (bk i) 4)) ht s3 (rp_add C1 n (C1 (bk i) 4) (bk i) 4)
          unfold so_cb at hM
          refine ev_cV (pc := 69) hM cl_X_337 jv_S_childBehind ⟨(Nat.le_of_ble_eq_true rfl), (Nat.le_of_ble_eq_true rfl)⟩ rfl sh_S rfl (Nat.le_of_ble_eq_true rfl) d_X_readTitles_69 ⟨Nat.zero_le _, Nat.zero_le _⟩ ?_
          refine ev_astore (pc := 72) d_X_readTitles_72 (by first | rfl | exact mm_rk_rf _) (Nat.le_of_ble_eq_true rfl) rfl ?_
          try dsimp only [List.set]
          refine ev_iinc (pc := 74) d_X_readTitles_74 (Nat.le_of_ble_eq_true rfl) rfl (nx_inc _) rfl ?_
          try dsimp only [List.set]
          refine ev_goto (pc := 77) (tgt := 18) d_X_readTitles_77 (by decide) ?_
          exact ih (j + 1) (n + 1) _ _ (by omega) (by omega) (fun l hl => cl _ _ _ l hl) (rp_k _ _ _)
  have hM := ct_S_childBehind E C ht s3 0
  unfold so_cb at hM
  refine mm_mtL (by decide) (by rfl) (Nat.le_of_ble_eq_true rfl) rfl ?_
  refine ev_iconst (pc := 0) (v := 0) d_X_readTitles_0 rfl ?_
  refine ev_istore (pc := 1) d_X_readTitles_1 (Nat.le_of_ble_eq_true rfl) rfl ?_
  try dsimp only [List.set]
  refine ev_aload_n (pc := 3) d_X_readTitles_3 rfl rfl (by first | rfl | exact mm_rk_rf _) ?_
  refine ev_gR (pc := 4) sh_X (by rfl) fl_X_12 d_X_readTitles_4 ?_
  refine ev_iload_n (pc := 7) d_X_readTitles_7 rfl rfl ?_
  refine ev_aload_n (pc := 8) d_X_readTitles_8 rfl rfl (by first | rfl | exact mm_rk_rf _) ?_
  refine ev_iconst (pc := 9) (v := 0) d_X_readTitles_9 rfl ?_
  refine ev_cV (pc := 10) hM cl_X_337 jv_S_childBehind ⟨(Nat.le_of_ble_eq_true rfl), (Nat.le_of_ble_eq_true rfl)⟩ rfl sh_S rfl (Nat.le_of_ble_eq_true rfl) d_X_readTitles_10 ⟨Nat.zero_le _, Nat.zero_le _⟩ ?_
  refine ev_astore (pc := 13) d_X_readTitles_13 (by first | rfl | exact mm_rk_rf _) (Nat.le_of_ble_eq_true rfl) rfl ?_
  try dsimp only [List.set]
  refine ev_iconst (pc := 15) (v := 0) d_X_readTitles_15 rfl ?_
  refine ev_istore (pc := 16) d_X_readTitles_16 (Nat.le_of_ble_eq_true rfl) rfl ?_
  try dsimp only [List.set]
  exact loop 8 0 0 _ C (by omega) (by omega) (fun l hl => cl _ _ _ l hl) hk
