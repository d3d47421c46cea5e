/-! Opening, creating, stat, writing. -/
/-- a node is cut to length 0, by copying -/
def xo_cut (C : Nat → Nat → Int32) (i : Nat) : Nat → Nat → Int32 := cs_C (bl_sl (cg_C C i) (bk (ob_i C i)) (ln_ (cg_C C i) (bk (ob_i C i))) 0) (bk (ob_i C i)) 7 (cg_C C i (bk (ob_i C i)) 7 + 1)
noncomputable def xo_R (C : Nat → Nat → Int32) (f t : Nat) (m : Int32) : Int32 × (Nat → Nat → Int32) := if C f 0 = 0 then (-1, C) else if ¬ C f 1 = 0 then (-8, C) else (match so_i C t (C f 4) with
  | none => (-13, C)
  | some i => if ¬ xh_open C f t i m = 0 then (xh_open C f t i m, C) else if ¬ (m &&& 16) = 0 ∧ (C (bk i) 8 &&& 512) = 0 then (if so_nb C + (0 + hr_n C 20 (some i)) ≤ 64 then (0, rp_v (fi_open (xo_cut C i) f m) (bk (ob_i C i)) 0) else (-11, C)) else (0, rp_v (fi_open C f m) (bk i) 0))
theorem xo_cut_out {C : Nat → Nat → Int32} {i a j : Nat} (hi : i < 64) (h : a < 3 ∨ 131 ≤ a) : xo_cut C i a j = C a j := by
  have k1 : bk (ob_i C i) = 3 + 2 * ob_i C i := rfl
  have := ob_i_lt (C := C) hi
  unfold xo_cut bl_sl bl_z
  rw [cs_ne _ _ (by omega), cs_ne _ _ (by omega), if_neg (by omega), cg_out hi h]
theorem d_X_open_0 : decode b_X_open 0 = .ok (.aload_n 1, 1) := by decide +kernel
theorem d_X_open_1 : decode b_X_open 1 = .ok (.getfield 116, 3) := by decide +kernel
theorem d_X_open_4 : decode b_X_open 4 = .ok (.ifCond .ne 5, 3) := by decide +kernel
theorem d_X_open_7 : decode b_X_open 7 = .ok (.iconst (-1), 1) := by decide +kernel
theorem d_X_open_8 : decode b_X_open 8 = .ok (.ireturn, 1) := by decide +kernel
theorem d_X_open_9 : decode b_X_open 9 = .ok (.aload_n 1, 1) := by decide +kernel
theorem d_X_open_10 : decode b_X_open 10 = .ok (.getfield 121, 3) := by decide +kernel
theorem d_X_open_13 : decode b_X_open 13 = .ok (.ifCond .eq 6, 3) := by decide +kernel
theorem d_X_open_16 : decode b_X_open 16 = .ok (.bipush (-8), 2) := by decide +kernel
theorem d_X_open_18 : decode b_X_open 18 = .ok (.ireturn, 1) := by decide +kernel
theorem d_X_open_19 : decode b_X_open 19 = .ok (.aload_n 0, 1) := by decide +kernel
theorem d_X_open_20 : decode b_X_open 20 = .ok (.aload_n 1, 1) := by decide +kernel
theorem d_X_open_21 : decode b_X_open 21 = .ok (.invokevirtual 217, 3) := by decide +kernel
theorem d_X_open_24 : decode b_X_open 24 = .ok (.astore_n 3, 1) := by decide +kernel
theorem d_X_open_25 : decode b_X_open 25 = .ok (.aload_n 3, 1) := by decide +kernel
theorem d_X_open_26 : decode b_X_open 26 = .ok (.ifnonnull 6, 3) := by decide +kernel
theorem d_X_open_29 : decode b_X_open 29 = .ok (.bipush (-13), 2) := by decide +kernel
theorem d_X_open_31 : decode b_X_open 31 = .ok (.ireturn, 1) := by decide +kernel
theorem d_X_open_32 : decode b_X_open 32 = .ok (.aload_n 0, 1) := by decide +kernel
theorem d_X_open_33 : decode b_X_open 33 = .ok (.aload_n 1, 1) := by decide +kernel
theorem d_X_open_34 : decode b_X_open 34 = .ok (.aload_n 3, 1) := by decide +kernel
theorem d_X_open_35 : decode b_X_open 35 = .ok (.iload_n 2, 1) := by decide +kernel
theorem d_X_open_36 : decode b_X_open 36 = .ok (.invokevirtual 254, 3) := by decide +kernel
theorem d_X_open_39 : decode b_X_open 39 = .ok (.istore 4, 2) := by decide +kernel
theorem d_X_open_41 : decode b_X_open 41 = .ok (.iload 4, 2) := by decide +kernel
theorem d_X_open_43 : decode b_X_open 43 = .ok (.ifCond .eq 6, 3) := by decide +kernel
theorem d_X_open_46 : decode b_X_open 46 = .ok (.iload 4, 2) := by decide +kernel
theorem d_X_open_48 : decode b_X_open 48 = .ok (.ireturn, 1) := by decide +kernel
theorem d_X_open_49 : decode b_X_open 49 = .ok (.aload_n 3, 1) := by decide +kernel
theorem d_X_open_50 : decode b_X_open 50 = .ok (.astore 5, 2) := by decide +kernel
theorem d_X_open_52 : decode b_X_open 52 = .ok (.iload_n 2, 1) := by decide +kernel
theorem d_X_open_53 : decode b_X_open 53 = .ok (.bipush 16, 2) := by decide +kernel
theorem d_X_open_55 : decode b_X_open 55 = .ok (.iand, 1) := by decide +kernel
theorem d_X_open_56 : decode b_X_open 56 = .ok (.ifCond .eq 55, 3) := by decide +kernel
theorem d_X_open_59 : decode b_X_open 59 = .ok (.aload_n 3, 1) := by decide +kernel
theorem d_X_open_60 : decode b_X_open 60 = .ok (.sipush 512, 3) := by decide +kernel
theorem d_X_open_63 : decode b_X_open 63 = .ok (.invokevirtual 258, 3) := by decide +kernel
theorem d_X_open_66 : decode b_X_open 66 = .ok (.ifCond .ne 45, 3) := by decide +kernel
theorem d_X_open_69 : decode b_X_open 69 = .ok (.aload_n 0, 1) := by decide +kernel
theorem d_X_open_70 : decode b_X_open 70 = .ok (.getfield 12, 3) := by decide +kernel
theorem d_X_open_73 : decode b_X_open 73 = .ok (.aload_n 3, 1) := by decide +kernel
theorem d_X_open_74 : decode b_X_open 74 = .ok (.iconst 0, 1) := by decide +kernel
theorem d_X_open_75 : decode b_X_open 75 = .ok (.invokevirtual 261, 3) := by decide +kernel
theorem d_X_open_78 : decode b_X_open 78 = .ok (.ifCond .ne 6, 3) := by decide +kernel
theorem d_X_open_81 : decode b_X_open 81 = .ok (.bipush (-11), 2) := by decide +kernel
theorem d_X_open_83 : decode b_X_open 83 = .ok (.ireturn, 1) := by decide +kernel
theorem d_X_open_84 : decode b_X_open 84 = .ok (.aload_n 0, 1) := by decide +kernel
theorem d_X_open_85 : decode b_X_open 85 = .ok (.getfield 12, 3) := by decide +kernel
theorem d_X_open_88 : decode b_X_open 88 = .ok (.aload_n 3, 1) := by decide +kernel
theorem d_X_open_89 : decode b_X_open 89 = .ok (.invokevirtual 265, 3) := by decide +kernel
theorem d_X_open_92 : decode b_X_open 92 = .ok (.astore 5, 2) := by decide +kernel
theorem d_X_open_94 : decode b_X_open 94 = .ok (.aload 5, 2) := by decide +kernel
theorem d_X_open_96 : decode b_X_open 96 = .ok (.iconst 0, 1) := by decide +kernel
theorem d_X_open_97 : decode b_X_open 97 = .ok (.invokevirtual 269, 3) := by decide +kernel
theorem d_X_open_100 : decode b_X_open 100 = .ok (.aload 5, 2) := by decide +kernel
theorem d_X_open_102 : decode b_X_open 102 = .ok (.dup, 1) := by decide +kernel
theorem d_X_open_103 : decode b_X_open 103 = .ok (.getfield 272, 3) := by decide +kernel
theorem d_X_open_106 : decode b_X_open 106 = .ok (.iconst 1, 1) := by decide +kernel
theorem d_X_open_107 : decode b_X_open 107 = .ok (.iadd, 1) := by decide +kernel
theorem d_X_open_108 : decode b_X_open 108 = .ok (.putfield 272, 3) := by decide +kernel
theorem d_X_open_111 : decode b_X_open 111 = .ok (.aload_n 1, 1) := by decide +kernel
theorem d_X_open_112 : decode b_X_open 112 = .ok (.iload_n 2, 1) := by decide +kernel
theorem d_X_open_113 : decode b_X_open 113 = .ok (.invokevirtual 275, 3) := by decide +kernel
theorem d_X_open_116 : decode b_X_open 116 = .ok (.aload_n 0, 1) := by decide +kernel
theorem d_X_open_117 : decode b_X_open 117 = .ok (.aload 5, 2) := by decide +kernel
theorem d_X_open_119 : decode b_X_open 119 = .ok (.invokevirtual 278, 3) := by decide +kernel
theorem d_X_open_122 : decode b_X_open 122 = .ok (.iconst 0, 1) := by decide +kernel
theorem d_X_open_123 : decode b_X_open 123 = .ok (.ireturn, 1) := by decide +kernel
set_option maxHeartbeats 2000000 in
set_option maxRecDepth 20000 in
theorem ct_X_open (E : mm_En) (C : Nat → Nat → Int32) {f t : Nat} (hf : fi_n f) (ht : t ≤ 4) (he : C f 3 = nI t) (hk : C 201 1 = nI 0) (hln : ln_ok C) (m : Int32) : mm_MT E K_X_open [.ref 0, .ref f, .int m] (hp_H C) (mm_D (some (.int (xo_R C f t m).1)) (xo_R C f t m).2) := by
  obtain ⟨s1, f1, f2⟩ := hf
  refine mm_mtL (by decide) (by rfl) (Nat.le_of_ble_eq_true rfl) rfl ?_
  refine ev_aload_n (pc := 0) d_X_open_0 rfl rfl (by first | rfl | exact mm_rk_rf _) ?_
  refine ev_gI (pc := 1) (by first | with_reducible assumption | assumption) (by rfl) fl_X_116 d_X_open_1 ?_
  refine ev_if_ne (pc := 4) (tgt := 9) d_X_open_4 (by decide) (fun ha => ?_) (fun ha => ?_)
  rotate_left
  · refine ev_iconst (pc := 7) (v := -1) d_X_open_7 rfl ?_
    exact ev_iret (pc := 8) d_X_open_8 rfl (Nat.zero_le _) (Nat.zero_le _) ⟨by rw [xo_R, if_pos ha], by rw [xo_R, if_pos ha]⟩
  refine ev_aload_n (pc := 9) d_X_open_9 rfl rfl (by first | rfl | exact mm_rk_rf _) ?_
  refine ev_gI (pc := 10) (by first | with_reducible assumption | assumption) (by rfl) fl_X_121 d_X_open_10 ?_
  refine ev_if_eq (pc := 13) (tgt := 19) d_X_open_13 (by decide) (fun hb => ?_) (fun hb => ?_)
  rotate_left
  · refine ev_bipush (pc := 16) (v := -8) d_X_open_16 (by decide) ?_
    exact ev_iret (pc := 18) d_X_open_18 rfl (Nat.zero_le _) (Nat.zero_le _) ⟨by rw [xo_R, if_neg ha, if_pos hb], by rw [xo_R, if_neg ha, if_pos hb]⟩
  have hb' : ¬ ¬ C f 1 = 0 := fun z => z hb
  refine ev_aload_n (pc := 19) d_X_open_19 rfl rfl (by first | rfl | exact mm_rk_rf _) ?_
  refine ev_aload_n (pc := 20) d_X_open_20 rfl rfl (by first | rfl | exact mm_rk_rf _) ?_
  refine ev_cV (pc := 21) (ct_X_nodeOf E C s1 (by omega) he) cl_X_217 jv_X_nodeOf ⟨(Nat.le_of_ble_eq_true rfl), (Nat.le_of_ble_eq_true rfl)⟩ rfl sh_X rfl (Nat.le_of_ble_eq_true rfl) d_X_open_21 ⟨Nat.zero_le _, Nat.zero_le _⟩ ?_
  refine ev_astore_n (pc := 24) d_X_open_24 rfl (by first | rfl | exact mm_rk_rf _) (Nat.le_of_ble_eq_true rfl) rfl ?_
  try dsimp only [List.set]
  refine ev_aload_n (pc := 25) d_X_open_25 rfl rfl (by first | rfl | exact mm_rk_rf _) ?_
  cases hq : so_i C t (C f 4) with
  | none =>
    refine ev_ifnonnullN (pc := 26) d_X_open_26 ?_
    refine ev_bipush (pc := 29) (v := -13) d_X_open_29 (by decide) ?_
    exact ev_iret (pc := 31) d_X_open_31 rfl (Nat.zero_le _) (Nat.zero_le _) ⟨by rw [xo_R, if_neg ha, if_neg hb', hq], by rw [xo_R, if_neg ha, if_neg hb', hq]⟩
  | some i =>
    have hi := so_i_lt hq
    have s3 := bk_s hi
    have e1 : xo_R C f t m = (if ¬ xh_open C f t i m = 0 then (xh_open C f t i m, C) else if ¬ (m &&& 16) = 0 ∧ (C (bk i) 8 &&& 512) = 0 then (if so_nb C + (0 + hr_n C 20 (some i)) ≤ 64 then (0, rp_v (fi_open (xo_cut C i) f m) (bk (ob_i C i)) 0) else (-11, C)) else (0, rp_v (fi_open C f m) (bk i) 0)) := by
      rw [xo_R, if_neg ha, if_neg hb', hq]
    rw [e1]
    refine ev_ifnonnullR (pc := 26) (tgt := 32) d_X_open_26 (by decide) ?_
    refine ev_eq rfl (show _ = [some (.ref 0), some (.ref f), some (.int m), some (.ref (bk i)), none, none] from rfl) rfl rfl rfl rfl ?_
    refine ev_aload_n (pc := 32) d_X_open_32 rfl rfl (by first | rfl | exact mm_rk_rf _) ?_
    refine ev_aload_n (pc := 33) d_X_open_33 rfl rfl (by first | rfl | exact mm_rk_rf _) ?_
    refine ev_aload_n (pc := 34) d_X_open_34 rfl rfl (by first | rfl | exact mm_rk_rf _) ?_
    refine ev_iload_n (pc := 35) d_X_open_35 rfl rfl ?_
    refine ev_cV (pc := 36) (ct_X_hindranceOfOpening E C s1 hi (by omega) he m) cl_X_254 jv_X_hindranceOfOpening ⟨(Nat.le_of_ble_eq_true rfl), (Nat.le_of_ble_eq_true rfl)⟩ rfl sh_X rfl (Nat.le_of_ble_eq_true rfl) d_X_open_36 ⟨Nat.zero_le _, Nat.zero_le _⟩ ?_
    refine ev_istore (pc := 39) d_X_open_39 (Nat.le_of_ble_eq_true rfl) rfl ?_
    try dsimp only [List.set]
    refine ev_iload (pc := 41) d_X_open_41 rfl ?_
    refine ev_if_eq (pc := 43) (tgt := 49) d_X_open_43 (by decide) (fun hc => ?_) (fun hc => ?_)
    rotate_left
    · refine ev_iload (pc := 46) d_X_open_46 rfl ?_
      exact ev_iret (pc := 48) d_X_open_48 rfl (Nat.zero_le _) (Nat.zero_le _) ⟨by rw [if_pos hc], by rw [if_pos hc]⟩
    have hc' : ¬ ¬ xh_open C f t i m = 0 := fun z => z hc
    rw [if_neg hc']
    have fin : ∀ (C1 : Nat → Nat → Int32) (i1 : Nat) (z : Int32), i1 < 64 → C1 201 1 = nI 0 → ev_At E K_X_open 111 [some (.ref 0), some (.ref f), some (.int m), some (.ref (bk i)), some (.int z), some (.ref (bk i1))] [] (hp_H C1) 0 0 (mm_D (some (.int 0)) (rp_v (fi_open C1 f m) (bk i1) 0)) := by
      intro C1 i1 z h1 h2
      have s4 := bk_s h1
      refine ev_aload_n (pc := 111) d_X_open_111 rfl rfl (by first | rfl | exact mm_rk_rf _) ?_
      refine ev_iload_n (pc := 112) d_X_open_112 rfl rfl ?_
      refine ev_cVv (pc := 113) (ct_F_openAs E C1 s1 m) cl_X_275 jv_F_openAs ⟨(Nat.le_of_ble_eq_true rfl), (Nat.le_of_ble_eq_true rfl)⟩ rfl (by first | with_reducible assumption | assumption) rfl (Nat.le_of_ble_eq_true rfl) d_X_open_113 ⟨Nat.zero_le _, Nat.zero_le _⟩ ?_
      refine ev_aload_n (pc := 116) d_X_open_116 rfl rfl (by first | rfl | exact mm_rk_rf _) ?_
      refine ev_aload (pc := 117) d_X_open_117 rfl (by first | rfl | exact mm_rk_rf _) ?_
      refine ev_cVv (pc := 119) (ct_X_replyWithVersion E _ h1 (k := 0) (by rw [fp_ne (by omega)]; exact h2) (by decide)) cl_X_278 jv_X_replyWithVersion ⟨(Nat.le_of_ble_eq_true rfl), (Nat.le_of_ble_eq_true rfl)⟩ rfl sh_X rfl (Nat.le_of_ble_eq_true rfl) d_X_open_119 ⟨Nat.zero_le _, Nat.zero_le _⟩ ?_
      refine ev_iconst (pc := 122) (v := 0) d_X_open_122 rfl ?_
      exact ev_iret (pc := 123) d_X_open_123 rfl (Nat.zero_le _) (Nat.zero_le _) ⟨rfl, rfl⟩
    refine ev_aload_n (pc := 49) d_X_open_49 rfl rfl (by first | rfl | exact mm_rk_rf _) ?_
    refine ev_astore (pc := 50) d_X_open_50 (by first | rfl | exact mm_rk_rf _) (Nat.le_of_ble_eq_true rfl) rfl ?_
    try dsimp only [List.set]
    refine ev_iload_n (pc := 52) d_X_open_52 rfl rfl ?_
    refine ev_bipush (pc := 53) (v := 16) d_X_open_53 (by decide) ?_
    refine ev_iand (pc := 55) d_X_open_55 ?_
    refine ev_if_eq (pc := 56) (tgt := 111) d_X_open_56 (by decide) (fun hd => ?_) (fun hd => ?_)
    · rw [if_neg (fun z => z.1 hd)]
      exact fin C i _ hi hk
    refine ev_aload_n (pc := 59) d_X_open_59 rfl rfl (by first | rfl | exact mm_rk_rf _) ?_
    refine ev_sipush (pc := 60) (v := 512) d_X_open_60 (by decide) ?_
    refine ev_cV (pc := 63) (ct_B_is E C s3 512) cl_X_258 jv_B_is ⟨(Nat.le_of_ble_eq_true rfl), (Nat.le_of_ble_eq_true rfl)⟩ rfl (by first | with_reducible assumption | assumption) rfl (Nat.le_of_ble_eq_true rfl) d_X_open_63 ⟨Nat.zero_le _, Nat.zero_le _⟩ ?_
    refine ev_if_ne (pc := 66) (tgt := 111) d_X_open_66 (by decide) (fun hg => ?_) (fun hg => ?_)
    · rw [b2_0, Classical.not_not] at hg
      rw [if_neg (fun z => hg z.2)]
      exact fin C i _ hi hk
    rw [b2_0, Classical.not_not] at hg
    rw [if_pos ⟨hd, hg⟩]
    refine ev_aload_n (pc := 69) d_X_open_69 rfl rfl (by first | rfl | exact mm_rk_rf _) ?_
    refine ev_gR (pc := 70) sh_X (by rfl) fl_X_12 d_X_open_70 ?_
    refine ev_aload_n (pc := 73) d_X_open_73 rfl rfl (by first | rfl | exact mm_rk_rf _) ?_
    refine ev_iconst (pc := 74) (v := 0) d_X_open_74 rfl ?_
    refine ev_cV (pc := 75) (ct_S_hasRoom E C (w := 0) hi (by decide)) cl_X_261 jv_S_hasRoom ⟨(Nat.le_of_ble_eq_true rfl), (Nat.le_of_ble_eq_true rfl)⟩ rfl sh_S rfl (Nat.le_of_ble_eq_true rfl) d_X_open_75 ⟨Nat.zero_le _, Nat.zero_le _⟩ ?_
    refine ev_if_ne (pc := 78) (tgt := 84) d_X_open_78 (by decide) (fun hj => ?_) (fun hj => ?_)
    rotate_left
    · rw [b2_0] at hj
      refine ev_bipush (pc := 81) (v := -11) d_X_open_81 (by decide) ?_
      exact ev_iret (pc := 83) d_X_open_83 rfl (Nat.zero_le _) (Nat.zero_le _) ⟨by rw [if_neg hj], by rw [if_neg hj]⟩
    rw [b2_0, Classical.not_not] at hj
    rw [if_pos hj]
    refine ev_aload_n (pc := 84) d_X_open_84 rfl rfl (by first | rfl | exact mm_rk_rf _) ?_
    refine ev_gR (pc := 85) sh_X (by rfl) fl_X_12 d_X_open_85 ?_
    refine ev_aload_n (pc := 88) d_X_open_88 rfl rfl (by first | rfl | exact mm_rk_rf _) ?_
    refine ev_cV (pc := 89) (ct_S_change E C hi) cl_X_265 jv_S_change ⟨(Nat.le_of_ble_eq_true rfl), (Nat.le_of_ble_eq_true rfl)⟩ rfl sh_S rfl (Nat.le_of_ble_eq_true rfl) d_X_open_89 ⟨Nat.zero_le _, Nat.zero_le _⟩ ?_
    have ho := ob_i_lt (C := C) hi
    have s5 := bk_s ho
    obtain ⟨l1, l2⟩ := ln_at (ln_cg hln hi) ho
    refine ev_astore (pc := 92) d_X_open_92 (by first | rfl | exact mm_rk_rf _) (Nat.le_of_ble_eq_true rfl) rfl ?_
    try dsimp only [List.set]
    refine ev_aload (pc := 94) d_X_open_94 rfl (by first | rfl | exact mm_rk_rf _) ?_
    refine ev_iconst (pc := 96) (v := 0) d_X_open_96 rfl ?_
    refine ev_cVv (pc := 97) (ct_B_setLength E (cg_C C i) s5 (bk_a ho) (k := 0) l1 l2 (by decide)) cl_X_269 jv_B_setLength ⟨(Nat.le_of_ble_eq_true rfl), (Nat.le_of_ble_eq_true rfl)⟩ rfl (by first | with_reducible assumption | assumption) rfl (Nat.le_of_ble_eq_true rfl) d_X_open_97 ⟨Nat.zero_le _, Nat.zero_le _⟩ ?_
    refine ev_aload (pc := 100) d_X_open_100 rfl (by first | rfl | exact mm_rk_rf _) ?_
    refine ev_dup (pc := 102) d_X_open_102 (by rfl) ?_
    refine ev_gI (pc := 103) (by first | with_reducible assumption | assumption) (by rfl) fl_X_272 d_X_open_103 ?_
    refine ev_iconst (pc := 106) (v := 1) d_X_open_106 rfl ?_
    have e2 : bl_sl (cg_C C i) (bk (ob_i C i)) (ln_ (cg_C C i) (bk (ob_i C i))) 0 (bk (ob_i C i)) 7 = cg_C C i (bk (ob_i C i)) 7 := by
      unfold bl_sl bl_z
      rw [cs_ne _ _ (by omega), if_neg (by omega)]
    rw [e2]
    refine ev_iadd (pc := 107) d_X_open_107 ?_
    refine ev_pI (pc := 108) (by first | with_reducible assumption | assumption) (by rfl) fl_X_272 fw_0_7 (by rfl) d_X_open_108 ?_
    exact fin (xo_cut C i) (ob_i C i) _ ho (by rw [xo_cut_out hi (by omega)]; exact hk)
theorem d_X_stat_0 : decode b_X_stat 0 = .ok (.aload_n 1, 1) := by decide +kernel
theorem d_X_stat_1 : decode b_X_stat 1 = .ok (.getfield 116, 3) := by decide +kernel
theorem d_X_stat_4 : decode b_X_stat 4 = .ok (.ifCond .ne 5, 3) := by decide +kernel
theorem d_X_stat_7 : decode b_X_stat 7 = .ok (.iconst (-1), 1) := by decide +kernel
theorem d_X_stat_8 : decode b_X_stat 8 = .ok (.ireturn, 1) := by decide +kernel
theorem d_X_stat_9 : decode b_X_stat 9 = .ok (.aload_n 0, 1) := by decide +kernel
theorem d_X_stat_10 : decode b_X_stat 10 = .ok (.aload_n 1, 1) := by decide +kernel
theorem d_X_stat_11 : decode b_X_stat 11 = .ok (.invokevirtual 217, 3) := by decide +kernel
theorem d_X_stat_14 : decode b_X_stat 14 = .ok (.astore_n 2, 1) := by decide +kernel
theorem d_X_stat_15 : decode b_X_stat 15 = .ok (.aload_n 2, 1) := by decide +kernel
theorem d_X_stat_16 : decode b_X_stat 16 = .ok (.ifnonnull 6, 3) := by decide +kernel
theorem d_X_stat_19 : decode b_X_stat 19 = .ok (.bipush (-13), 2) := by decide +kernel
theorem d_X_stat_21 : decode b_X_stat 21 = .ok (.ireturn, 1) := by decide +kernel
theorem d_X_stat_22 : decode b_X_stat 22 = .ok (.aload_n 0, 1) := by decide +kernel
theorem d_X_stat_23 : decode b_X_stat 23 = .ok (.aload_n 2, 1) := by decide +kernel
theorem d_X_stat_24 : decode b_X_stat 24 = .ok (.invokevirtual 213, 3) := by decide +kernel
theorem d_X_stat_27 : decode b_X_stat 27 = .ok (.aload_n 0, 1) := by decide +kernel
theorem d_X_stat_28 : decode b_X_stat 28 = .ok (.getfield 39, 3) := by decide +kernel
theorem d_X_stat_31 : decode b_X_stat 31 = .ok (.aload_n 2, 1) := by decide +kernel
theorem d_X_stat_32 : decode b_X_stat 32 = .ok (.getfield 331, 3) := by decide +kernel
theorem d_X_stat_35 : decode b_X_stat 35 = .ok (.invokevirtual 65, 3) := by decide +kernel
theorem d_X_stat_38 : decode b_X_stat 38 = .ok (.aload_n 0, 1) := by decide +kernel
theorem d_X_stat_39 : decode b_X_stat 39 = .ok (.getfield 39, 3) := by decide +kernel
theorem d_X_stat_42 : decode b_X_stat 42 = .ok (.aload_n 2, 1) := by decide +kernel
theorem d_X_stat_43 : decode b_X_stat 43 = .ok (.getfield 366, 3) := by decide +kernel
theorem d_X_stat_46 : decode b_X_stat 46 = .ok (.invokevirtual 65, 3) := by decide +kernel
theorem d_X_stat_49 : decode b_X_stat 49 = .ok (.aload_n 0, 1) := by decide +kernel
theorem d_X_stat_50 : decode b_X_stat 50 = .ok (.getfield 39, 3) := by decide +kernel
theorem d_X_stat_53 : decode b_X_stat 53 = .ok (.aload_n 2, 1) := by decide +kernel
theorem d_X_stat_54 : decode b_X_stat 54 = .ok (.getfield 369, 3) := by decide +kernel
theorem d_X_stat_57 : decode b_X_stat 57 = .ok (.invokevirtual 65, 3) := by decide +kernel
theorem d_X_stat_60 : decode b_X_stat 60 = .ok (.aload_n 0, 1) := by decide +kernel
theorem d_X_stat_61 : decode b_X_stat 61 = .ok (.getfield 39, 3) := by decide +kernel
theorem d_X_stat_64 : decode b_X_stat 64 = .ok (.aload_n 2, 1) := by decide +kernel
theorem d_X_stat_65 : decode b_X_stat 65 = .ok (.getfield 340, 3) := by decide +kernel
theorem d_X_stat_68 : decode b_X_stat 68 = .ok (.invokevirtual 65, 3) := by decide +kernel
theorem d_X_stat_71 : decode b_X_stat 71 = .ok (.iconst 0, 1) := by decide +kernel
theorem d_X_stat_72 : decode b_X_stat 72 = .ok (.ireturn, 1) := by decide +kernel
def xt_C (C : Nat → Nat → Int32) (b : Nat) : Nat → Nat → Int32 := rp_add (rp_add (rp_add (rp_add (rp_m C b 0) 3 (C b 9)) 4 (C b 5)) 5 (C b 6)) 6 (C b 4)
def xt_R (C : Nat → Nat → Int32) (f t : Nat) : Int32 × (Nat → Nat → Int32) := if C f 0 = 0 then (-1, C) else (match so_i C t (C f 4) with
  | none => (-13, C)
  | some i => (0, xt_C C (bk i)))
set_option maxHeartbeats 2000000 in
set_option maxRecDepth 20000 in
theorem ct_X_stat (E : mm_En) (C : Nat → Nat → Int32) {f t : Nat} (hf : fi_n f) (ht : t ≤ 4) (he : C f 3 = nI t) (hk : C 201 1 = nI 0) : mm_MT E K_X_stat [.ref 0, .ref f] (hp_H C) (mm_D (some (.int (xt_R C f t).1)) (xt_R C f t).2) := by
  obtain ⟨s1, f1, f2⟩ := hf
  refine mm_mtL (by decide) (by rfl) (Nat.le_of_ble_eq_true rfl) rfl ?_
  refine ev_aload_n (pc := 0) d_X_stat_0 rfl rfl (by first | rfl | exact mm_rk_rf _) ?_
  refine ev_gI (pc := 1) (by first | with_reducible assumption | assumption) (by rfl) fl_X_116 d_X_stat_1 ?_
  refine ev_if_ne (pc := 4) (tgt := 9) d_X_stat_4 (by decide) (fun ha => ?_) (fun ha => ?_)
  rotate_left
  · refine ev_iconst (pc := 7) (v := -1) d_X_stat_7 rfl ?_
    exact ev_iret (pc := 8) d_X_stat_8 rfl (Nat.zero_le _) (Nat.zero_le _) ⟨by rw [xt_R, if_pos ha], by rw [xt_R, if_pos ha]⟩
  refine ev_aload_n (pc := 9) d_X_stat_9 rfl rfl (by first | rfl | exact mm_rk_rf _) ?_
  refine ev_aload_n (pc := 10) d_X_stat_10 rfl rfl (by first | rfl | exact mm_rk_rf _) ?_
  refine ev_cV (pc := 11) (ct_X_nodeOf E C s1 (by omega) he) cl_X_217 jv_X_nodeOf ⟨(Nat.le_of_ble_eq_true rfl), (Nat.le_of_ble_eq_true rfl)⟩ rfl sh_X rfl (Nat.le_of_ble_eq_true rfl) d_X_stat_11 ⟨Nat.zero_le _, Nat.zero_le _⟩ ?_
  refine ev_astore_n (pc := 14) d_X_stat_14 rfl (by first | rfl | exact mm_rk_rf _) (Nat.le_of_ble_eq_true rfl) rfl ?_
  try dsimp only [List.set]
  refine ev_aload_n (pc := 15) d_X_stat_15 rfl rfl (by first | rfl | exact mm_rk_rf _) ?_
  cases hq : so_i C t (C f 4) with
  | none =>
    refine ev_ifnonnullN (pc := 16) d_X_stat_16 ?_
    refine ev_bipush (pc := 19) (v := -13) d_X_stat_19 (by decide) ?_
    exact ev_iret (pc := 21) d_X_stat_21 rfl (Nat.zero_le _) (Nat.zero_le _) ⟨by rw [xt_R, if_neg ha, hq], by rw [xt_R, if_neg ha, hq]⟩
  | some i =>
    have hi := so_i_lt hq
    have s3 := bk_s hi
    obtain ⟨n1, n2, -⟩ := bk_ne hi
    refine ev_ifnonnullR (pc := 16) (tgt := 22) d_X_stat_16 (by decide) ?_
    refine ev_eq rfl (show _ = [some (.ref 0), some (.ref f), some (.ref (bk i))] from rfl) rfl rfl rfl rfl ?_
    refine ev_aload_n (pc := 22) d_X_stat_22 rfl rfl (by first | rfl | exact mm_rk_rf _) ?_
    refine ev_aload_n (pc := 23) d_X_stat_23 rfl rfl (by first | rfl | exact mm_rk_rf _) ?_
    refine ev_cVv (pc := 24) (ct_X_replyWithMode E C hi hk (by decide)) cl_X_213 jv_X_replyWithMode ⟨(Nat.le_of_ble_eq_true rfl), (Nat.le_of_ble_eq_true rfl)⟩ rfl sh_X rfl (Nat.le_of_ble_eq_true rfl) d_X_stat_24 ⟨Nat.zero_le _, Nat.zero_le _⟩ ?_
    refine ev_aload_n (pc := 27) d_X_stat_27 rfl rfl (by first | rfl | exact mm_rk_rf _) ?_
    refine ev_gR (pc := 28) sh_X (by rfl) fl_X_39 d_X_stat_28 ?_
    refine ev_aload_n (pc := 31) d_X_stat_31 rfl rfl (by first | rfl | exact mm_rk_rf _) ?_
    refine ev_gI (pc := 32) (by first | with_reducible assumption | assumption) (by rfl) fl_X_331 d_X_stat_32 ?_
    rw [rp_mne n1 n2]
    refine ev_cVv (pc := 35) (ct_rp E _ (rp_mk C (bk i) 0) (by decide) _) cl_X_65 jv_R_add ⟨(Nat.le_of_ble_eq_true rfl), (Nat.le_of_ble_eq_true rfl)⟩ rfl (by first | exact sh_said | exact sh_rep | with_reducible assumption | assumption) rfl (Nat.le_of_ble_eq_true rfl) d_X_stat_35 ⟨Nat.zero_le _, Nat.zero_le _⟩ ?_
    refine ev_aload_n (pc := 38) d_X_stat_38 rfl rfl (by first | rfl | exact mm_rk_rf _) ?_
    refine ev_gR (pc := 39) sh_X (by rfl) fl_X_39 d_X_stat_39 ?_
    refine ev_aload_n (pc := 42) d_X_stat_42 rfl rfl (by first | rfl | exact mm_rk_rf _) ?_
    refine ev_gI (pc := 43) (by first | with_reducible assumption | assumption) (by rfl) fl_X_366 d_X_stat_43 ?_
    rw [rp_ne n1 n2, rp_mne n1 n2]
    refine ev_cVv (pc := 46) (ct_rp E _ (rp_k _ _ _) (by decide) _) cl_X_65 jv_R_add ⟨(Nat.le_of_ble_eq_true rfl), (Nat.le_of_ble_eq_true rfl)⟩ rfl (by first | exact sh_said | exact sh_rep | with_reducible assumption | assumption) rfl (Nat.le_of_ble_eq_true rfl) d_X_stat_46 ⟨Nat.zero_le _, Nat.zero_le _⟩ ?_
    refine ev_aload_n (pc := 49) d_X_stat_49 rfl rfl (by first | rfl | exact mm_rk_rf _) ?_
    refine ev_gR (pc := 50) sh_X (by rfl) fl_X_39 d_X_stat_50 ?_
    refine ev_aload_n (pc := 53) d_X_stat_53 rfl rfl (by first | rfl | exact mm_rk_rf _) ?_
    refine ev_gI (pc := 54) (by first | with_reducible assumption | assumption) (by rfl) fl_X_369 d_X_stat_54 ?_
    rw [rp_ne n1 n2, rp_ne n1 n2, rp_mne n1 n2]
    refine ev_cVv (pc := 57) (ct_rp E _ (rp_k _ _ _) (by decide) _) cl_X_65 jv_R_add ⟨(Nat.le_of_ble_eq_true rfl), (Nat.le_of_ble_eq_true rfl)⟩ rfl (by first | exact sh_said | exact sh_rep | with_reducible assumption | assumption) rfl (Nat.le_of_ble_eq_true rfl) d_X_stat_57 ⟨Nat.zero_le _, Nat.zero_le _⟩ ?_
    refine ev_aload_n (pc := 60) d_X_stat_60 rfl rfl (by first | rfl | exact mm_rk_rf _) ?_
    refine ev_gR (pc := 61) sh_X (by rfl) fl_X_39 d_X_stat_61 ?_
    refine ev_aload_n (pc := 64) d_X_stat_64 rfl rfl (by first | rfl | exact mm_rk_rf _) ?_
    refine ev_gI (pc := 65) (by first | with_reducible assumption | assumption) (by rfl) fl_X_340 d_X_stat_65 ?_
    rw [rp_ne n1 n2, rp_ne n1 n2, rp_ne n1 n2, rp_mne n1 n2]
    refine ev_cVv (pc := 68) (ct_rp E _ (rp_k _ _ _) (by decide) _) cl_X_65 jv_R_add ⟨(Nat.le_of_ble_eq_true rfl), (Nat.le_of_ble_eq_true rfl)⟩ rfl (by first | exact sh_said | exact sh_rep | with_reducible assumption | assumption) rfl (Nat.le_of_ble_eq_true rfl) d_X_stat_68 ⟨Nat.zero_le _, Nat.zero_le _⟩ ?_
    refine ev_iconst (pc := 71) (v := 0) d_X_stat_71 rfl ?_
    exact ev_iret (pc := 72) d_X_stat_72 rfl (Nat.zero_le _) (Nat.zero_le _) ⟨by rw [xt_R, if_neg ha, hq], by rw [xt_R, if_neg ha, hq]; rfl⟩
theorem d_X_create_0 : decode b_X_create 0 = .ok (.aload_n 1, 1) := by decide +kernel
theorem d_X_create_1 : decode b_X_create 1 = .ok (.getfield 116, 3) := by decide +kernel
theorem d_X_create_4 : decode b_X_create 4 = .ok (.ifCond .ne 5, 3) := by decide +kernel
theorem d_X_create_7 : decode b_X_create 7 = .ok (.iconst (-1), 1) := by decide +kernel
theorem d_X_create_8 : decode b_X_create 8 = .ok (.ireturn, 1) := by decide +kernel
theorem d_X_create_9 : decode b_X_create 9 = .ok (.aload_n 1, 1) := by decide +kernel
theorem d_X_create_10 : decode b_X_create 10 = .ok (.getfield 121, 3) := by decide +kernel
theorem d_X_create_13 : decode b_X_create 13 = .ok (.ifCond .eq 6, 3) := by decide +kernel
theorem d_X_create_16 : decode b_X_create 16 = .ok (.bipush (-8), 2) := by decide +kernel
theorem d_X_create_18 : decode b_X_create 18 = .ok (.ireturn, 1) := by decide +kernel
theorem d_X_create_19 : decode b_X_create 19 = .ok (.aload_n 0, 1) := by decide +kernel
theorem d_X_create_20 : decode b_X_create 20 = .ok (.aload_n 1, 1) := by decide +kernel
theorem d_X_create_21 : decode b_X_create 21 = .ok (.invokevirtual 217, 3) := by decide +kernel
theorem d_X_create_24 : decode b_X_create 24 = .ok (.astore 5, 2) := by decide +kernel
theorem d_X_create_26 : decode b_X_create 26 = .ok (.aload 5, 2) := by decide +kernel
theorem d_X_create_28 : decode b_X_create 28 = .ok (.ifnonnull 6, 3) := by decide +kernel
theorem d_X_create_31 : decode b_X_create 31 = .ok (.bipush (-13), 2) := by decide +kernel
theorem d_X_create_33 : decode b_X_create 33 = .ok (.ireturn, 1) := by decide +kernel
theorem d_X_create_34 : decode b_X_create 34 = .ok (.aload_n 0, 1) := by decide +kernel
theorem d_X_create_35 : decode b_X_create 35 = .ok (.aload_n 1, 1) := by decide +kernel
theorem d_X_create_36 : decode b_X_create 36 = .ok (.aload 5, 2) := by decide +kernel
theorem d_X_create_38 : decode b_X_create 38 = .ok (.iload_n 2, 1) := by decide +kernel
theorem d_X_create_39 : decode b_X_create 39 = .ok (.iload_n 3, 1) := by decide +kernel
theorem d_X_create_40 : decode b_X_create 40 = .ok (.iload 4, 2) := by decide +kernel
theorem d_X_create_42 : decode b_X_create 42 = .ok (.invokevirtual 303, 3) := by decide +kernel
theorem d_X_create_45 : decode b_X_create 45 = .ok (.istore 6, 2) := by decide +kernel
theorem d_X_create_47 : decode b_X_create 47 = .ok (.iload 6, 2) := by decide +kernel
theorem d_X_create_49 : decode b_X_create 49 = .ok (.ifCond .eq 6, 3) := by decide +kernel
theorem d_X_create_52 : decode b_X_create 52 = .ok (.iload 6, 2) := by decide +kernel
theorem d_X_create_54 : decode b_X_create 54 = .ok (.ireturn, 1) := by decide +kernel
theorem d_X_create_55 : decode b_X_create 55 = .ok (.aload_n 0, 1) := by decide +kernel
theorem d_X_create_56 : decode b_X_create 56 = .ok (.getfield 12, 3) := by decide +kernel
theorem d_X_create_59 : decode b_X_create 59 = .ok (.aload 5, 2) := by decide +kernel
theorem d_X_create_61 : decode b_X_create 61 = .ok (.invokevirtual 307, 3) := by decide +kernel
theorem d_X_create_64 : decode b_X_create 64 = .ok (.ifCond .ne 6, 3) := by decide +kernel
theorem d_X_create_67 : decode b_X_create 67 = .ok (.bipush (-11), 2) := by decide +kernel
theorem d_X_create_69 : decode b_X_create 69 = .ok (.ireturn, 1) := by decide +kernel
theorem d_X_create_70 : decode b_X_create 70 = .ok (.aload_n 0, 1) := by decide +kernel
theorem d_X_create_71 : decode b_X_create 71 = .ok (.getfield 12, 3) := by decide +kernel
theorem d_X_create_74 : decode b_X_create 74 = .ok (.aload_n 0, 1) := by decide +kernel
theorem d_X_create_75 : decode b_X_create 75 = .ok (.getfield 12, 3) := by decide +kernel
theorem d_X_create_78 : decode b_X_create 78 = .ok (.aload 5, 2) := by decide +kernel
theorem d_X_create_80 : decode b_X_create 80 = .ok (.invokevirtual 265, 3) := by decide +kernel
theorem d_X_create_83 : decode b_X_create 83 = .ok (.iload_n 2, 1) := by decide +kernel
theorem d_X_create_84 : decode b_X_create 84 = .ok (.aload_n 1, 1) := by decide +kernel
theorem d_X_create_85 : decode b_X_create 85 = .ok (.getfield 237, 3) := by decide +kernel
theorem d_X_create_88 : decode b_X_create 88 = .ok (.iload_n 3, 1) := by decide +kernel
theorem d_X_create_89 : decode b_X_create 89 = .ok (.invokevirtual 311, 3) := by decide +kernel
theorem d_X_create_92 : decode b_X_create 92 = .ok (.astore 7, 2) := by decide +kernel
theorem d_X_create_94 : decode b_X_create 94 = .ok (.aload 7, 2) := by decide +kernel
theorem d_X_create_96 : decode b_X_create 96 = .ok (.ifnonnull 6, 3) := by decide +kernel
theorem d_X_create_99 : decode b_X_create 99 = .ok (.bipush (-11), 2) := by decide +kernel
theorem d_X_create_101 : decode b_X_create 101 = .ok (.ireturn, 1) := by decide +kernel
theorem d_X_create_102 : decode b_X_create 102 = .ok (.aload_n 1, 1) := by decide +kernel
theorem d_X_create_103 : decode b_X_create 103 = .ok (.aload_n 1, 1) := by decide +kernel
theorem d_X_create_104 : decode b_X_create 104 = .ok (.getfield 237, 3) := by decide +kernel
theorem d_X_create_107 : decode b_X_create 107 = .ok (.iconst 0, 1) := by decide +kernel
theorem d_X_create_108 : decode b_X_create 108 = .ok (.aload 7, 2) := by decide +kernel
theorem d_X_create_110 : decode b_X_create 110 = .ok (.getfield 244, 3) := by decide +kernel
theorem d_X_create_113 : decode b_X_create 113 = .ok (.invokevirtual 209, 3) := by decide +kernel
theorem d_X_create_116 : decode b_X_create 116 = .ok (.aload_n 1, 1) := by decide +kernel
theorem d_X_create_117 : decode b_X_create 117 = .ok (.iload 4, 2) := by decide +kernel
theorem d_X_create_119 : decode b_X_create 119 = .ok (.invokevirtual 275, 3) := by decide +kernel
theorem d_X_create_122 : decode b_X_create 122 = .ok (.aload_n 0, 1) := by decide +kernel
theorem d_X_create_123 : decode b_X_create 123 = .ok (.aload 7, 2) := by decide +kernel
theorem d_X_create_125 : decode b_X_create 125 = .ok (.invokevirtual 278, 3) := by decide +kernel
theorem d_X_create_128 : decode b_X_create 128 = .ok (.iconst 0, 1) := by decide +kernel
theorem d_X_create_129 : decode b_X_create 129 = .ok (.ireturn, 1) := by decide +kernel
def xe_C (C : Nat → Nat → Int32) (f i o : Nat) (x md om : Int32) : Nat → Nat → Int32 := rp_v (fi_open (fi_take (ad_C (cg_C C i) (ob_i C i) o x (C f 2) md) f (C f 2) 0 (ad_C (cg_C C i) (ob_i C i) o x (C f 2) md (bk o) 2)) f om) (bk o) 0
noncomputable def xe_R (C : Nat → Nat → Int32) (f t : Nat) (x md om : Int32) : Int32 × (Nat → Nat → Int32) := if C f 0 = 0 then (-1, C) else if ¬ C f 1 = 0 then (-8, C) else (match so_i C t (C f 4) with
  | none => (-13, C)
  | some i => if ¬ xh_cr C f i x md om = 0 then (xh_cr C f i x md om, C) else if so_nk C 0 (C (bk i) 2) < 8 ∧ ca_n C 20 (so_abi C 0 i) < 6 ∧ so_nn C < 20 ∧ so_nb C + (1 + hr_n C 20 (some i)) ≤ 64 then (match so_fr (cg_C C i) with
    | none => (-11, cg_C C i)
    | some o => (0, xe_C C f i o x md om)) else (-11, C))
theorem ad_out {C : Nat → Nat → Int32} {d o a j : Nat} {x u md : Int32} (hd : d < 64) (ho : o < 64) (h : 131 ≤ a) : ad_C C d o x u md a j = C a j := by
  have k1 : bk o = 3 + 2 * o := rfl
  have k2 : bk d = 3 + 2 * d := rfl
  unfold ad_C bl_ent bl_beg
  rw [cs_ne _ _ (by omega), cs_ne _ _ (by omega), cs_ne _ _ (by omega), cs_ne _ _ (by omega), cs_ne _ _ (by omega), cs_ne _ _ (by omega), cs_ne _ _ (by omega), cs_ne _ _ (by omega), cs_ne _ _ (by omega), cs_ne _ _ (by omega), cs_ne _ _ (by omega)]
set_option maxHeartbeats 2000000 in
set_option maxRecDepth 20000 in
theorem ct_X_create (E : mm_En) (C : Nat → Nat → Int32) {f t : Nat} (hf : fi_n f) (ht : t ≤ 4) (he : C f 3 = nI t) (hk : C 201 1 = nI 0) (x md om : Int32) : mm_MT E K_X_create [.ref 0, .ref f, .int x, .int md, .int om] (hp_H C) (mm_D (some (.int (xe_R C f t x md om).1)) (xe_R C f t x md om).2) := by
  obtain ⟨s1, f1, f2⟩ := hf
  refine mm_mtL (by decide) (by rfl) (Nat.le_of_ble_eq_true rfl) rfl ?_
  refine ev_aload_n (pc := 0) d_X_create_0 rfl rfl (by first | rfl | exact mm_rk_rf _) ?_
  refine ev_gI (pc := 1) (by first | with_reducible assumption | assumption) (by rfl) fl_X_116 d_X_create_1 ?_
  refine ev_if_ne (pc := 4) (tgt := 9) d_X_create_4 (by decide) (fun ha => ?_) (fun ha => ?_)
  rotate_left
  · refine ev_iconst (pc := 7) (v := -1) d_X_create_7 rfl ?_
    exact ev_iret (pc := 8) d_X_create_8 rfl (Nat.zero_le _) (Nat.zero_le _) ⟨by rw [xe_R, if_pos ha], by rw [xe_R, if_pos ha]⟩
  refine ev_aload_n (pc := 9) d_X_create_9 rfl rfl (by first | rfl | exact mm_rk_rf _) ?_
  refine ev_gI (pc := 10) (by first | with_reducible assumption | assumption) (by rfl) fl_X_121 d_X_create_10 ?_
  refine ev_if_eq (pc := 13) (tgt := 19) d_X_create_13 (by decide) (fun hb => ?_) (fun hb => ?_)
  rotate_left
  · refine ev_bipush (pc := 16) (v := -8) d_X_create_16 (by decide) ?_
    exact ev_iret (pc := 18) d_X_create_18 rfl (Nat.zero_le _) (Nat.zero_le _) ⟨by rw [xe_R, if_neg ha, if_pos hb], by rw [xe_R, if_neg ha, if_pos hb]⟩
  have hb' : ¬ ¬ C f 1 = 0 := fun z => z hb
  refine ev_aload_n (pc := 19) d_X_create_19 rfl rfl (by first | rfl | exact mm_rk_rf _) ?_
  refine ev_aload_n (pc := 20) d_X_create_20 rfl rfl (by first | rfl | exact mm_rk_rf _) ?_
  refine ev_cV (pc := 21) (ct_X_nodeOf E C s1 (by omega) he) cl_X_217 jv_X_nodeOf ⟨(Nat.le_of_ble_eq_true rfl), (Nat.le_of_ble_eq_true rfl)⟩ rfl sh_X rfl (Nat.le_of_ble_eq_true rfl) d_X_create_21 ⟨Nat.zero_le _, Nat.zero_le _⟩ ?_
  refine ev_astore (pc := 24) d_X_create_24 (by first | rfl | exact mm_rk_rf _) (Nat.le_of_ble_eq_true rfl) rfl ?_
  try dsimp only [List.set]
  refine ev_aload (pc := 26) d_X_create_26 rfl (by first | rfl | exact mm_rk_rf _) ?_
  cases hq : so_i C t (C f 4) with
  | none =>
    refine ev_ifnonnullN (pc := 28) d_X_create_28 ?_
    refine ev_bipush (pc := 31) (v := -13) d_X_create_31 (by decide) ?_
    exact ev_iret (pc := 33) d_X_create_33 rfl (Nat.zero_le _) (Nat.zero_le _) ⟨by rw [xe_R, if_neg ha, if_neg hb', hq], by rw [xe_R, if_neg ha, if_neg hb', hq]⟩
  | some i =>
    have hi := so_i_lt hq
    have hnz := so_i_nz (by omega) hq
    have s3 := bk_s hi
    have e1 : xe_R C f t x md om = (if ¬ xh_cr C f i x md om = 0 then (xh_cr C f i x md om, C) else if so_nk C 0 (C (bk i) 2) < 8 ∧ ca_n C 20 (so_abi C 0 i) < 6 ∧ so_nn C < 20 ∧ so_nb C + (1 + hr_n C 20 (some i)) ≤ 64 then (match so_fr (cg_C C i) with
      | none => (-11, cg_C C i)
      | some o => (0, xe_C C f i o x md om)) else (-11, C)) := by
      rw [xe_R, if_neg ha, if_neg hb', hq]
    rw [e1]
    refine ev_ifnonnullR (pc := 28) (tgt := 34) d_X_create_28 (by decide) ?_
    refine ev_eq rfl (show _ = [some (.ref 0), some (.ref f), some (.int x), some (.int md), some (.int om), some (.ref (bk i)), none, none] from rfl) rfl rfl rfl rfl ?_
    refine ev_aload_n (pc := 34) d_X_create_34 rfl rfl (by first | rfl | exact mm_rk_rf _) ?_
    refine ev_aload_n (pc := 35) d_X_create_35 rfl rfl (by first | rfl | exact mm_rk_rf _) ?_
    refine ev_aload (pc := 36) d_X_create_36 rfl (by first | rfl | exact mm_rk_rf _) ?_
    refine ev_iload_n (pc := 38) d_X_create_38 rfl rfl ?_
    refine ev_iload_n (pc := 39) d_X_create_39 rfl rfl ?_
    refine ev_iload (pc := 40) d_X_create_40 rfl ?_
    refine ev_cV (pc := 42) (ct_X_hindranceOfCreating E C s1 hi x md om) cl_X_303 jv_X_hindranceOfCreating ⟨(Nat.le_of_ble_eq_true rfl), (Nat.le_of_ble_eq_true rfl)⟩ rfl sh_X rfl (Nat.le_of_ble_eq_true rfl) d_X_create_42 ⟨Nat.zero_le _, Nat.zero_le _⟩ ?_
    refine ev_istore (pc := 45) d_X_create_45 (Nat.le_of_ble_eq_true rfl) rfl ?_
    try dsimp only [List.set]
    refine ev_iload (pc := 47) d_X_create_47 rfl ?_
    refine ev_if_eq (pc := 49) (tgt := 55) d_X_create_49 (by decide) (fun hc => ?_) (fun hc => ?_)
    rotate_left
    · refine ev_iload (pc := 52) d_X_create_52 rfl ?_
      exact ev_iret (pc := 54) d_X_create_54 rfl (Nat.zero_le _) (Nat.zero_le _) ⟨by rw [if_pos hc], by rw [if_pos hc]⟩
    have hc' : ¬ ¬ xh_cr C f i x md om = 0 := fun z => z hc
    rw [if_neg hc']
    refine ev_aload_n (pc := 55) d_X_create_55 rfl rfl (by first | rfl | exact mm_rk_rf _) ?_
    refine ev_gR (pc := 56) sh_X (by rfl) fl_X_12 d_X_create_56 ?_
    refine ev_aload (pc := 59) d_X_create_59 rfl (by first | rfl | exact mm_rk_rf _) ?_
    refine ev_cV (pc := 61) (ct_S_hasRoomIn E C hi) cl_X_307 jv_S_hasRoomIn ⟨(Nat.le_of_ble_eq_true rfl), (Nat.le_of_ble_eq_true rfl)⟩ rfl sh_S rfl (Nat.le_of_ble_eq_true rfl) d_X_create_61 ⟨Nat.zero_le _, Nat.zero_le _⟩ ?_
    refine ev_if_ne (pc := 64) (tgt := 70) d_X_create_64 (by decide) (fun hd => ?_) (fun hd => ?_)
    rotate_left
    · rw [b2_0] at hd
      refine ev_bipush (pc := 67) (v := -11) d_X_create_67 (by decide) ?_
      exact ev_iret (pc := 69) d_X_create_69 rfl (Nat.zero_le _) (Nat.zero_le _) ⟨by rw [if_neg hd], by rw [if_neg hd]⟩
    rw [b2_0, Classical.not_not] at hd
    rw [if_pos hd]
    clear hd
    have ho := ob_i_lt (C := C) hi
    have s5 := bk_s ho
    refine ev_aload_n (pc := 70) d_X_create_70 rfl rfl (by first | rfl | exact mm_rk_rf _) ?_
    refine ev_gR (pc := 71) sh_X (by rfl) fl_X_12 d_X_create_71 ?_
    refine ev_aload_n (pc := 74) d_X_create_74 rfl rfl (by first | rfl | exact mm_rk_rf _) ?_
    refine ev_gR (pc := 75) sh_X (by rfl) fl_X_12 d_X_create_75 ?_
    refine ev_aload (pc := 78) d_X_create_78 rfl (by first | rfl | exact mm_rk_rf _) ?_
    refine ev_cV (pc := 80) (ct_S_change E C hi) cl_X_265 jv_S_change ⟨(Nat.le_of_ble_eq_true rfl), (Nat.le_of_ble_eq_true rfl)⟩ rfl sh_S rfl (Nat.le_of_ble_eq_true rfl) d_X_create_80 ⟨Nat.zero_le _, Nat.zero_le _⟩ ?_
    refine ev_iload_n (pc := 83) d_X_create_83 rfl rfl ?_
    refine ev_aload_n (pc := 84) d_X_create_84 rfl rfl (by first | rfl | exact mm_rk_rf _) ?_
    refine ev_gI (pc := 85) (by first | with_reducible assumption | assumption) (by rfl) fl_X_237 d_X_create_85 ?_
    rw [cg_out hi (by omega)]
    refine ev_iload_n (pc := 88) d_X_create_88 rfl rfl ?_
    cases hg : so_fr (cg_C C i) with
    | none =>
      refine ev_cV (pc := 89) (ct_S_addN E (cg_C C i) hg _ _ _) cl_X_311 jv_S_add ⟨(Nat.le_of_ble_eq_true rfl), (Nat.le_of_ble_eq_true rfl)⟩ rfl sh_S rfl (Nat.le_of_ble_eq_true rfl) d_X_create_89 ⟨Nat.zero_le _, Nat.zero_le _⟩ ?_
      refine ev_astore (pc := 92) d_X_create_92 (by first | rfl | exact mm_rk_rf _) (Nat.le_of_ble_eq_true rfl) rfl ?_
      try dsimp only [List.set]
      refine ev_aload (pc := 94) d_X_create_94 rfl (by first | rfl | exact mm_rk_rf _) ?_
      refine ev_ifnonnullN (pc := 96) d_X_create_96 ?_
      refine ev_bipush (pc := 99) (v := -11) d_X_create_99 (by decide) ?_
      exact ev_iret (pc := 101) d_X_create_101 rfl (Nat.zero_le _) (Nat.zero_le _) ⟨rfl, rfl⟩
    | some o =>
      obtain ⟨hol, -⟩ := so_fr_ok hg
      have s6 := bk_s hol
      refine ev_cV (pc := 89) (ct_S_add E (cg_C C i) ho (nz_cg hi hnz) hg _ _ _) cl_X_311 jv_S_add ⟨(Nat.le_of_ble_eq_true rfl), (Nat.le_of_ble_eq_true rfl)⟩ rfl sh_S rfl (Nat.le_of_ble_eq_true rfl) d_X_create_89 ⟨Nat.zero_le _, Nat.zero_le _⟩ ?_
      refine ev_astore (pc := 92) d_X_create_92 (by first | rfl | exact mm_rk_rf _) (Nat.le_of_ble_eq_true rfl) rfl ?_
      try dsimp only [List.set]
      refine ev_aload (pc := 94) d_X_create_94 rfl (by first | rfl | exact mm_rk_rf _) ?_
      refine ev_ifnonnullR (pc := 96) (tgt := 102) d_X_create_96 (by decide) ?_
      refine ev_aload_n (pc := 102) d_X_create_102 rfl rfl (by first | rfl | exact mm_rk_rf _) ?_
      refine ev_aload_n (pc := 103) d_X_create_103 rfl rfl (by first | rfl | exact mm_rk_rf _) ?_
      refine ev_gI (pc := 104) (by first | with_reducible assumption | assumption) (by rfl) fl_X_237 d_X_create_104 ?_
      rw [ad_out ho hol (by omega), cg_out hi (by omega)]
      refine ev_iconst (pc := 107) (v := 0) d_X_create_107 rfl ?_
      refine ev_aload (pc := 108) d_X_create_108 rfl (by first | rfl | exact mm_rk_rf _) ?_
      refine ev_gI (pc := 110) (by first | with_reducible assumption | assumption) (by rfl) fl_X_244 d_X_create_110 ?_
      refine ev_cVv (pc := 113) (ct_F_take E _ s1 _ 0 _) cl_X_209 jv_F_take ⟨(Nat.le_of_ble_eq_true rfl), (Nat.le_of_ble_eq_true rfl)⟩ rfl (by first | with_reducible assumption | assumption) rfl (Nat.le_of_ble_eq_true rfl) d_X_create_113 ⟨Nat.zero_le _, Nat.zero_le _⟩ ?_
      refine ev_aload_n (pc := 116) d_X_create_116 rfl rfl (by first | rfl | exact mm_rk_rf _) ?_
      refine ev_iload (pc := 117) d_X_create_117 rfl ?_
      refine ev_cVv (pc := 119) (ct_F_openAs E _ s1 om) cl_X_275 jv_F_openAs ⟨(Nat.le_of_ble_eq_true rfl), (Nat.le_of_ble_eq_true rfl)⟩ rfl (by first | with_reducible assumption | assumption) rfl (Nat.le_of_ble_eq_true rfl) d_X_create_119 ⟨Nat.zero_le _, Nat.zero_le _⟩ ?_
      refine ev_aload_n (pc := 122) d_X_create_122 rfl rfl (by first | rfl | exact mm_rk_rf _) ?_
      refine ev_aload (pc := 123) d_X_create_123 rfl (by first | rfl | exact mm_rk_rf _) ?_
      refine ev_cVv (pc := 125) (ct_X_replyWithVersion E _ hol (k := 0) (by rw [fp_ne (by omega), ft_ne (by omega), ad_out ho hol (by omega), cg_out hi (by omega)]; exact hk) (by decide)) cl_X_278 jv_X_replyWithVersion ⟨(Nat.le_of_ble_eq_true rfl), (Nat.le_of_ble_eq_true rfl)⟩ rfl sh_X rfl (Nat.le_of_ble_eq_true rfl) d_X_create_125 ⟨Nat.zero_le _, Nat.zero_le _⟩ ?_
      refine ev_iconst (pc := 128) (v := 0) d_X_create_128 rfl ?_
      exact ev_iret (pc := 129) d_X_create_129 rfl (Nat.zero_le _) (Nat.zero_le _) ⟨rfl, rfl⟩
