/-! The reference: copying, syncs, snapshots, crashes; requests. -/
/-- of the node k those fields that the node f has, up to the bytes below n -/
def cp_n (C : Nat → Nat → Int32) (f k n : Nat) : Nat → Nat → Int32 := fun a j => if 207 ≤ a ∧ a ≤ 215 ∧ j = k then C a f else if a = 216 ∧ 16 * k ≤ j ∧ j < 16 * k + n then C 216 (j - 16 * k + 16 * f) else C a j
theorem d_N_copy_0 : decode b_N_copy 0 = .ok (.aload_n 0, 1) := by decide +kernel
theorem d_N_copy_1 : decode b_N_copy 1 = .ok (.getfield 17, 3) := by decide +kernel
theorem d_N_copy_4 : decode b_N_copy 4 = .ok (.iload_n 2, 1) := by decide +kernel
theorem d_N_copy_5 : decode b_N_copy 5 = .ok (.aload_n 0, 1) := by decide +kernel
theorem d_N_copy_6 : decode b_N_copy 6 = .ok (.getfield 17, 3) := by decide +kernel
theorem d_N_copy_9 : decode b_N_copy 9 = .ok (.iload_n 1, 1) := by decide +kernel
theorem d_N_copy_10 : decode b_N_copy 10 = .ok (.iaload, 1) := by decide +kernel
theorem d_N_copy_11 : decode b_N_copy 11 = .ok (.iastore, 1) := by decide +kernel
theorem d_N_copy_12 : decode b_N_copy 12 = .ok (.aload_n 0, 1) := by decide +kernel
theorem d_N_copy_13 : decode b_N_copy 13 = .ok (.getfield 20, 3) := by decide +kernel
theorem d_N_copy_16 : decode b_N_copy 16 = .ok (.iload_n 2, 1) := by decide +kernel
theorem d_N_copy_17 : decode b_N_copy 17 = .ok (.aload_n 0, 1) := by decide +kernel
theorem d_N_copy_18 : decode b_N_copy 18 = .ok (.getfield 20, 3) := by decide +kernel
theorem d_N_copy_21 : decode b_N_copy 21 = .ok (.iload_n 1, 1) := by decide +kernel
theorem d_N_copy_22 : decode b_N_copy 22 = .ok (.iaload, 1) := by decide +kernel
theorem d_N_copy_23 : decode b_N_copy 23 = .ok (.iastore, 1) := by decide +kernel
theorem d_N_copy_24 : decode b_N_copy 24 = .ok (.aload_n 0, 1) := by decide +kernel
theorem d_N_copy_25 : decode b_N_copy 25 = .ok (.getfield 23, 3) := by decide +kernel
theorem d_N_copy_28 : decode b_N_copy 28 = .ok (.iload_n 2, 1) := by decide +kernel
theorem d_N_copy_29 : decode b_N_copy 29 = .ok (.aload_n 0, 1) := by decide +kernel
theorem d_N_copy_30 : decode b_N_copy 30 = .ok (.getfield 23, 3) := by decide +kernel
theorem d_N_copy_33 : decode b_N_copy 33 = .ok (.iload_n 1, 1) := by decide +kernel
theorem d_N_copy_34 : decode b_N_copy 34 = .ok (.iaload, 1) := by decide +kernel
theorem d_N_copy_35 : decode b_N_copy 35 = .ok (.iastore, 1) := by decide +kernel
theorem d_N_copy_36 : decode b_N_copy 36 = .ok (.aload_n 0, 1) := by decide +kernel
theorem d_N_copy_37 : decode b_N_copy 37 = .ok (.getfield 26, 3) := by decide +kernel
theorem d_N_copy_40 : decode b_N_copy 40 = .ok (.iload_n 2, 1) := by decide +kernel
theorem d_N_copy_41 : decode b_N_copy 41 = .ok (.aload_n 0, 1) := by decide +kernel
theorem d_N_copy_42 : decode b_N_copy 42 = .ok (.getfield 26, 3) := by decide +kernel
theorem d_N_copy_45 : decode b_N_copy 45 = .ok (.iload_n 1, 1) := by decide +kernel
theorem d_N_copy_46 : decode b_N_copy 46 = .ok (.iaload, 1) := by decide +kernel
theorem d_N_copy_47 : decode b_N_copy 47 = .ok (.iastore, 1) := by decide +kernel
theorem d_N_copy_48 : decode b_N_copy 48 = .ok (.aload_n 0, 1) := by decide +kernel
theorem d_N_copy_49 : decode b_N_copy 49 = .ok (.getfield 29, 3) := by decide +kernel
theorem d_N_copy_52 : decode b_N_copy 52 = .ok (.iload_n 2, 1) := by decide +kernel
theorem d_N_copy_53 : decode b_N_copy 53 = .ok (.aload_n 0, 1) := by decide +kernel
theorem d_N_copy_54 : decode b_N_copy 54 = .ok (.getfield 29, 3) := by decide +kernel
theorem d_N_copy_57 : decode b_N_copy 57 = .ok (.iload_n 1, 1) := by decide +kernel
theorem d_N_copy_58 : decode b_N_copy 58 = .ok (.iaload, 1) := by decide +kernel
theorem d_N_copy_59 : decode b_N_copy 59 = .ok (.iastore, 1) := by decide +kernel
theorem d_N_copy_60 : decode b_N_copy 60 = .ok (.aload_n 0, 1) := by decide +kernel
theorem d_N_copy_61 : decode b_N_copy 61 = .ok (.getfield 32, 3) := by decide +kernel
theorem d_N_copy_64 : decode b_N_copy 64 = .ok (.iload_n 2, 1) := by decide +kernel
theorem d_N_copy_65 : decode b_N_copy 65 = .ok (.aload_n 0, 1) := by decide +kernel
theorem d_N_copy_66 : decode b_N_copy 66 = .ok (.getfield 32, 3) := by decide +kernel
theorem d_N_copy_69 : decode b_N_copy 69 = .ok (.iload_n 1, 1) := by decide +kernel
theorem d_N_copy_70 : decode b_N_copy 70 = .ok (.iaload, 1) := by decide +kernel
theorem d_N_copy_71 : decode b_N_copy 71 = .ok (.iastore, 1) := by decide +kernel
theorem d_N_copy_72 : decode b_N_copy 72 = .ok (.aload_n 0, 1) := by decide +kernel
theorem d_N_copy_73 : decode b_N_copy 73 = .ok (.getfield 35, 3) := by decide +kernel
theorem d_N_copy_76 : decode b_N_copy 76 = .ok (.iload_n 2, 1) := by decide +kernel
theorem d_N_copy_77 : decode b_N_copy 77 = .ok (.aload_n 0, 1) := by decide +kernel
theorem d_N_copy_78 : decode b_N_copy 78 = .ok (.getfield 35, 3) := by decide +kernel
theorem d_N_copy_81 : decode b_N_copy 81 = .ok (.iload_n 1, 1) := by decide +kernel
theorem d_N_copy_82 : decode b_N_copy 82 = .ok (.iaload, 1) := by decide +kernel
theorem d_N_copy_83 : decode b_N_copy 83 = .ok (.iastore, 1) := by decide +kernel
theorem d_N_copy_84 : decode b_N_copy 84 = .ok (.aload_n 0, 1) := by decide +kernel
theorem d_N_copy_85 : decode b_N_copy 85 = .ok (.getfield 38, 3) := by decide +kernel
theorem d_N_copy_88 : decode b_N_copy 88 = .ok (.iload_n 2, 1) := by decide +kernel
theorem d_N_copy_89 : decode b_N_copy 89 = .ok (.aload_n 0, 1) := by decide +kernel
theorem d_N_copy_90 : decode b_N_copy 90 = .ok (.getfield 38, 3) := by decide +kernel
theorem d_N_copy_93 : decode b_N_copy 93 = .ok (.iload_n 1, 1) := by decide +kernel
theorem d_N_copy_94 : decode b_N_copy 94 = .ok (.iaload, 1) := by decide +kernel
theorem d_N_copy_95 : decode b_N_copy 95 = .ok (.iastore, 1) := by decide +kernel
theorem d_N_copy_96 : decode b_N_copy 96 = .ok (.aload_n 0, 1) := by decide +kernel
theorem d_N_copy_97 : decode b_N_copy 97 = .ok (.getfield 41, 3) := by decide +kernel
theorem d_N_copy_100 : decode b_N_copy 100 = .ok (.iload_n 2, 1) := by decide +kernel
theorem d_N_copy_101 : decode b_N_copy 101 = .ok (.aload_n 0, 1) := by decide +kernel
theorem d_N_copy_102 : decode b_N_copy 102 = .ok (.getfield 41, 3) := by decide +kernel
theorem d_N_copy_105 : decode b_N_copy 105 = .ok (.iload_n 1, 1) := by decide +kernel
theorem d_N_copy_106 : decode b_N_copy 106 = .ok (.iaload, 1) := by decide +kernel
theorem d_N_copy_107 : decode b_N_copy 107 = .ok (.iastore, 1) := by decide +kernel
theorem d_N_copy_108 : decode b_N_copy 108 = .ok (.iconst 0, 1) := by decide +kernel
theorem d_N_copy_109 : decode b_N_copy 109 = .ok (.istore_n 3, 1) := by decide +kernel
theorem d_N_copy_110 : decode b_N_copy 110 = .ok (.iload_n 3, 1) := by decide +kernel
theorem d_N_copy_111 : decode b_N_copy 111 = .ok (.bipush 16, 2) := by decide +kernel
theorem d_N_copy_113 : decode b_N_copy 113 = .ok (.if_icmp .ge 31, 3) := by decide +kernel
theorem d_N_copy_116 : decode b_N_copy 116 = .ok (.aload_n 0, 1) := by decide +kernel
theorem d_N_copy_117 : decode b_N_copy 117 = .ok (.getfield 44, 3) := by decide +kernel
theorem d_N_copy_120 : decode b_N_copy 120 = .ok (.bipush 16, 2) := by decide +kernel
theorem d_N_copy_122 : decode b_N_copy 122 = .ok (.iload_n 2, 1) := by decide +kernel
theorem d_N_copy_123 : decode b_N_copy 123 = .ok (.imul, 1) := by decide +kernel
theorem d_N_copy_124 : decode b_N_copy 124 = .ok (.iload_n 3, 1) := by decide +kernel
theorem d_N_copy_125 : decode b_N_copy 125 = .ok (.iadd, 1) := by decide +kernel
theorem d_N_copy_126 : decode b_N_copy 126 = .ok (.aload_n 0, 1) := by decide +kernel
theorem d_N_copy_127 : decode b_N_copy 127 = .ok (.getfield 44, 3) := by decide +kernel
theorem d_N_copy_130 : decode b_N_copy 130 = .ok (.bipush 16, 2) := by decide +kernel
theorem d_N_copy_132 : decode b_N_copy 132 = .ok (.iload_n 1, 1) := by decide +kernel
theorem d_N_copy_133 : decode b_N_copy 133 = .ok (.imul, 1) := by decide +kernel
theorem d_N_copy_134 : decode b_N_copy 134 = .ok (.iload_n 3, 1) := by decide +kernel
theorem d_N_copy_135 : decode b_N_copy 135 = .ok (.iadd, 1) := by decide +kernel
theorem d_N_copy_136 : decode b_N_copy 136 = .ok (.iaload, 1) := by decide +kernel
theorem d_N_copy_137 : decode b_N_copy 137 = .ok (.iastore, 1) := by decide +kernel
theorem d_N_copy_138 : decode b_N_copy 138 = .ok (.iinc 3 1, 3) := by decide +kernel
theorem d_N_copy_141 : decode b_N_copy 141 = .ok (.goto (-31), 3) := by decide +kernel
theorem d_N_copy_144 : decode b_N_copy 144 = .ok (.return_, 1) := by decide +kernel
set_option maxHeartbeats 4000000 in
set_option maxRecDepth 20000 in
theorem ct_N_copy (E : mm_En) (C : Nat → Nat → Int32) {f k : Nat} (hf : f < 120) (hk : k < 120) (hne : f ≠ k) : mm_MT E K_N_copy [.ref 204, .int (nI f), .int (nI k)] (hp_H C) (mm_D none (cp_n C f k 16)) := by
  have loop : ∀ d i : Nat, i + d = 16 → ev_At E K_N_copy 110 [some (.ref 204), some (.int (nI f)), some (.int (nI k)), some (.int (nI i))] [] (hp_H (cp_n C f k i)) 0 0 (mm_D none (cp_n C f k 16)) := by
    intro d
    induction d with
    | zero =>
      intro i hi
      have hi16 : i = 16 := by omega
      subst hi16
      refine ev_iload_n (pc := 110) d_N_copy_110 rfl rfl ?_
      refine ev_bipush (pc := 111) (v := 16) d_N_copy_111 (by decide) ?_
      refine ev_icmp_ge (pc := 113) (tgt := 144) d_N_copy_113 (by decide) (fun hc => ?_) (fun hc => ?_)
      · exact ev_vret (pc := 144) d_N_copy_144 rfl (Nat.zero_le _) (Nat.zero_le _) ⟨rfl, rfl⟩
      · exact absurd (Int32.le_refl _) hc
    | succ d ih =>
      intro i hi
      refine ev_iload_n (pc := 110) d_N_copy_110 rfl rfl ?_
      refine ev_bipush (pc := 111) (v := 16) d_N_copy_111 (by decide) ?_
      refine ev_icmp_ge (pc := 113) (tgt := 144) d_N_copy_113 (by decide) (fun hc => ?_) (fun hc => ?_)
      · exact absurd hc (nI_ge (b := 16) (by omega) (by decide))
      refine ev_aload_n (pc := 116) d_N_copy_116 rfl rfl (by first | rfl | exact mm_rk_rf _) ?_
      refine ev_gR (pc := 117) sh_N (by rfl) fl_N_44 d_N_copy_117 ?_
      refine ev_bipush (pc := 120) (v := nI 16) d_N_copy_120 (by decide) ?_
      refine ev_iload_n (pc := 122) d_N_copy_122 rfl rfl ?_
      first | refine ev_imulN (pc := 123) d_N_copy_123 ?_ | refine ev_imul (pc := 123) d_N_copy_123 ?_
      refine ev_iload_n (pc := 124) d_N_copy_124 rfl rfl ?_
      first | refine ev_iaddN (pc := 125) d_N_copy_125 ?_ | refine ev_iadd (pc := 125) d_N_copy_125 ?_
      refine ev_aload_n (pc := 126) d_N_copy_126 rfl rfl (by first | rfl | exact mm_rk_rf _) ?_
      refine ev_gR (pc := 127) sh_N (by rfl) fl_N_44 d_N_copy_127 ?_
      refine ev_bipush (pc := 130) (v := nI 16) d_N_copy_130 (by decide) ?_
      refine ev_iload_n (pc := 132) d_N_copy_132 rfl rfl ?_
      first | refine ev_imulN (pc := 133) d_N_copy_133 ?_ | refine ev_imul (pc := 133) d_N_copy_133 ?_
      refine ev_iload_n (pc := 134) d_N_copy_134 rfl rfl ?_
      first | refine ev_iaddN (pc := 135) d_N_copy_135 ?_ | refine ev_iadd (pc := 135) d_N_copy_135 ?_
      refine ev_rIN (pc := 136) sh_N_bytes (by omega) (by decide) d_N_copy_136 ?_
      refine ev_wIN (pc := 137) sh_N_bytes (by omega) (by decide) d_N_copy_137 ?_
      have e : cs_C (cp_n C f k i) 216 (16 * k + i) (cp_n C f k i 216 (16 * f + i)) = cp_n C f k (i + 1) := by
        have e1 : cp_n C f k i 216 (16 * f + i) = C 216 (16 * f + i) := by
          simp only [cp_n]
          rw [if_neg (by omega), if_neg (by omega)]
        rw [e1]
        funext a j
        rw [cs_app]
        simp only [cp_n]
        by_cases ha : a = 216
        · subst ha
          rw [if_neg (show ¬ (207 ≤ 216 ∧ 216 ≤ 215 ∧ j = k) by omega), if_neg (show ¬ (207 ≤ 216 ∧ 216 ≤ 215 ∧ j = k) by omega)]
          by_cases hj : j = 16 * k + i
          · subst hj
            rw [if_pos ⟨rfl, rfl⟩, if_pos (by omega)]
            congr 1
            omega
          · rw [if_neg (fun z => hj z.2)]
            by_cases hj2 : 16 * k ≤ j ∧ j < 16 * k + i
            · rw [if_pos ⟨rfl, hj2⟩, if_pos (by omega)]
            · rw [if_neg (fun z => hj2 z.2), if_neg (by omega)]
        · rw [if_neg (fun z => ha z.1), if_neg (show ¬ (a = 216 ∧ 16 * k ≤ j ∧ j < 16 * k + i) from fun z => ha z.1), if_neg (show ¬ (a = 216 ∧ 16 * k ≤ j ∧ j < 16 * k + (i + 1)) from fun z => ha z.1)]
      rw [e]
      refine ev_iinc (pc := 138) d_N_copy_138 (Nat.le_of_ble_eq_true rfl) rfl (nx_inc _) rfl ?_
      try dsimp only [List.set]
      refine ev_goto (pc := 141) (tgt := 110) d_N_copy_141 (by decide) ?_
      exact ih (i + 1) (by omega)
  refine mm_mtL (by decide) (by rfl) (Nat.le_of_ble_eq_true rfl) rfl ?_
  refine ev_aload_n (pc := 0) d_N_copy_0 rfl rfl (by first | rfl | exact mm_rk_rf _) ?_
  refine ev_gR (pc := 1) sh_N (by rfl) fl_N_17 d_N_copy_1 ?_
  refine ev_iload_n (pc := 4) d_N_copy_4 rfl rfl ?_
  refine ev_aload_n (pc := 5) d_N_copy_5 rfl rfl (by first | rfl | exact mm_rk_rf _) ?_
  refine ev_gR (pc := 6) sh_N (by rfl) fl_N_17 d_N_copy_6 ?_
  refine ev_iload_n (pc := 9) d_N_copy_9 rfl rfl ?_
  refine ev_rIN (pc := 10) sh_N_path (by omega) (by decide) d_N_copy_10 ?_
  refine ev_wIN (pc := 11) sh_N_path (by omega) (by decide) d_N_copy_11 ?_
  refine ev_aload_n (pc := 12) d_N_copy_12 rfl rfl (by first | rfl | exact mm_rk_rf _) ?_
  refine ev_gR (pc := 13) sh_N (by rfl) fl_N_20 d_N_copy_13 ?_
  refine ev_iload_n (pc := 16) d_N_copy_16 rfl rfl ?_
  refine ev_aload_n (pc := 17) d_N_copy_17 rfl rfl (by first | rfl | exact mm_rk_rf _) ?_
  refine ev_gR (pc := 18) sh_N (by rfl) fl_N_20 d_N_copy_18 ?_
  refine ev_iload_n (pc := 21) d_N_copy_21 rfl rfl ?_
  refine ev_rIN (pc := 22) sh_N_above (by omega) (by decide) d_N_copy_22 ?_
  refine ev_wIN (pc := 23) sh_N_above (by omega) (by decide) d_N_copy_23 ?_
  refine ev_aload_n (pc := 24) d_N_copy_24 rfl rfl (by first | rfl | exact mm_rk_rf _) ?_
  refine ev_gR (pc := 25) sh_N (by rfl) fl_N_23 d_N_copy_25 ?_
  refine ev_iload_n (pc := 28) d_N_copy_28 rfl rfl ?_
  refine ev_aload_n (pc := 29) d_N_copy_29 rfl rfl (by first | rfl | exact mm_rk_rf _) ?_
  refine ev_gR (pc := 30) sh_N (by rfl) fl_N_23 d_N_copy_30 ?_
  refine ev_iload_n (pc := 33) d_N_copy_33 rfl rfl ?_
  refine ev_rIN (pc := 34) sh_N_title (by omega) (by decide) d_N_copy_34 ?_
  refine ev_wIN (pc := 35) sh_N_title (by omega) (by decide) d_N_copy_35 ?_
  refine ev_aload_n (pc := 36) d_N_copy_36 rfl rfl (by first | rfl | exact mm_rk_rf _) ?_
  refine ev_gR (pc := 37) sh_N (by rfl) fl_N_26 d_N_copy_37 ?_
  refine ev_iload_n (pc := 40) d_N_copy_40 rfl rfl ?_
  refine ev_aload_n (pc := 41) d_N_copy_41 rfl rfl (by first | rfl | exact mm_rk_rf _) ?_
  refine ev_gR (pc := 42) sh_N (by rfl) fl_N_26 d_N_copy_42 ?_
  refine ev_iload_n (pc := 45) d_N_copy_45 rfl rfl ?_
  refine ev_rIN (pc := 46) sh_N_owner (by omega) (by decide) d_N_copy_46 ?_
  refine ev_wIN (pc := 47) sh_N_owner (by omega) (by decide) d_N_copy_47 ?_
  refine ev_aload_n (pc := 48) d_N_copy_48 rfl rfl (by first | rfl | exact mm_rk_rf _) ?_
  refine ev_gR (pc := 49) sh_N (by rfl) fl_N_29 d_N_copy_49 ?_
  refine ev_iload_n (pc := 52) d_N_copy_52 rfl rfl ?_
  refine ev_aload_n (pc := 53) d_N_copy_53 rfl rfl (by first | rfl | exact mm_rk_rf _) ?_
  refine ev_gR (pc := 54) sh_N (by rfl) fl_N_29 d_N_copy_54 ?_
  refine ev_iload_n (pc := 57) d_N_copy_57 rfl rfl ?_
  refine ev_rIN (pc := 58) sh_N_group (by omega) (by decide) d_N_copy_58 ?_
  refine ev_wIN (pc := 59) sh_N_group (by omega) (by decide) d_N_copy_59 ?_
  refine ev_aload_n (pc := 60) d_N_copy_60 rfl rfl (by first | rfl | exact mm_rk_rf _) ?_
  refine ev_gR (pc := 61) sh_N (by rfl) fl_N_32 d_N_copy_61 ?_
  refine ev_iload_n (pc := 64) d_N_copy_64 rfl rfl ?_
  refine ev_aload_n (pc := 65) d_N_copy_65 rfl rfl (by first | rfl | exact mm_rk_rf _) ?_
  refine ev_gR (pc := 66) sh_N (by rfl) fl_N_32 d_N_copy_66 ?_
  refine ev_iload_n (pc := 69) d_N_copy_69 rfl rfl ?_
  refine ev_rIN (pc := 70) sh_N_version (by omega) (by decide) d_N_copy_70 ?_
  refine ev_wIN (pc := 71) sh_N_version (by omega) (by decide) d_N_copy_71 ?_
  refine ev_aload_n (pc := 72) d_N_copy_72 rfl rfl (by first | rfl | exact mm_rk_rf _) ?_
  refine ev_gR (pc := 73) sh_N (by rfl) fl_N_35 d_N_copy_73 ?_
  refine ev_iload_n (pc := 76) d_N_copy_76 rfl rfl ?_
  refine ev_aload_n (pc := 77) d_N_copy_77 rfl rfl (by first | rfl | exact mm_rk_rf _) ?_
  refine ev_gR (pc := 78) sh_N (by rfl) fl_N_35 d_N_copy_78 ?_
  refine ev_iload_n (pc := 81) d_N_copy_81 rfl rfl ?_
  refine ev_rIN (pc := 82) sh_N_mode (by omega) (by decide) d_N_copy_82 ?_
  refine ev_wIN (pc := 83) sh_N_mode (by omega) (by decide) d_N_copy_83 ?_
  refine ev_aload_n (pc := 84) d_N_copy_84 rfl rfl (by first | rfl | exact mm_rk_rf _) ?_
  refine ev_gR (pc := 85) sh_N (by rfl) fl_N_38 d_N_copy_85 ?_
  refine ev_iload_n (pc := 88) d_N_copy_88 rfl rfl ?_
  refine ev_aload_n (pc := 89) d_N_copy_89 rfl rfl (by first | rfl | exact mm_rk_rf _) ?_
  refine ev_gR (pc := 90) sh_N (by rfl) fl_N_38 d_N_copy_90 ?_
  refine ev_iload_n (pc := 93) d_N_copy_93 rfl rfl ?_
  refine ev_rIN (pc := 94) sh_N_length (by omega) (by decide) d_N_copy_94 ?_
  refine ev_wIN (pc := 95) sh_N_length (by omega) (by decide) d_N_copy_95 ?_
  refine ev_aload_n (pc := 96) d_N_copy_96 rfl rfl (by first | rfl | exact mm_rk_rf _) ?_
  refine ev_gR (pc := 97) sh_N (by rfl) fl_N_41 d_N_copy_97 ?_
  refine ev_iload_n (pc := 100) d_N_copy_100 rfl rfl ?_
  refine ev_aload_n (pc := 101) d_N_copy_101 rfl rfl (by first | rfl | exact mm_rk_rf _) ?_
  refine ev_gR (pc := 102) sh_N (by rfl) fl_N_41 d_N_copy_102 ?_
  refine ev_iload_n (pc := 105) d_N_copy_105 rfl rfl ?_
  refine ev_rIN (pc := 106) sh_N_block (by omega) (by decide) d_N_copy_106 ?_
  refine ev_wIN (pc := 107) sh_N_block (by omega) (by decide) d_N_copy_107 ?_
  refine ev_eq rfl rfl rfl (congrArg hp_H (?_ : _ = cp_n C f k 0)) rfl rfl ?_
  · clear loop
    funext a j
    simp only [cs_app, cp_n]
    grind (splits := 40)
  refine ev_iconst (pc := 108) (v := 0) d_N_copy_108 rfl ?_
  refine ev_istore_n (pc := 109) d_N_copy_109 rfl (Nat.le_of_ble_eq_true rfl) rfl ?_
  try dsimp only [List.set]
  exact loop 16 0 rfl
/-- tree t's first n nodes are tree f's -/
def ct_n (C : Nat → Nat → Int32) (f t n : Nat) : Nat → Nat → Int32 := fun a j => if 207 ≤ a ∧ a ≤ 215 ∧ 20 * t ≤ j ∧ j < 20 * t + n then C a (j - 20 * t + 20 * f) else if a = 216 ∧ 320 * t ≤ j ∧ j < 320 * t + 16 * n then C 216 (j - 320 * t + 320 * f) else C a j
theorem ct_n0 (C : Nat → Nat → Int32) (f t : Nat) : ct_n C f t 0 = C := by
  funext a j
  simp only [ct_n]
  rw [if_neg (by omega), if_neg (by omega)]
theorem ct_ns (C : Nat → Nat → Int32) {f t n : Nat} (hne : f ≠ t) (hn : n < 20) : cp_n (ct_n C f t n) (20 * f + n) (20 * t + n) 16 = ct_n C f t (n + 1) := by
  have r1 : ∀ a, 207 ≤ a → a ≤ 215 → ct_n C f t n a (20 * f + n) = C a (20 * f + n) := by
    intro a h1 h2
    simp only [ct_n]
    rw [if_neg (by omega), if_neg (by omega)]
  have r2 : ∀ j, 16 * (20 * f + n) ≤ j → j < 16 * (20 * f + n) + 16 → ct_n C f t n 216 j = C 216 j := by
    intro j h1 h2
    simp only [ct_n]
    rw [if_neg (by omega), if_neg (by omega)]
  funext a j
  rw [cp_n]
  by_cases h1 : 207 ≤ a ∧ a ≤ 215
  · by_cases h2 : j = 20 * t + n
    · rw [if_pos ⟨h1.1, h1.2, h2⟩, r1 a h1.1 h1.2]
      simp only [ct_n]
      rw [if_pos (by omega)]
      congr 1
      omega
    · rw [if_neg (fun z => h2 z.2.2), if_neg (by omega)]
      simp only [ct_n]
      by_cases h3 : 20 * t ≤ j ∧ j < 20 * t + n
      · rw [if_pos (by omega), if_pos (by omega)]
      · rw [if_neg (by omega), if_neg (by omega), if_neg (by omega), if_neg (by omega)]
  · rw [if_neg (by omega)]
    by_cases h2 : a = 216 ∧ 16 * (20 * t + n) ≤ j ∧ j < 16 * (20 * t + n) + 16
    · rw [if_pos h2, r2 _ (by omega) (by omega)]
      simp only [ct_n]
      rw [if_neg (by omega), if_pos (by omega)]
      congr 1
      omega
    · rw [if_neg h2]
      simp only [ct_n]
      by_cases h3 : a = 216 ∧ 320 * t ≤ j ∧ j < 320 * t + 16 * n
      · rw [if_neg (by omega), if_pos h3, if_neg (by omega), if_pos (by omega)]
      · rw [if_neg (by omega), if_neg h3, if_neg (by omega), if_neg (by omega)]
theorem ct_n6 (C : Nat → Nat → Int32) (f t n : Nat) : ct_n C f t n 206 = C 206 := by
  funext j
  simp only [ct_n]
  rw [if_neg (by omega), if_neg (by omega)]
def ct_C (C : Nat → Nat → Int32) (f t : Nat) : Nat → Nat → Int32 := ct_n (cs_C C 206 t (C 206 f)) f t (nm C f)
theorem d_N_copyTree_0 : decode b_N_copyTree 0 = .ok (.aload_n 0, 1) := by decide +kernel
theorem d_N_copyTree_1 : decode b_N_copyTree 1 = .ok (.getfield 13, 3) := by decide +kernel
theorem d_N_copyTree_4 : decode b_N_copyTree 4 = .ok (.iload_n 2, 1) := by decide +kernel
theorem d_N_copyTree_5 : decode b_N_copyTree 5 = .ok (.aload_n 0, 1) := by decide +kernel
theorem d_N_copyTree_6 : decode b_N_copyTree 6 = .ok (.getfield 13, 3) := by decide +kernel
theorem d_N_copyTree_9 : decode b_N_copyTree 9 = .ok (.iload_n 1, 1) := by decide +kernel
theorem d_N_copyTree_10 : decode b_N_copyTree 10 = .ok (.iaload, 1) := by decide +kernel
theorem d_N_copyTree_11 : decode b_N_copyTree 11 = .ok (.iastore, 1) := by decide +kernel
theorem d_N_copyTree_12 : decode b_N_copyTree 12 = .ok (.iconst 0, 1) := by decide +kernel
theorem d_N_copyTree_13 : decode b_N_copyTree 13 = .ok (.istore_n 3, 1) := by decide +kernel
theorem d_N_copyTree_14 : decode b_N_copyTree 14 = .ok (.iload_n 3, 1) := by decide +kernel
theorem d_N_copyTree_15 : decode b_N_copyTree 15 = .ok (.aload_n 0, 1) := by decide +kernel
theorem d_N_copyTree_16 : decode b_N_copyTree 16 = .ok (.getfield 13, 3) := by decide +kernel
theorem d_N_copyTree_19 : decode b_N_copyTree 19 = .ok (.iload_n 1, 1) := by decide +kernel
theorem d_N_copyTree_20 : decode b_N_copyTree 20 = .ok (.iaload, 1) := by decide +kernel
theorem d_N_copyTree_21 : decode b_N_copyTree 21 = .ok (.if_icmp .ge 25, 3) := by decide +kernel
theorem d_N_copyTree_24 : decode b_N_copyTree 24 = .ok (.aload_n 0, 1) := by decide +kernel
theorem d_N_copyTree_25 : decode b_N_copyTree 25 = .ok (.bipush 20, 2) := by decide +kernel
theorem d_N_copyTree_27 : decode b_N_copyTree 27 = .ok (.iload_n 1, 1) := by decide +kernel
theorem d_N_copyTree_28 : decode b_N_copyTree 28 = .ok (.imul, 1) := by decide +kernel
theorem d_N_copyTree_29 : decode b_N_copyTree 29 = .ok (.iload_n 3, 1) := by decide +kernel
theorem d_N_copyTree_30 : decode b_N_copyTree 30 = .ok (.iadd, 1) := by decide +kernel
theorem d_N_copyTree_31 : decode b_N_copyTree 31 = .ok (.bipush 20, 2) := by decide +kernel
theorem d_N_copyTree_33 : decode b_N_copyTree 33 = .ok (.iload_n 2, 1) := by decide +kernel
theorem d_N_copyTree_34 : decode b_N_copyTree 34 = .ok (.imul, 1) := by decide +kernel
theorem d_N_copyTree_35 : decode b_N_copyTree 35 = .ok (.iload_n 3, 1) := by decide +kernel
theorem d_N_copyTree_36 : decode b_N_copyTree 36 = .ok (.iadd, 1) := by decide +kernel
theorem d_N_copyTree_37 : decode b_N_copyTree 37 = .ok (.invokevirtual 215, 3) := by decide +kernel
theorem d_N_copyTree_40 : decode b_N_copyTree 40 = .ok (.iinc 3 1, 3) := by decide +kernel
theorem d_N_copyTree_43 : decode b_N_copyTree 43 = .ok (.goto (-29), 3) := by decide +kernel
theorem d_N_copyTree_46 : decode b_N_copyTree 46 = .ok (.return_, 1) := by decide +kernel
set_option maxRecDepth 20000 in
theorem ct_N_copyTree (E : mm_En) (C : Nat → Nat → Int32) (hm : nm_ok C) {f t : Nat} (hf : f < 6) (ht : t < 6) (hne : f ≠ t) : mm_MT E K_N_copyTree [.ref 204, .int (nI f), .int (nI t)] (hp_H C) (mm_D none (ct_C C f t)) := by
  obtain ⟨m20, em⟩ := hm f hf
  have e6 : ∀ n, ct_n (cs_C C 206 t (C 206 f)) f t n 206 f = nI (nm C f) := by
    intro n
    rw [ct_n6, cs_ne _ _ (by omega)]
    exact em
  have loop : ∀ d i : Nat, i + d = nm C f → ev_At E K_N_copyTree 14 [some (.ref 204), some (.int (nI f)), some (.int (nI t)), some (.int (nI i))] [] (hp_H (ct_n (cs_C C 206 t (C 206 f)) f t i)) 0 0 (mm_D none (ct_C C f t)) := by
    intro d
    induction d with
    | zero =>
      intro i hi
      have hi16 : i = nm C f := by omega
      refine ev_iload_n (pc := 14) d_N_copyTree_14 rfl rfl ?_
      refine ev_aload_n (pc := 15) d_N_copyTree_15 rfl rfl (by first | rfl | exact mm_rk_rf _) ?_
      refine ev_gR (pc := 16) sh_N (by rfl) fl_N_13 d_N_copyTree_16 ?_
      refine ev_iload_n (pc := 19) d_N_copyTree_19 rfl rfl ?_
      refine ev_rIN (pc := 20) sh_N_many (by omega) (by decide) d_N_copyTree_20 ?_
      rw [e6, ← hi16]
      refine ev_icmp_ge (pc := 21) (tgt := 46) d_N_copyTree_21 (by decide) (fun hc => ?_) (fun hc => ?_)
      · rw [ct_C, ← hi16]
        exact ev_vret (pc := 46) d_N_copyTree_46 rfl (Nat.zero_le _) (Nat.zero_le _) ⟨rfl, rfl⟩
      · exact absurd (Int32.le_refl _) hc
    | succ d ih =>
      intro i hi
      refine ev_iload_n (pc := 14) d_N_copyTree_14 rfl rfl ?_
      refine ev_aload_n (pc := 15) d_N_copyTree_15 rfl rfl (by first | rfl | exact mm_rk_rf _) ?_
      refine ev_gR (pc := 16) sh_N (by rfl) fl_N_13 d_N_copyTree_16 ?_
      refine ev_iload_n (pc := 19) d_N_copyTree_19 rfl rfl ?_
      refine ev_rIN (pc := 20) sh_N_many (by omega) (by decide) d_N_copyTree_20 ?_
      rw [e6]
      refine ev_icmp_ge (pc := 21) (tgt := 46) d_N_copyTree_21 (by decide) (fun hc => ?_) (fun hc => ?_)
      · exact absurd hc (nI_ge (by omega) (by omega))
      refine ev_aload_n (pc := 24) d_N_copyTree_24 rfl rfl (by first | rfl | exact mm_rk_rf _) ?_
      refine ev_bipush (pc := 25) (v := nI 20) d_N_copyTree_25 (by decide) ?_
      refine ev_iload_n (pc := 27) d_N_copyTree_27 rfl rfl ?_
      first | refine ev_imulN (pc := 28) d_N_copyTree_28 ?_ | refine ev_imul (pc := 28) d_N_copyTree_28 ?_
      refine ev_iload_n (pc := 29) d_N_copyTree_29 rfl rfl ?_
      first | refine ev_iaddN (pc := 30) d_N_copyTree_30 ?_ | refine ev_iadd (pc := 30) d_N_copyTree_30 ?_
      refine ev_bipush (pc := 31) (v := nI 20) d_N_copyTree_31 (by decide) ?_
      refine ev_iload_n (pc := 33) d_N_copyTree_33 rfl rfl ?_
      first | refine ev_imulN (pc := 34) d_N_copyTree_34 ?_ | refine ev_imul (pc := 34) d_N_copyTree_34 ?_
      refine ev_iload_n (pc := 35) d_N_copyTree_35 rfl rfl ?_
      first | refine ev_iaddN (pc := 36) d_N_copyTree_36 ?_ | refine ev_iadd (pc := 36) d_N_copyTree_36 ?_
      refine ev_cVv (pc := 37) (ct_N_copy E _ (f := 20 * f + i) (k := 20 * t + i) (by omega) (by omega) (by omega)) cl_N_215 jv_N_copy ⟨(Nat.le_of_ble_eq_true rfl), (Nat.le_of_ble_eq_true rfl)⟩ rfl sh_N rfl (Nat.le_of_ble_eq_true rfl) d_N_copyTree_37 ⟨Nat.zero_le _, Nat.zero_le _⟩ ?_
      rw [ct_ns _ hne (by omega)]
      refine ev_iinc (pc := 40) d_N_copyTree_40 (Nat.le_of_ble_eq_true rfl) rfl (nx_inc _) rfl ?_
      try dsimp only [List.set]
      refine ev_goto (pc := 43) (tgt := 14) d_N_copyTree_43 (by decide) ?_
      exact ih (i + 1) (by omega)
  refine mm_mtL (by decide) (by rfl) (Nat.le_of_ble_eq_true rfl) rfl ?_
  refine ev_aload_n (pc := 0) d_N_copyTree_0 rfl rfl (by first | rfl | exact mm_rk_rf _) ?_
  refine ev_gR (pc := 1) sh_N (by rfl) fl_N_13 d_N_copyTree_1 ?_
  refine ev_iload_n (pc := 4) d_N_copyTree_4 rfl rfl ?_
  refine ev_aload_n (pc := 5) d_N_copyTree_5 rfl rfl (by first | rfl | exact mm_rk_rf _) ?_
  refine ev_gR (pc := 6) sh_N (by rfl) fl_N_13 d_N_copyTree_6 ?_
  refine ev_iload_n (pc := 9) d_N_copyTree_9 rfl rfl ?_
  refine ev_rIN (pc := 10) sh_N_many (by omega) (by decide) d_N_copyTree_10 ?_
  refine ev_wIN (pc := 11) sh_N_many (by omega) (by decide) d_N_copyTree_11 ?_
  refine ev_iconst (pc := 12) (v := 0) d_N_copyTree_12 rfl ?_
  refine ev_istore_n (pc := 13) d_N_copyTree_13 rfl (Nat.le_of_ble_eq_true rfl) rfl ?_
  try dsimp only [List.set]
  have h2 := loop (nm C f) 0 (by omega)
  rw [ct_n0] at h2
  exact h2
theorem ct_C6 (C : Nat → Nat → Int32) (f t : Nat) : ct_C C f t 206 = (cs_C C 206 t (C 206 f)) 206 := ct_n6 _ _ _ _
theorem ct_C_nm {C : Nat → Nat → Int32} (hm : nm_ok C) {f t : Nat} (hf : f < 6) (ht : t < 6) : nm_ok (ct_C C f t) := by
  intro u hu
  simp only [nm, ct_C6]
  by_cases h : u = t
  · subst h
    rw [cs_at]
    exact hm f hf
  · rw [cs_ne _ _ (by omega)]
    exact hm u hu
theorem ct_C4 (C : Nat → Nat → Int32) (f t : Nat) : ct_C C f t 204 = C 204 := by
  funext j
  simp only [ct_C, ct_n]
  rw [if_neg (by omega), if_neg (by omega), cs_ne _ _ (by omega)]
def nr_C (C : Nat → Nat → Int32) : Nat → Nat → Int32 := nf_C (ct_C C 1 0)
theorem d_N_crash_0 : decode b_N_crash 0 = .ok (.aload_n 0, 1) := by decide +kernel
theorem d_N_crash_1 : decode b_N_crash 1 = .ok (.iconst 1, 1) := by decide +kernel
theorem d_N_crash_2 : decode b_N_crash 2 = .ok (.iconst 0, 1) := by decide +kernel
theorem d_N_crash_3 : decode b_N_crash 3 = .ok (.invokevirtual 225, 3) := by decide +kernel
theorem d_N_crash_6 : decode b_N_crash 6 = .ok (.aload_n 0, 1) := by decide +kernel
theorem d_N_crash_7 : decode b_N_crash 7 = .ok (.invokevirtual 90, 3) := by decide +kernel
theorem d_N_crash_10 : decode b_N_crash 10 = .ok (.return_, 1) := by decide +kernel
theorem ct_N_crash (E : mm_En) (C : Nat → Nat → Int32) (hm : nm_ok C) : mm_MT E K_N_crash [.ref 204] (hp_H C) (mm_D none (nr_C C)) := by
  refine mm_mtL (by decide) (by rfl) (Nat.le_of_ble_eq_true rfl) rfl ?_
  refine ev_aload_n (pc := 0) d_N_crash_0 rfl rfl (by first | rfl | exact mm_rk_rf _) ?_
  refine ev_iconst (pc := 1) (v := nI 1) d_N_crash_1 rfl ?_
  refine ev_iconst (pc := 2) (v := nI 0) d_N_crash_2 rfl ?_
  refine ev_cVv (pc := 3) (ct_N_copyTree E C hm (by decide) (by decide) (by decide)) cl_N_225 jv_N_copyTree ⟨(Nat.le_of_ble_eq_true rfl), (Nat.le_of_ble_eq_true rfl)⟩ rfl sh_N rfl (Nat.le_of_ble_eq_true rfl) d_N_crash_3 ⟨Nat.zero_le _, Nat.zero_le _⟩ ?_
  refine ev_aload_n (pc := 6) d_N_crash_6 rfl rfl (by first | rfl | exact mm_rk_rf _) ?_
  refine ev_cVv (pc := 7) (ct_N_free E _) cl_N_90 jv_N_free ⟨(Nat.le_of_ble_eq_true rfl), (Nat.le_of_ble_eq_true rfl)⟩ rfl sh_N rfl (Nat.le_of_ble_eq_true rfl) d_N_crash_7 ⟨Nat.zero_le _, Nat.zero_le _⟩ ?_
  exact ev_vret (pc := 10) d_N_crash_10 rfl (Nat.zero_le _) (Nat.zero_le _) ⟨rfl, rfl⟩
noncomputable def nu_n (C : Nat → Nat → Int32) (s : Nat) : Nat := fx_c (fun k => b4 (¬ no_P C s (C 215 k))) (nm C 0) 0
noncomputable def nS_r (C : Nat → Nat → Int32) (s : Nat) (x : Int32) : Int32 := if x < 0 ∨ nI (nu_n C s + 1) < x then nI (nu_n C s + 1) else x
noncomputable def nS_C (C : Nat → Nat → Int32) (s : Nat) (x : Int32) : Nat → Nat → Int32 := if x < 0 ∨ nI (nu_n C s + 1) < x then ct_C C 0 1 else if x = nI (nu_n C s + 1) then nr_C (ct_C C 0 1) else nr_C C
theorem d_N_sync_0 : decode b_N_sync 0 = .ok (.iconst 1, 1) := by decide +kernel
theorem d_N_sync_1 : decode b_N_sync 1 = .ok (.istore_n 2, 1) := by decide +kernel
theorem d_N_sync_2 : decode b_N_sync 2 = .ok (.iconst 0, 1) := by decide +kernel
theorem d_N_sync_3 : decode b_N_sync 3 = .ok (.istore_n 3, 1) := by decide +kernel
theorem d_N_sync_4 : decode b_N_sync 4 = .ok (.iload_n 3, 1) := by decide +kernel
theorem d_N_sync_5 : decode b_N_sync 5 = .ok (.aload_n 0, 1) := by decide +kernel
theorem d_N_sync_6 : decode b_N_sync 6 = .ok (.getfield 13, 3) := by decide +kernel
theorem d_N_sync_9 : decode b_N_sync 9 = .ok (.iconst 0, 1) := by decide +kernel
theorem d_N_sync_10 : decode b_N_sync 10 = .ok (.iaload, 1) := by decide +kernel
theorem d_N_sync_11 : decode b_N_sync 11 = .ok (.if_icmp .ge 30, 3) := by decide +kernel
theorem d_N_sync_14 : decode b_N_sync 14 = .ok (.iload_n 2, 1) := by decide +kernel
theorem d_N_sync_15 : decode b_N_sync 15 = .ok (.aload_n 0, 1) := by decide +kernel
theorem d_N_sync_16 : decode b_N_sync 16 = .ok (.aload_n 0, 1) := by decide +kernel
theorem d_N_sync_17 : decode b_N_sync 17 = .ok (.getfield 41, 3) := by decide +kernel
theorem d_N_sync_20 : decode b_N_sync 20 = .ok (.iload_n 3, 1) := by decide +kernel
theorem d_N_sync_21 : decode b_N_sync 21 = .ok (.iaload, 1) := by decide +kernel
theorem d_N_sync_22 : decode b_N_sync 22 = .ok (.invokevirtual 160, 3) := by decide +kernel
theorem d_N_sync_25 : decode b_N_sync 25 = .ok (.ifCond .eq 7, 3) := by decide +kernel
theorem d_N_sync_28 : decode b_N_sync 28 = .ok (.iconst 0, 1) := by decide +kernel
theorem d_N_sync_29 : decode b_N_sync 29 = .ok (.goto 4, 3) := by decide +kernel
theorem d_N_sync_32 : decode b_N_sync 32 = .ok (.iconst 1, 1) := by decide +kernel
theorem d_N_sync_33 : decode b_N_sync 33 = .ok (.iadd, 1) := by decide +kernel
theorem d_N_sync_34 : decode b_N_sync 34 = .ok (.istore_n 2, 1) := by decide +kernel
theorem d_N_sync_35 : decode b_N_sync 35 = .ok (.iinc 3 1, 3) := by decide +kernel
theorem d_N_sync_38 : decode b_N_sync 38 = .ok (.goto (-34), 3) := by decide +kernel
theorem d_N_sync_41 : decode b_N_sync 41 = .ok (.iload_n 1, 1) := by decide +kernel
theorem d_N_sync_42 : decode b_N_sync 42 = .ok (.ifCond .lt 12, 3) := by decide +kernel
theorem d_N_sync_45 : decode b_N_sync 45 = .ok (.iload_n 1, 1) := by decide +kernel
theorem d_N_sync_46 : decode b_N_sync 46 = .ok (.iload_n 2, 1) := by decide +kernel
theorem d_N_sync_47 : decode b_N_sync 47 = .ok (.if_icmp .ge 7, 3) := by decide +kernel
theorem d_N_sync_50 : decode b_N_sync 50 = .ok (.iconst 1, 1) := by decide +kernel
theorem d_N_sync_51 : decode b_N_sync 51 = .ok (.goto 4, 3) := by decide +kernel
theorem d_N_sync_54 : decode b_N_sync 54 = .ok (.iconst 0, 1) := by decide +kernel
theorem d_N_sync_55 : decode b_N_sync 55 = .ok (.istore_n 3, 1) := by decide +kernel
theorem d_N_sync_56 : decode b_N_sync 56 = .ok (.iload_n 3, 1) := by decide +kernel
theorem d_N_sync_57 : decode b_N_sync 57 = .ok (.ifCond .ne 9, 3) := by decide +kernel
theorem d_N_sync_60 : decode b_N_sync 60 = .ok (.aload_n 0, 1) := by decide +kernel
theorem d_N_sync_61 : decode b_N_sync 61 = .ok (.iconst 0, 1) := by decide +kernel
theorem d_N_sync_62 : decode b_N_sync 62 = .ok (.iconst 1, 1) := by decide +kernel
theorem d_N_sync_63 : decode b_N_sync 63 = .ok (.invokevirtual 225, 3) := by decide +kernel
theorem d_N_sync_66 : decode b_N_sync 66 = .ok (.iload_n 1, 1) := by decide +kernel
theorem d_N_sync_67 : decode b_N_sync 67 = .ok (.ifCond .lt 12, 3) := by decide +kernel
theorem d_N_sync_70 : decode b_N_sync 70 = .ok (.iload_n 1, 1) := by decide +kernel
theorem d_N_sync_71 : decode b_N_sync 71 = .ok (.iload_n 2, 1) := by decide +kernel
theorem d_N_sync_72 : decode b_N_sync 72 = .ok (.if_icmp .gt 7, 3) := by decide +kernel
theorem d_N_sync_75 : decode b_N_sync 75 = .ok (.aload_n 0, 1) := by decide +kernel
theorem d_N_sync_76 : decode b_N_sync 76 = .ok (.invokevirtual 228, 3) := by decide +kernel
theorem d_N_sync_79 : decode b_N_sync 79 = .ok (.iload_n 3, 1) := by decide +kernel
theorem d_N_sync_80 : decode b_N_sync 80 = .ok (.ifCond .eq 7, 3) := by decide +kernel
theorem d_N_sync_83 : decode b_N_sync 83 = .ok (.iload_n 1, 1) := by decide +kernel
theorem d_N_sync_84 : decode b_N_sync 84 = .ok (.goto 4, 3) := by decide +kernel
theorem d_N_sync_87 : decode b_N_sync 87 = .ok (.iload_n 2, 1) := by decide +kernel
theorem d_N_sync_88 : decode b_N_sync 88 = .ok (.ireturn, 1) := by decide +kernel
set_option maxRecDepth 20000 in
theorem ct_N_sync (E : mm_En) (C : Nat → Nat → Int32) (hm : nm_ok C) {s : Nat} (es : C 204 14 = nI s) (s4 : s ≤ 4) (x : Int32) : mm_MT E K_N_sync [.ref 204, .int x] (hp_H C) (mm_D (some (.int (nS_r C s x))) (nS_C C s x)) := by
  obtain ⟨m20, em⟩ := hm 0 (by decide)
  have hfin : ∀ w : Int32, w = nI (nu_n C s + 1) → ev_At E K_N_sync 41 [some (.ref 204), some (.int x), some (.int w), some (.int (nI (nm C 0)))] [] (hp_H C) 0 0 (mm_D (some (.int (nS_r C s x))) (nS_C C s x)) := by
    intro w hw
    have last : ∀ D : Nat → Nat → Int32, nm_ok D → ∀ sh : Int32, ((¬ sh = 0) ↔ (¬ x < 0 ∧ x < w)) → (nS_C C s x = if ¬ x < 0 ∧ ¬ w < x then nr_C D else D) → ev_At E K_N_sync 66 [some (.ref 204), some (.int x), some (.int w), some (.int sh)] [] (hp_H D) 0 0 (mm_D (some (.int (nS_r C s x))) (nS_C C s x)) := by
      intro D hD sh hsh hC
      have last2 : ev_At E K_N_sync 79 [some (.ref 204), some (.int x), some (.int w), some (.int sh)] [] (hp_H (nS_C C s x)) 0 0 (mm_D (some (.int (nS_r C s x))) (nS_C C s x)) := by
        refine ev_iload_n (pc := 79) d_N_sync_79 rfl rfl ?_
        refine ev_if_eq (pc := 80) (tgt := 87) d_N_sync_80 (by decide) (fun ha => ?_) (fun ha => ?_)
        · have hn : ¬ (¬ x < 0 ∧ x < w) := fun z => hsh.mpr z ha
          refine ev_iload_n (pc := 87) d_N_sync_87 rfl rfl ?_
          refine ev_iret (pc := 88) d_N_sync_88 rfl (Nat.zero_le _) (Nat.zero_le _) ⟨?_, rfl⟩
          rw [nS_r, ← hw]
          by_cases h1 : x < 0 ∨ w < x
          · rw [if_pos h1]
          · rw [if_neg h1]
            have h2 : ¬ x < 0 := fun z => h1 (Or.inl z)
            have h3 : ¬ x < w := fun z => hn ⟨h2, z⟩
            have h4 : ¬ w < x := fun z => h1 (Or.inr z)
            rw [Int32.le_antisymm (Int32.not_lt.mp h3) (Int32.not_lt.mp h4)]
        · have hn := hsh.mp ha
          refine ev_iload_n (pc := 83) d_N_sync_83 rfl rfl ?_
          refine ev_goto (pc := 84) (tgt := 88) d_N_sync_84 (by decide) ?_
          refine ev_iret (pc := 88) d_N_sync_88 rfl (Nat.zero_le _) (Nat.zero_le _) ⟨?_, rfl⟩
          rw [nS_r, ← hw, if_neg (fun z => z.elim hn.1 (fun y => Int32.lt_irrefl (Int32.lt_trans hn.2 y)))]
      refine ev_iload_n (pc := 66) d_N_sync_66 rfl rfl ?_
      refine ev_if_lt (pc := 67) (tgt := 79) d_N_sync_67 (by decide) (fun ha => ?_) (fun ha => ?_)
      · rw [if_neg (fun z => z.1 ha)] at hC
        rw [hC] at last2 ⊢
        exact last2
      refine ev_iload_n (pc := 70) d_N_sync_70 rfl rfl ?_
      refine ev_iload_n (pc := 71) d_N_sync_71 rfl rfl ?_
      refine ev_icmp_gt (pc := 72) (tgt := 79) d_N_sync_72 (by decide) (fun hb => ?_) (fun hb => ?_)
      · rw [if_neg (fun z => z.2 hb)] at hC
        rw [hC] at last2 ⊢
        exact last2
      refine ev_aload_n (pc := 75) d_N_sync_75 rfl rfl (by first | rfl | exact mm_rk_rf _) ?_
      refine ev_cVv (pc := 76) (ct_N_crash E D hD) cl_N_228 jv_N_crash ⟨(Nat.le_of_ble_eq_true rfl), (Nat.le_of_ble_eq_true rfl)⟩ rfl sh_N rfl (Nat.le_of_ble_eq_true rfl) d_N_sync_76 ⟨Nat.zero_le _, Nat.zero_le _⟩ ?_
      rw [if_pos ⟨ha, hb⟩] at hC
      rw [hC] at last2 ⊢
      exact last2
    have full : (x < 0 ∨ ¬ x < w) → ev_At E K_N_sync 54 [some (.ref 204), some (.int x), some (.int w), some (.int (nI (nm C 0)))] [] (hp_H C) 0 0 (mm_D (some (.int (nS_r C s x))) (nS_C C s x)) := by
      intro hx
      refine ev_iconst (pc := 54) (v := 0) d_N_sync_54 rfl ?_
      refine ev_istore_n (pc := 55) d_N_sync_55 rfl (Nat.le_of_ble_eq_true rfl) rfl ?_
      try dsimp only [List.set]
      refine ev_iload_n (pc := 56) d_N_sync_56 rfl rfl ?_
      refine ev_if_ne (pc := 57) (tgt := 66) d_N_sync_57 (by decide) (fun hd => ?_) (fun hd => ?_)
      · exact absurd rfl hd
      refine ev_aload_n (pc := 60) d_N_sync_60 rfl rfl (by first | rfl | exact mm_rk_rf _) ?_
      refine ev_iconst (pc := 61) (v := nI 0) d_N_sync_61 rfl ?_
      refine ev_iconst (pc := 62) (v := nI 1) d_N_sync_62 rfl ?_
      refine ev_cVv (pc := 63) (ct_N_copyTree E C hm (by decide) (by decide) (by decide)) cl_N_225 jv_N_copyTree ⟨(Nat.le_of_ble_eq_true rfl), (Nat.le_of_ble_eq_true rfl)⟩ rfl sh_N rfl (Nat.le_of_ble_eq_true rfl) d_N_sync_63 ⟨Nat.zero_le _, Nat.zero_le _⟩ ?_
      refine last _ (ct_C_nm hm (by decide) (by decide)) 0 ⟨fun z => absurd rfl z, fun z => hx.elim (fun y => absurd y z.1) (fun y => absurd z.2 y)⟩ ?_
      rw [nS_C, ← hw]
      by_cases h1 : x < 0 ∨ w < x
      · rw [if_pos h1, if_neg (fun z => h1.elim z.1 z.2)]
      · have h2 : ¬ x < 0 := fun z => h1 (Or.inl z)
        have h4 : ¬ w < x := fun z => h1 (Or.inr z)
        have h3 : ¬ x < w := hx.elim (fun y => absurd y h2) id
        rw [if_neg h1, if_pos (Int32.le_antisymm (Int32.not_lt.mp h4) (Int32.not_lt.mp h3)), if_pos ⟨h2, h4⟩]
    refine ev_iload_n (pc := 41) d_N_sync_41 rfl rfl ?_
    refine ev_if_lt (pc := 42) (tgt := 54) d_N_sync_42 (by decide) (fun ha => ?_) (fun ha => ?_)
    · exact full (Or.inl ha)
    refine ev_iload_n (pc := 45) d_N_sync_45 rfl rfl ?_
    refine ev_iload_n (pc := 46) d_N_sync_46 rfl rfl ?_
    refine ev_icmp_ge (pc := 47) (tgt := 54) d_N_sync_47 (by decide) (fun hb => ?_) (fun hb => ?_)
    · exact full (Or.inr (Int32.not_lt.mpr hb))
    have hb' : x < w := Int32.not_le.mp hb
    refine ev_iconst (pc := 50) (v := 1) d_N_sync_50 rfl ?_
    refine ev_goto (pc := 51) (tgt := 55) d_N_sync_51 (by decide) ?_
    refine ev_istore_n (pc := 55) d_N_sync_55 rfl (Nat.le_of_ble_eq_true rfl) rfl ?_
    try dsimp only [List.set]
    refine ev_iload_n (pc := 56) d_N_sync_56 rfl rfl ?_
    refine ev_if_ne (pc := 57) (tgt := 66) d_N_sync_57 (by decide) (fun hd => ?_) (fun hd => ?_)
    rotate_left
    · exact absurd hd (by decide)
    have h4 : ¬ w < x := fun z => Int32.lt_irrefl (Int32.lt_trans hb' z)
    refine last C hm 1 ⟨fun _ => ⟨ha, hb'⟩, fun _ => by decide⟩ ?_
    rw [nS_C, ← hw, if_neg (fun z => z.elim ha h4), if_neg (fun z => by rw [z] at hb'; exact Int32.lt_irrefl hb'), if_pos ⟨ha, h4⟩]
  have loop : ∀ d i n : Nat, i + d = nm C 0 → n + fx_c (fun k => b4 (¬ no_P C s (C 215 k))) d i = nu_n C s + 1 → ev_At E K_N_sync 4 [some (.ref 204), some (.int x), some (.int (nI n)), some (.int (nI i))] [] (hp_H C) 0 0 (mm_D (some (.int (nS_r C s x))) (nS_C C s x)) := by
    intro d
    induction d with
    | zero =>
      intro i n hi hn
      have hi16 : i = nm C 0 := by omega
      subst hi16
      refine ev_iload_n (pc := 4) d_N_sync_4 rfl rfl ?_
      refine ev_aload_n (pc := 5) d_N_sync_5 rfl rfl (by first | rfl | exact mm_rk_rf _) ?_
      refine ev_gR (pc := 6) sh_N (by rfl) fl_N_13 d_N_sync_6 ?_
      refine ev_iconst (pc := 9) (v := nI 0) d_N_sync_9 rfl ?_
      refine ev_rIN (pc := 10) sh_N_many (by omega) (by decide) d_N_sync_10 ?_
      rw [em]
      refine ev_icmp_ge (pc := 11) (tgt := 41) d_N_sync_11 (by decide) (fun ha => ?_) (fun ha => ?_)
      · exact hfin (nI n) (congrArg nI hn)
      · exact absurd (Int32.le_refl _) ha
    | succ d ih =>
      intro i n hi hn
      refine ev_iload_n (pc := 4) d_N_sync_4 rfl rfl ?_
      refine ev_aload_n (pc := 5) d_N_sync_5 rfl rfl (by first | rfl | exact mm_rk_rf _) ?_
      refine ev_gR (pc := 6) sh_N (by rfl) fl_N_13 d_N_sync_6 ?_
      refine ev_iconst (pc := 9) (v := nI 0) d_N_sync_9 rfl ?_
      refine ev_rIN (pc := 10) sh_N_many (by omega) (by decide) d_N_sync_10 ?_
      rw [em]
      refine ev_icmp_ge (pc := 11) (tgt := 41) d_N_sync_11 (by decide) (fun ha => ?_) (fun ha => ?_)
      · exact absurd ha (nI_ge (by omega) (by omega))
      refine ev_iload_n (pc := 14) d_N_sync_14 rfl rfl ?_
      refine ev_aload_n (pc := 15) d_N_sync_15 rfl rfl (by first | rfl | exact mm_rk_rf _) ?_
      refine ev_aload_n (pc := 16) d_N_sync_16 rfl rfl (by first | rfl | exact mm_rk_rf _) ?_
      refine ev_gR (pc := 17) sh_N (by rfl) fl_N_41 d_N_sync_17 ?_
      refine ev_iload_n (pc := 20) d_N_sync_20 rfl rfl ?_
      refine ev_rIN (pc := 21) sh_N_block (by omega) (by decide) d_N_sync_21 ?_
      refine ev_cV (pc := 22) (ct_N_inOld E C hm es s4 _) cl_N_160 jv_N_inOld ⟨(Nat.le_of_ble_eq_true rfl), (Nat.le_of_ble_eq_true rfl)⟩ rfl sh_N rfl (Nat.le_of_ble_eq_true rfl) d_N_sync_22 ⟨Nat.zero_le _, Nat.zero_le _⟩ ?_
      refine ev_if_eq (pc := 25) (tgt := 32) d_N_sync_25 (by decide) (fun hd => ?_) (fun hd => ?_)
      · rw [b3_0] at hd
        refine ev_iconst (pc := 32) (v := 1) d_N_sync_32 rfl ?_
        first | refine ev_iaddN (pc := 33) d_N_sync_33 ?_ | refine ev_iadd (pc := 33) d_N_sync_33 ?_
        refine ev_istore_n (pc := 34) d_N_sync_34 rfl (Nat.le_of_ble_eq_true rfl) rfl ?_
        try dsimp only [List.set]
        refine ev_iinc (pc := 35) d_N_sync_35 (Nat.le_of_ble_eq_true rfl) rfl (nx_inc _) rfl ?_
        try dsimp only [List.set]
        refine ev_goto (pc := 38) (tgt := 4) d_N_sync_38 (by decide) ?_
        simp only [fx_c, b4_t hd, if_true] at hn
        exact ih (i + 1) (n + 1) (by omega) (by omega)
      · rw [b3_0, Classical.not_not] at hd
        refine ev_iconst (pc := 28) (v := nI 0) d_N_sync_28 rfl ?_
        refine ev_goto (pc := 29) (tgt := 33) d_N_sync_29 (by decide) ?_
        first | refine ev_iaddN (pc := 33) d_N_sync_33 ?_ | refine ev_iadd (pc := 33) d_N_sync_33 ?_
        refine ev_istore_n (pc := 34) d_N_sync_34 rfl (Nat.le_of_ble_eq_true rfl) rfl ?_
        try dsimp only [List.set]
        refine ev_iinc (pc := 35) d_N_sync_35 (Nat.le_of_ble_eq_true rfl) rfl (nx_inc _) rfl ?_
        try dsimp only [List.set]
        refine ev_goto (pc := 38) (tgt := 4) d_N_sync_38 (by decide) ?_
        simp only [fx_c, b4_f (fun z : ¬ no_P C s (C 215 i) => z hd)] at hn
        exact ih (i + 1) (n + 0) (by omega) (by simpa using hn)
  refine mm_mtL (by decide) (by rfl) (Nat.le_of_ble_eq_true rfl) rfl ?_
  refine ev_iconst (pc := 0) (v := 1) d_N_sync_0 rfl ?_
  refine ev_istore_n (pc := 1) d_N_sync_1 rfl (Nat.le_of_ble_eq_true rfl) rfl ?_
  try dsimp only [List.set]
  refine ev_iconst (pc := 2) (v := 0) d_N_sync_2 rfl ?_
  refine ev_istore_n (pc := 3) d_N_sync_3 rfl (Nat.le_of_ble_eq_true rfl) rfl ?_
  try dsimp only [List.set]
  exact loop (nm C 0) 0 1 (by omega) (by rw [Nat.add_comm]; rfl)
def nV_C (C : Nat → Nat → Int32) (s : Nat) : Nat → Nat → Int32 := cs_C (ct_C (ct_C C 0 1) 0 (2 + s)) 204 14 (nI (s + 1))
theorem d_N_snapshot_0 : decode b_N_snapshot 0 = .ok (.aload_n 0, 1) := by decide +kernel
theorem d_N_snapshot_1 : decode b_N_snapshot 1 = .ok (.getfield 157, 3) := by decide +kernel
theorem d_N_snapshot_4 : decode b_N_snapshot 4 = .ok (.iconst 4, 1) := by decide +kernel
theorem d_N_snapshot_5 : decode b_N_snapshot 5 = .ok (.if_icmp .ne 5, 3) := by decide +kernel
theorem d_N_snapshot_8 : decode b_N_snapshot 8 = .ok (.iconst (-1), 1) := by decide +kernel
theorem d_N_snapshot_9 : decode b_N_snapshot 9 = .ok (.ireturn, 1) := by decide +kernel
theorem d_N_snapshot_10 : decode b_N_snapshot 10 = .ok (.aload_n 0, 1) := by decide +kernel
theorem d_N_snapshot_11 : decode b_N_snapshot 11 = .ok (.iconst (-1), 1) := by decide +kernel
theorem d_N_snapshot_12 : decode b_N_snapshot 12 = .ok (.invokevirtual 231, 3) := by decide +kernel
theorem d_N_snapshot_15 : decode b_N_snapshot 15 = .ok (.pop, 1) := by decide +kernel
theorem d_N_snapshot_16 : decode b_N_snapshot 16 = .ok (.aload_n 0, 1) := by decide +kernel
theorem d_N_snapshot_17 : decode b_N_snapshot 17 = .ok (.iconst 0, 1) := by decide +kernel
theorem d_N_snapshot_18 : decode b_N_snapshot 18 = .ok (.iconst 2, 1) := by decide +kernel
theorem d_N_snapshot_19 : decode b_N_snapshot 19 = .ok (.aload_n 0, 1) := by decide +kernel
theorem d_N_snapshot_20 : decode b_N_snapshot 20 = .ok (.getfield 157, 3) := by decide +kernel
theorem d_N_snapshot_23 : decode b_N_snapshot 23 = .ok (.iadd, 1) := by decide +kernel
theorem d_N_snapshot_24 : decode b_N_snapshot 24 = .ok (.invokevirtual 225, 3) := by decide +kernel
theorem d_N_snapshot_27 : decode b_N_snapshot 27 = .ok (.aload_n 0, 1) := by decide +kernel
theorem d_N_snapshot_28 : decode b_N_snapshot 28 = .ok (.dup, 1) := by decide +kernel
theorem d_N_snapshot_29 : decode b_N_snapshot 29 = .ok (.getfield 157, 3) := by decide +kernel
theorem d_N_snapshot_32 : decode b_N_snapshot 32 = .ok (.iconst 1, 1) := by decide +kernel
theorem d_N_snapshot_33 : decode b_N_snapshot 33 = .ok (.iadd, 1) := by decide +kernel
theorem d_N_snapshot_34 : decode b_N_snapshot 34 = .ok (.putfield 157, 3) := by decide +kernel
theorem d_N_snapshot_37 : decode b_N_snapshot 37 = .ok (.aload_n 0, 1) := by decide +kernel
theorem d_N_snapshot_38 : decode b_N_snapshot 38 = .ok (.getfield 157, 3) := by decide +kernel
theorem d_N_snapshot_41 : decode b_N_snapshot 41 = .ok (.ireturn, 1) := by decide +kernel
set_option maxRecDepth 20000 in
theorem ct_N_snapshot (E : mm_En) (C : Nat → Nat → Int32) (hm : nm_ok C) {s : Nat} (es : C 204 14 = nI s) (s4 : s ≤ 4) : mm_MT E K_N_snapshot [.ref 204] (hp_H C) (mm_D (some (.int (if s < 4 then nI (s + 1) else -1))) (if s < 4 then nV_C C s else C)) := by
  refine mm_mtL (by decide) (by rfl) (Nat.le_of_ble_eq_true rfl) rfl ?_
  refine ev_aload_n (pc := 0) d_N_snapshot_0 rfl rfl (by first | rfl | exact mm_rk_rf _) ?_
  refine ev_gI (pc := 1) sh_N (by rfl) fl_N_157 d_N_snapshot_1 ?_
  rw [es]
  refine ev_iconst (pc := 4) (v := 4) d_N_snapshot_4 rfl ?_
  refine ev_icmp_ne (pc := 5) (tgt := 10) d_N_snapshot_5 (by decide) (fun ha => ?_) (fun ha => ?_)
  rotate_left
  · have hs : ¬ s < 4 := fun z => by
      have ha' : nI s = nI 4 := ha
      rw [nI_eq (by omega) (by decide)] at ha'
      omega
    rw [if_neg hs, if_neg hs]
    refine ev_iconst (pc := 8) (v := -1) d_N_snapshot_8 rfl ?_
    exact ev_iret (pc := 9) d_N_snapshot_9 rfl (Nat.zero_le _) (Nat.zero_le _) ⟨rfl, rfl⟩
  have hs : s < 4 := by
    rcases Nat.lt_or_ge s 4 with z | z
    · exact z
    · have z' : s = 4 := by omega
      subst z'
      exact absurd rfl ha
  rw [if_pos hs, if_pos hs]
  have hsy := ct_N_sync E C hm es s4 (-1)
  have e1 : nS_C C s (-1) = ct_C C 0 1 := by rw [nS_C, if_pos (Or.inl (by decide))]
  rw [e1] at hsy
  refine ev_aload_n (pc := 10) d_N_snapshot_10 rfl rfl (by first | rfl | exact mm_rk_rf _) ?_
  refine ev_iconst (pc := 11) (v := -1) d_N_snapshot_11 rfl ?_
  refine ev_cV (pc := 12) hsy cl_N_231 jv_N_sync ⟨(Nat.le_of_ble_eq_true rfl), (Nat.le_of_ble_eq_true rfl)⟩ rfl sh_N rfl (Nat.le_of_ble_eq_true rfl) d_N_snapshot_12 ⟨Nat.zero_le _, Nat.zero_le _⟩ ?_
  refine ev_pop (pc := 15) d_N_snapshot_15 (by rfl) ?_
  refine ev_aload_n (pc := 16) d_N_snapshot_16 rfl rfl (by first | rfl | exact mm_rk_rf _) ?_
  have hm1 := ct_C_nm hm (f := 0) (t := 1) (by decide) (by decide)
  refine ev_iconst (pc := 17) (v := nI 0) d_N_snapshot_17 rfl ?_
  refine ev_iconst (pc := 18) (v := nI 2) d_N_snapshot_18 rfl ?_
  refine ev_aload_n (pc := 19) d_N_snapshot_19 rfl rfl (by first | rfl | exact mm_rk_rf _) ?_
  refine ev_gI (pc := 20) sh_N (by rfl) fl_N_157 d_N_snapshot_20 ?_
  rw [ct_C4, es]
  first | refine ev_iaddN (pc := 23) d_N_snapshot_23 ?_ | refine ev_iadd (pc := 23) d_N_snapshot_23 ?_
  refine ev_cVv (pc := 24) (ct_N_copyTree E _ hm1 (f := 0) (t := 2 + s) (by decide) (by omega) (by omega)) cl_N_225 jv_N_copyTree ⟨(Nat.le_of_ble_eq_true rfl), (Nat.le_of_ble_eq_true rfl)⟩ rfl sh_N rfl (Nat.le_of_ble_eq_true rfl) d_N_snapshot_24 ⟨Nat.zero_le _, Nat.zero_le _⟩ ?_
  refine ev_aload_n (pc := 27) d_N_snapshot_27 rfl rfl (by first | rfl | exact mm_rk_rf _) ?_
  refine ev_dup (pc := 28) d_N_snapshot_28 (by rfl) ?_
  refine ev_gI (pc := 29) sh_N (by rfl) fl_N_157 d_N_snapshot_29 ?_
  rw [ct_C4, ct_C4, es]
  refine ev_iconst (pc := 32) (v := nI 1) d_N_snapshot_32 rfl ?_
  first | refine ev_iaddN (pc := 33) d_N_snapshot_33 ?_ | refine ev_iadd (pc := 33) d_N_snapshot_33 ?_
  refine ev_pI (pc := 34) sh_N (by rfl) fl_N_157 fw_9_14 (by rfl) d_N_snapshot_34 ?_
  refine ev_aload_n (pc := 37) d_N_snapshot_37 rfl rfl (by first | rfl | exact mm_rk_rf _) ?_
  refine ev_gI (pc := 38) sh_N (by rfl) fl_N_157 d_N_snapshot_38 ?_
  rw [cs_at]
  exact ev_iret (pc := 41) d_N_snapshot_41 rfl (Nat.zero_le _) (Nat.zero_le _) ⟨rfl, rfl⟩
/-- the request r: kind kd, fid f, k numbers of what is said -/
def nq_n (C : Nat → Nat → Int32) (r k : Nat) : Nat → Nat → Int32 := fun a j => if a = 225 ∧ 4 * r ≤ j ∧ j < 4 * r + k then C 226 (j - 4 * r) else C a j
def nq_C (C : Nat → Nat → Int32) (r k : Nat) (kd f : Int32) : Nat → Nat → Int32 := cs_C (nq_n (cs_C (cs_C (cs_C C 222 r kd) 223 r f) 224 r (nI k)) r k) 204 24 0
theorem d_N_send_0 : decode b_N_send 0 = .ok (.iload_n 1, 1) := by decide +kernel
theorem d_N_send_1 : decode b_N_send 1 = .ok (.invokestatic 99, 3) := by decide +kernel
theorem d_N_send_4 : decode b_N_send 4 = .ok (.ifCond .eq 48, 3) := by decide +kernel
theorem d_N_send_7 : decode b_N_send 7 = .ok (.iload_n 2, 1) := by decide +kernel
theorem d_N_send_8 : decode b_N_send 8 = .ok (.ifCond .lt 44, 3) := by decide +kernel
theorem d_N_send_11 : decode b_N_send 11 = .ok (.iload_n 2, 1) := by decide +kernel
theorem d_N_send_12 : decode b_N_send 12 = .ok (.bipush 7, 2) := by decide +kernel
theorem d_N_send_14 : decode b_N_send 14 = .ok (.if_icmp .gt 38, 3) := by decide +kernel
theorem d_N_send_17 : decode b_N_send 17 = .ok (.iload_n 3, 1) := by decide +kernel
theorem d_N_send_18 : decode b_N_send 18 = .ok (.ifCond .lt 34, 3) := by decide +kernel
theorem d_N_send_21 : decode b_N_send 21 = .ok (.iload_n 3, 1) := by decide +kernel
theorem d_N_send_22 : decode b_N_send 22 = .ok (.bipush 9, 2) := by decide +kernel
theorem d_N_send_24 : decode b_N_send 24 = .ok (.if_icmp .gt 28, 3) := by decide +kernel
theorem d_N_send_27 : decode b_N_send 27 = .ok (.iload 4, 2) := by decide +kernel
theorem d_N_send_29 : decode b_N_send 29 = .ok (.ifCond .lt 23, 3) := by decide +kernel
theorem d_N_send_32 : decode b_N_send 32 = .ok (.iload 4, 2) := by decide +kernel
theorem d_N_send_34 : decode b_N_send 34 = .ok (.iconst 5, 1) := by decide +kernel
theorem d_N_send_35 : decode b_N_send 35 = .ok (.if_icmp .gt 17, 3) := by decide +kernel
theorem d_N_send_38 : decode b_N_send 38 = .ok (.aload_n 0, 1) := by decide +kernel
theorem d_N_send_39 : decode b_N_send 39 = .ok (.getfield 69, 3) := by decide +kernel
theorem d_N_send_42 : decode b_N_send 42 = .ok (.bipush 8, 2) := by decide +kernel
theorem d_N_send_44 : decode b_N_send 44 = .ok (.iload_n 1, 1) := by decide +kernel
theorem d_N_send_45 : decode b_N_send 45 = .ok (.imul, 1) := by decide +kernel
theorem d_N_send_46 : decode b_N_send 46 = .ok (.iload_n 2, 1) := by decide +kernel
theorem d_N_send_47 : decode b_N_send 47 = .ok (.iadd, 1) := by decide +kernel
theorem d_N_send_48 : decode b_N_send 48 = .ok (.iaload, 1) := by decide +kernel
theorem d_N_send_49 : decode b_N_send 49 = .ok (.ifCond .lt 5, 3) := by decide +kernel
theorem d_N_send_52 : decode b_N_send 52 = .ok (.iconst 0, 1) := by decide +kernel
theorem d_N_send_53 : decode b_N_send 53 = .ok (.ireturn, 1) := by decide +kernel
theorem d_N_send_54 : decode b_N_send 54 = .ok (.bipush 8, 2) := by decide +kernel
theorem d_N_send_56 : decode b_N_send 56 = .ok (.iload_n 1, 1) := by decide +kernel
theorem d_N_send_57 : decode b_N_send 57 = .ok (.imul, 1) := by decide +kernel
theorem d_N_send_58 : decode b_N_send 58 = .ok (.iload_n 2, 1) := by decide +kernel
theorem d_N_send_59 : decode b_N_send 59 = .ok (.iadd, 1) := by decide +kernel
theorem d_N_send_60 : decode b_N_send 60 = .ok (.istore 5, 2) := by decide +kernel
theorem d_N_send_62 : decode b_N_send 62 = .ok (.aload_n 0, 1) := by decide +kernel
theorem d_N_send_63 : decode b_N_send 63 = .ok (.getfield 69, 3) := by decide +kernel
theorem d_N_send_66 : decode b_N_send 66 = .ok (.iload 5, 2) := by decide +kernel
theorem d_N_send_68 : decode b_N_send 68 = .ok (.iload_n 3, 1) := by decide +kernel
theorem d_N_send_69 : decode b_N_send 69 = .ok (.iastore, 1) := by decide +kernel
theorem d_N_send_70 : decode b_N_send 70 = .ok (.aload_n 0, 1) := by decide +kernel
theorem d_N_send_71 : decode b_N_send 71 = .ok (.getfield 72, 3) := by decide +kernel
theorem d_N_send_74 : decode b_N_send 74 = .ok (.iload 5, 2) := by decide +kernel
theorem d_N_send_76 : decode b_N_send 76 = .ok (.bipush 6, 2) := by decide +kernel
theorem d_N_send_78 : decode b_N_send 78 = .ok (.iload_n 1, 1) := by decide +kernel
theorem d_N_send_79 : decode b_N_send 79 = .ok (.imul, 1) := by decide +kernel
theorem d_N_send_80 : decode b_N_send 80 = .ok (.iload 4, 2) := by decide +kernel
theorem d_N_send_82 : decode b_N_send 82 = .ok (.iadd, 1) := by decide +kernel
theorem d_N_send_83 : decode b_N_send 83 = .ok (.iastore, 1) := by decide +kernel
theorem d_N_send_84 : decode b_N_send 84 = .ok (.aload_n 0, 1) := by decide +kernel
theorem d_N_send_85 : decode b_N_send 85 = .ok (.getfield 75, 3) := by decide +kernel
theorem d_N_send_88 : decode b_N_send 88 = .ok (.iload 5, 2) := by decide +kernel
theorem d_N_send_90 : decode b_N_send 90 = .ok (.aload_n 0, 1) := by decide +kernel
theorem d_N_send_91 : decode b_N_send 91 = .ok (.getfield 93, 3) := by decide +kernel
theorem d_N_send_94 : decode b_N_send 94 = .ok (.iastore, 1) := by decide +kernel
theorem d_N_send_95 : decode b_N_send 95 = .ok (.iconst 0, 1) := by decide +kernel
theorem d_N_send_96 : decode b_N_send 96 = .ok (.istore 6, 2) := by decide +kernel
theorem d_N_send_98 : decode b_N_send 98 = .ok (.iload 6, 2) := by decide +kernel
theorem d_N_send_100 : decode b_N_send 100 = .ok (.aload_n 0, 1) := by decide +kernel
theorem d_N_send_101 : decode b_N_send 101 = .ok (.getfield 93, 3) := by decide +kernel
theorem d_N_send_104 : decode b_N_send 104 = .ok (.if_icmp .ge 28, 3) := by decide +kernel
theorem d_N_send_107 : decode b_N_send 107 = .ok (.aload_n 0, 1) := by decide +kernel
theorem d_N_send_108 : decode b_N_send 108 = .ok (.getfield 78, 3) := by decide +kernel
theorem d_N_send_111 : decode b_N_send 111 = .ok (.iconst 4, 1) := by decide +kernel
theorem d_N_send_112 : decode b_N_send 112 = .ok (.iload 5, 2) := by decide +kernel
theorem d_N_send_114 : decode b_N_send 114 = .ok (.imul, 1) := by decide +kernel
theorem d_N_send_115 : decode b_N_send 115 = .ok (.iload 6, 2) := by decide +kernel
theorem d_N_send_117 : decode b_N_send 117 = .ok (.iadd, 1) := by decide +kernel
theorem d_N_send_118 : decode b_N_send 118 = .ok (.aload_n 0, 1) := by decide +kernel
theorem d_N_send_119 : decode b_N_send 119 = .ok (.getfield 81, 3) := by decide +kernel
theorem d_N_send_122 : decode b_N_send 122 = .ok (.iload 6, 2) := by decide +kernel
theorem d_N_send_124 : decode b_N_send 124 = .ok (.iaload, 1) := by decide +kernel
theorem d_N_send_125 : decode b_N_send 125 = .ok (.iastore, 1) := by decide +kernel
theorem d_N_send_126 : decode b_N_send 126 = .ok (.iinc 6 1, 3) := by decide +kernel
theorem d_N_send_129 : decode b_N_send 129 = .ok (.goto (-31), 3) := by decide +kernel
theorem d_N_send_132 : decode b_N_send 132 = .ok (.aload_n 0, 1) := by decide +kernel
theorem d_N_send_133 : decode b_N_send 133 = .ok (.iconst 0, 1) := by decide +kernel
theorem d_N_send_134 : decode b_N_send 134 = .ok (.putfield 93, 3) := by decide +kernel
theorem d_N_send_137 : decode b_N_send 137 = .ok (.iconst 1, 1) := by decide +kernel
theorem d_N_send_138 : decode b_N_send 138 = .ok (.ireturn, 1) := by decide +kernel
set_option maxRecDepth 20000 in
theorem ct_N_send (E : mm_En) (C : Nat → Nat → Int32) {c t k : Nat} (hc : c < 2) (ht : t < 8) (hk : C 204 24 = nI k) (h4 : k ≤ 4) (kd f : Int32) (hok : ¬ kd < 0 ∧ ¬ 9 < kd ∧ ¬ f < 0 ∧ ¬ 5 < f ∧ C 222 (8 * c + t) < 0) : mm_MT E K_N_send [.ref 204, .int (nI c), .int (nI t), .int kd, .int f] (hp_H C) (mm_D (some (.int 1)) (nq_C C (8 * c + t) k kd (nI (6 * c) + f))) := by
  obtain ⟨o1, o2, o3, o4, o5⟩ := hok
  obtain ⟨r, er⟩ : ∃ r, r = 8 * c + t := ⟨_, rfl⟩
  have hr : r < 16 := by omega
  rw [← er] at o5 ⊢
  obtain ⟨D, eD⟩ : ∃ D, D = cs_C (cs_C (cs_C C 222 r kd) 223 r (nI (6 * c) + f)) 224 r (nI k) := ⟨_, rfl⟩
  have eD4 : ∀ i, nq_n D r i 204 24 = nI k := by
    intro i
    simp only [nq_n]
    rw [if_neg (by omega), eD, cs_ne _ _ (by omega), cs_ne _ _ (by omega), cs_ne _ _ (by omega)]
    exact hk
  have loop : ∀ d i : Nat, i + d = k → ev_At E K_N_send 98 [some (.ref 204), some (.int (nI c)), some (.int (nI t)), some (.int kd), some (.int f), some (.int (nI r)), some (.int (nI i))] [] (hp_H (nq_n D r i)) 0 0 (mm_D (some (.int 1)) (nq_C C r k kd (nI (6 * c) + f))) := by
    intro d
    induction d with
    | zero =>
      intro i hi
      have hi16 : i = k := by omega
      subst hi16
      refine ev_iload (pc := 98) d_N_send_98 rfl ?_
      refine ev_aload_n (pc := 100) d_N_send_100 rfl rfl (by first | rfl | exact mm_rk_rf _) ?_
      refine ev_gI (pc := 101) sh_N (by rfl) fl_N_93 d_N_send_101 ?_
      rw [eD4]
      refine ev_icmp_ge (pc := 104) (tgt := 132) d_N_send_104 (by decide) (fun ha => ?_) (fun ha => ?_)
      · rw [nq_C, ← eD]
        refine ev_aload_n (pc := 132) d_N_send_132 rfl rfl (by first | rfl | exact mm_rk_rf _) ?_
        refine ev_iconst (pc := 133) (v := 0) d_N_send_133 rfl ?_
        refine ev_pI (pc := 134) sh_N (by rfl) fl_N_93 fw_9_24 (by rfl) d_N_send_134 ?_
        refine ev_iconst (pc := 137) (v := 1) d_N_send_137 rfl ?_
        exact ev_zret (pc := 138) d_N_send_138 rfl (by first | exact Or.inl rfl | exact Or.inr rfl | assumption) (Nat.zero_le _) (Nat.zero_le _) ⟨rfl, rfl⟩
      · exact absurd (Int32.le_refl _) ha
    | succ d ih =>
      intro i hi
      refine ev_iload (pc := 98) d_N_send_98 rfl ?_
      refine ev_aload_n (pc := 100) d_N_send_100 rfl rfl (by first | rfl | exact mm_rk_rf _) ?_
      refine ev_gI (pc := 101) sh_N (by rfl) fl_N_93 d_N_send_101 ?_
      rw [eD4]
      refine ev_icmp_ge (pc := 104) (tgt := 132) d_N_send_104 (by decide) (fun ha => ?_) (fun ha => ?_)
      · exact absurd ha (nI_ge (by omega) (by omega))
      refine ev_aload_n (pc := 107) d_N_send_107 rfl rfl (by first | rfl | exact mm_rk_rf _) ?_
      refine ev_gR (pc := 108) sh_N (by rfl) fl_N_78 d_N_send_108 ?_
      refine ev_iconst (pc := 111) (v := nI 4) d_N_send_111 rfl ?_
      refine ev_iload (pc := 112) d_N_send_112 rfl ?_
      first | refine ev_imulN (pc := 114) d_N_send_114 ?_ | refine ev_imul (pc := 114) d_N_send_114 ?_
      refine ev_iload (pc := 115) d_N_send_115 rfl ?_
      first | refine ev_iaddN (pc := 117) d_N_send_117 ?_ | refine ev_iadd (pc := 117) d_N_send_117 ?_
      refine ev_aload_n (pc := 118) d_N_send_118 rfl rfl (by first | rfl | exact mm_rk_rf _) ?_
      refine ev_gR (pc := 119) sh_N (by rfl) fl_N_81 d_N_send_119 ?_
      refine ev_iload (pc := 122) d_N_send_122 rfl ?_
      refine ev_rIN (pc := 124) sh_N_saying (by omega) (by decide) d_N_send_124 ?_
      refine ev_wIN (pc := 125) sh_N_numbers (by omega) (by decide) d_N_send_125 ?_
      have e : cs_C (nq_n D r i) 225 (4 * r + i) (nq_n D r i 226 i) = nq_n D r (i + 1) := by
        funext a j
        rw [cs_app]
        simp only [nq_n]
        rw [if_neg (show ¬ (226 = 225 ∧ 4 * r ≤ i ∧ i < 4 * r + i) by omega)]
        by_cases h1 : a = 225 ∧ j = 4 * r + i
        · rw [if_pos h1, if_pos (by omega)]
          congr 1
          omega
        · rw [if_neg h1]
          by_cases h2 : a = 225 ∧ 4 * r ≤ j ∧ j < 4 * r + i
          · rw [if_pos h2, if_pos (by omega)]
          · rw [if_neg h2, if_neg (by omega)]
      rw [e]
      refine ev_iinc (pc := 126) d_N_send_126 (Nat.le_of_ble_eq_true rfl) rfl (nx_inc _) rfl ?_
      try dsimp only [List.set]
      refine ev_goto (pc := 129) (tgt := 98) d_N_send_129 (by decide) ?_
      exact ih (i + 1) (by omega)
  refine mm_mtL (by decide) (by rfl) (Nat.le_of_ble_eq_true rfl) rfl ?_
  refine ev_iload_n (pc := 0) d_N_send_0 rfl rfl ?_
  refine ev_cS (pc := 1) (ct_N_isOneT E C hc) cl_N_99 js_N_isOne ⟨(Nat.le_of_ble_eq_true rfl), (Nat.le_of_ble_eq_true rfl)⟩ rfl rfl (Nat.le_of_ble_eq_true rfl) d_N_send_1 ⟨Nat.zero_le _, Nat.zero_le _⟩ ?_
  refine ev_if_eq (pc := 4) (tgt := 52) d_N_send_4 (by decide) (fun ha => ?_) (fun ha => ?_)
  · exact absurd ha (by decide)
  refine ev_iload_n (pc := 7) d_N_send_7 rfl rfl ?_
  refine ev_if_lt (pc := 8) (tgt := 52) d_N_send_8 (by decide) (fun ha => ?_) (fun ha => ?_)
  · exact absurd ha (nI_pos (by omega))
  refine ev_iload_n (pc := 11) d_N_send_11 rfl rfl ?_
  refine ev_bipush (pc := 12) (v := 7) d_N_send_12 (by decide) ?_
  refine ev_icmp_gt (pc := 14) (tgt := 52) d_N_send_14 (by decide) (fun ha => ?_) (fun ha => ?_)
  · exact absurd ha (nI_nlt (show t ≤ 7 by omega) (by decide))
  refine ev_iload_n (pc := 17) d_N_send_17 rfl rfl ?_
  refine ev_if_lt (pc := 18) (tgt := 52) d_N_send_18 (by decide) (fun ha => ?_) (fun ha => ?_)
  · exact absurd ha o1
  refine ev_iload_n (pc := 21) d_N_send_21 rfl rfl ?_
  refine ev_bipush (pc := 22) (v := 9) d_N_send_22 (by decide) ?_
  refine ev_icmp_gt (pc := 24) (tgt := 52) d_N_send_24 (by decide) (fun ha => ?_) (fun ha => ?_)
  · exact absurd ha o2
  refine ev_iload (pc := 27) d_N_send_27 rfl ?_
  refine ev_if_lt (pc := 29) (tgt := 52) d_N_send_29 (by decide) (fun ha => ?_) (fun ha => ?_)
  · exact absurd ha o3
  refine ev_iload (pc := 32) d_N_send_32 rfl ?_
  refine ev_iconst (pc := 34) (v := 5) d_N_send_34 rfl ?_
  refine ev_icmp_gt (pc := 35) (tgt := 52) d_N_send_35 (by decide) (fun ha => ?_) (fun ha => ?_)
  · exact absurd ha o4
  refine ev_aload_n (pc := 38) d_N_send_38 rfl rfl (by first | rfl | exact mm_rk_rf _) ?_
  refine ev_gR (pc := 39) sh_N (by rfl) fl_N_69 d_N_send_39 ?_
  refine ev_bipush (pc := 42) (v := nI 8) d_N_send_42 (by decide) ?_
  refine ev_iload_n (pc := 44) d_N_send_44 rfl rfl ?_
  first | refine ev_imulN (pc := 45) d_N_send_45 ?_ | refine ev_imul (pc := 45) d_N_send_45 ?_
  refine ev_iload_n (pc := 46) d_N_send_46 rfl rfl ?_
  first | refine ev_iaddN (pc := 47) d_N_send_47 ?_ | refine ev_iadd (pc := 47) d_N_send_47 ?_
  rw [← er]
  refine ev_rIN (pc := 48) sh_N_kind (by omega) (by decide) d_N_send_48 ?_
  refine ev_if_lt (pc := 49) (tgt := 54) d_N_send_49 (by decide) (fun ha => ?_) (fun ha => ?_)
  rotate_left
  · exact absurd o5 ha
  refine ev_bipush (pc := 54) (v := nI 8) d_N_send_54 (by decide) ?_
  refine ev_iload_n (pc := 56) d_N_send_56 rfl rfl ?_
  first | refine ev_imulN (pc := 57) d_N_send_57 ?_ | refine ev_imul (pc := 57) d_N_send_57 ?_
  refine ev_iload_n (pc := 58) d_N_send_58 rfl rfl ?_
  first | refine ev_iaddN (pc := 59) d_N_send_59 ?_ | refine ev_iadd (pc := 59) d_N_send_59 ?_
  rw [← er]
  refine ev_istore (pc := 60) d_N_send_60 (Nat.le_of_ble_eq_true rfl) rfl ?_
  try dsimp only [List.set]
  refine ev_aload_n (pc := 62) d_N_send_62 rfl rfl (by first | rfl | exact mm_rk_rf _) ?_
  refine ev_gR (pc := 63) sh_N (by rfl) fl_N_69 d_N_send_63 ?_
  refine ev_iload (pc := 66) d_N_send_66 rfl ?_
  refine ev_iload_n (pc := 68) d_N_send_68 rfl rfl ?_
  refine ev_wIN (pc := 69) sh_N_kind (by omega) (by decide) d_N_send_69 ?_
  refine ev_aload_n (pc := 70) d_N_send_70 rfl rfl (by first | rfl | exact mm_rk_rf _) ?_
  refine ev_gR (pc := 71) sh_N (by rfl) fl_N_72 d_N_send_71 ?_
  refine ev_iload (pc := 74) d_N_send_74 rfl ?_
  refine ev_bipush (pc := 76) (v := nI 6) d_N_send_76 (by decide) ?_
  refine ev_iload_n (pc := 78) d_N_send_78 rfl rfl ?_
  first | refine ev_imulN (pc := 79) d_N_send_79 ?_ | refine ev_imul (pc := 79) d_N_send_79 ?_
  refine ev_iload (pc := 80) d_N_send_80 rfl ?_
  first | refine ev_iaddN (pc := 82) d_N_send_82 ?_ | refine ev_iadd (pc := 82) d_N_send_82 ?_
  refine ev_wIN (pc := 83) sh_N_about (by omega) (by decide) d_N_send_83 ?_
  refine ev_aload_n (pc := 84) d_N_send_84 rfl rfl (by first | rfl | exact mm_rk_rf _) ?_
  refine ev_gR (pc := 85) sh_N (by rfl) fl_N_75 d_N_send_85 ?_
  refine ev_iload (pc := 88) d_N_send_88 rfl ?_
  refine ev_aload_n (pc := 90) d_N_send_90 rfl rfl (by first | rfl | exact mm_rk_rf _) ?_
  refine ev_gI (pc := 91) sh_N (by rfl) fl_N_93 d_N_send_91 ?_
  rw [cs_ne _ _ (by omega), cs_ne _ _ (by omega), hk]
  refine ev_wIN (pc := 94) sh_N_count (by omega) (by decide) d_N_send_94 ?_
  refine ev_iconst (pc := 95) (v := 0) d_N_send_95 rfl ?_
  refine ev_istore (pc := 96) d_N_send_96 (Nat.le_of_ble_eq_true rfl) rfl ?_
  try dsimp only [List.set]
  rw [← eD]
  have h2 := loop k 0 (by omega)
  have e0 : nq_n D r 0 = D := by
    funext a j
    simp only [nq_n]
    rw [if_neg (by omega)]
  rw [e0] at h2
  exact h2
set_option maxRecDepth 20000 in
theorem ct_N_sendF (E : mm_En) (C : Nat → Nat → Int32) (x y kd f : Int32) (hno : ∀ c t : Nat, c < 2 → t < 8 → x = nI c → y = nI t → ¬ (¬ kd < 0 ∧ ¬ 9 < kd ∧ ¬ f < 0 ∧ ¬ 5 < f ∧ C 222 (8 * c + t) < 0)) : mm_MT E K_N_send [.ref 204, .int x, .int y, .int kd, .int f] (hp_H C) (mm_D (some (.int 0)) C) := by
  rcases ix_or x (n := 2) (by decide) with ⟨c, hc, rfl⟩ | hn
  rotate_left
  · refine mm_mtL (by decide) (by rfl) (Nat.le_of_ble_eq_true rfl) rfl ?_
    refine ev_iload_n (pc := 0) d_N_send_0 rfl rfl ?_
    refine ev_cS (pc := 1) (ct_N_isOneF E C hn) cl_N_99 js_N_isOne ⟨(Nat.le_of_ble_eq_true rfl), (Nat.le_of_ble_eq_true rfl)⟩ rfl rfl (Nat.le_of_ble_eq_true rfl) d_N_send_1 ⟨Nat.zero_le _, Nat.zero_le _⟩ ?_
    refine ev_if_eq (pc := 4) (tgt := 52) d_N_send_4 (by decide) (fun ha => ?_) (fun ha => ?_)
    · refine ev_iconst (pc := 52) (v := 0) d_N_send_52 rfl ?_
      exact ev_zret (pc := 53) d_N_send_53 rfl (by first | exact Or.inl rfl | exact Or.inr rfl | assumption) (Nat.zero_le _) (Nat.zero_le _) ⟨rfl, rfl⟩
    · exact absurd rfl ha
  refine mm_mtL (by decide) (by rfl) (Nat.le_of_ble_eq_true rfl) rfl ?_
  refine ev_iload_n (pc := 0) d_N_send_0 rfl rfl ?_
  refine ev_cS (pc := 1) (ct_N_isOneT E C hc) cl_N_99 js_N_isOne ⟨(Nat.le_of_ble_eq_true rfl), (Nat.le_of_ble_eq_true rfl)⟩ rfl rfl (Nat.le_of_ble_eq_true rfl) d_N_send_1 ⟨Nat.zero_le _, Nat.zero_le _⟩ ?_
  refine ev_if_eq (pc := 4) (tgt := 52) d_N_send_4 (by decide) (fun ha => ?_) (fun ha => ?_)
  · exact absurd ha (by decide)
  refine ev_iload_n (pc := 7) d_N_send_7 rfl rfl ?_
  refine ev_if_lt (pc := 8) (tgt := 52) d_N_send_8 (by decide) (fun h1 => ?_) (fun h1 => ?_)
  · refine ev_iconst (pc := 52) (v := 0) d_N_send_52 rfl ?_
    exact ev_zret (pc := 53) d_N_send_53 rfl (by first | exact Or.inl rfl | exact Or.inr rfl | assumption) (Nat.zero_le _) (Nat.zero_le _) ⟨rfl, rfl⟩
  refine ev_iload_n (pc := 11) d_N_send_11 rfl rfl ?_
  refine ev_bipush (pc := 12) (v := 7) d_N_send_12 (by decide) ?_
  refine ev_icmp_gt (pc := 14) (tgt := 52) d_N_send_14 (by decide) (fun h2 => ?_) (fun h2 => ?_)
  · refine ev_iconst (pc := 52) (v := 0) d_N_send_52 rfl ?_
    exact ev_zret (pc := 53) d_N_send_53 rfl (by first | exact Or.inl rfl | exact Or.inr rfl | assumption) (Nat.zero_le _) (Nat.zero_le _) ⟨rfl, rfl⟩
  refine ev_iload_n (pc := 17) d_N_send_17 rfl rfl ?_
  refine ev_if_lt (pc := 18) (tgt := 52) d_N_send_18 (by decide) (fun h3 => ?_) (fun h3 => ?_)
  · refine ev_iconst (pc := 52) (v := 0) d_N_send_52 rfl ?_
    exact ev_zret (pc := 53) d_N_send_53 rfl (by first | exact Or.inl rfl | exact Or.inr rfl | assumption) (Nat.zero_le _) (Nat.zero_le _) ⟨rfl, rfl⟩
  refine ev_iload_n (pc := 21) d_N_send_21 rfl rfl ?_
  refine ev_bipush (pc := 22) (v := 9) d_N_send_22 (by decide) ?_
  refine ev_icmp_gt (pc := 24) (tgt := 52) d_N_send_24 (by decide) (fun h4 => ?_) (fun h4 => ?_)
  · refine ev_iconst (pc := 52) (v := 0) d_N_send_52 rfl ?_
    exact ev_zret (pc := 53) d_N_send_53 rfl (by first | exact Or.inl rfl | exact Or.inr rfl | assumption) (Nat.zero_le _) (Nat.zero_le _) ⟨rfl, rfl⟩
  refine ev_iload (pc := 27) d_N_send_27 rfl ?_
  refine ev_if_lt (pc := 29) (tgt := 52) d_N_send_29 (by decide) (fun h5 => ?_) (fun h5 => ?_)
  · refine ev_iconst (pc := 52) (v := 0) d_N_send_52 rfl ?_
    exact ev_zret (pc := 53) d_N_send_53 rfl (by first | exact Or.inl rfl | exact Or.inr rfl | assumption) (Nat.zero_le _) (Nat.zero_le _) ⟨rfl, rfl⟩
  refine ev_iload (pc := 32) d_N_send_32 rfl ?_
  refine ev_iconst (pc := 34) (v := 5) d_N_send_34 rfl ?_
  refine ev_icmp_gt (pc := 35) (tgt := 52) d_N_send_35 (by decide) (fun h6 => ?_) (fun h6 => ?_)
  · refine ev_iconst (pc := 52) (v := 0) d_N_send_52 rfl ?_
    exact ev_zret (pc := 53) d_N_send_53 rfl (by first | exact Or.inl rfl | exact Or.inr rfl | assumption) (Nat.zero_le _) (Nat.zero_le _) ⟨rfl, rfl⟩
  obtain ⟨t, ht, rfl⟩ : ∃ t : Nat, t < 8 ∧ y = nI t := by
    rcases ix_or y (n := 8) (by decide) with z | z
    · exact z
    · exact (nx_gt (n := 7) z (by decide) h1 h2).elim
  refine ev_aload_n (pc := 38) d_N_send_38 rfl rfl (by first | rfl | exact mm_rk_rf _) ?_
  refine ev_gR (pc := 39) sh_N (by rfl) fl_N_69 d_N_send_39 ?_
  refine ev_bipush (pc := 42) (v := nI 8) d_N_send_42 (by decide) ?_
  refine ev_iload_n (pc := 44) d_N_send_44 rfl rfl ?_
  first | refine ev_imulN (pc := 45) d_N_send_45 ?_ | refine ev_imul (pc := 45) d_N_send_45 ?_
  refine ev_iload_n (pc := 46) d_N_send_46 rfl rfl ?_
  first | refine ev_iaddN (pc := 47) d_N_send_47 ?_ | refine ev_iadd (pc := 47) d_N_send_47 ?_
  refine ev_rIN (pc := 48) sh_N_kind (by omega) (by decide) d_N_send_48 ?_
  refine ev_if_lt (pc := 49) (tgt := 54) d_N_send_49 (by decide) (fun h7 => ?_) (fun h7 => ?_)
  · exact absurd ⟨h3, h4, h5, h6, h7⟩ (hno c t hc ht rfl rfl)
  · refine ev_iconst (pc := 52) (v := 0) d_N_send_52 rfl ?_
    exact ev_zret (pc := 53) d_N_send_53 rfl (by first | exact Or.inl rfl | exact Or.inr rfl | assumption) (Nat.zero_le _) (Nat.zero_le _) ⟨rfl, rfl⟩
